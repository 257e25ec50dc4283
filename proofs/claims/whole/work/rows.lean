section
-- ===== PART A: goes FIRST, ahead of the names: the tables' words, and 'selects' of the private methods out of them =====
/-- a private method of a class that the tables say can be made, by its rows of tables_1 -/
def lw_okq (q : MethodName × Nat) : Prop := (q.1.cls ≠ "java/lang/invoke/MethodHandle" ∧ q.1.cls ≠ "java/lang/invoke/VarHandle") ∧ Cond.instantiable q.1.cls q.2 ∈ tables_1 ∧ Cond.privateMethod q.1 ∈ tables_1 ∧ Cond.instanceMethod q.1 ∈ tables_1
theorem lw_p0 : lw_okq (⟨"FairWheel$Kernel", "programAt", "(I)LFairWheel$Program;"⟩, 12) := ⟨⟨by decide +kernel, by decide +kernel⟩, List.mem_of_getElem? (i := 20) (by decide +kernel), List.mem_of_getElem? (i := 233) (by decide +kernel), List.mem_of_getElem? (i := 234) (by decide +kernel)⟩
theorem lw_p1 : lw_okq (⟨"FairWheel", "refused", "(I)I"⟩, 7) := ⟨⟨by decide +kernel, by decide +kernel⟩, List.mem_of_getElem? (i := 12) (by decide +kernel), List.mem_of_getElem? (i := 237) (by decide +kernel), List.mem_of_getElem? (i := 238) (by decide +kernel)⟩
theorem lw_p2 : lw_okq (⟨"FairWheel$Program", "length", "()I"⟩, 2) := ⟨⟨by decide +kernel, by decide +kernel⟩, List.mem_of_getElem? (i := 128) (by decide +kernel), List.mem_of_getElem? (i := 241) (by decide +kernel), List.mem_of_getElem? (i := 242) (by decide +kernel)⟩
theorem lw_p3 : lw_okq (⟨"FairWheel", "noted", "(IJJJ)Z"⟩, 7) := ⟨⟨by decide +kernel, by decide +kernel⟩, List.mem_of_getElem? (i := 12) (by decide +kernel), List.mem_of_getElem? (i := 248) (by decide +kernel), List.mem_of_getElem? (i := 249) (by decide +kernel)⟩
theorem lw_p4 : lw_okq (⟨"FairWheel$Notes", "add", "(IJJJ)Z"⟩, 2) := ⟨⟨by decide +kernel, by decide +kernel⟩, List.mem_of_getElem? (i := 192) (by decide +kernel), List.mem_of_getElem? (i := 252) (by decide +kernel), List.mem_of_getElem? (i := 253) (by decide +kernel)⟩
theorem lw_p5 : lw_okq (⟨"FairWheel$Program", "extend", "(JI)I"⟩, 2) := ⟨⟨by decide +kernel, by decide +kernel⟩, List.mem_of_getElem? (i := 128) (by decide +kernel), List.mem_of_getElem? (i := 273) (by decide +kernel), List.mem_of_getElem? (i := 274) (by decide +kernel)⟩
theorem lw_p6 : lw_okq (⟨"FairWheel$Kernel", "addTask", "(III)I"⟩, 12) := ⟨⟨by decide +kernel, by decide +kernel⟩, List.mem_of_getElem? (i := 20) (by decide +kernel), List.mem_of_getElem? (i := 294) (by decide +kernel), List.mem_of_getElem? (i := 295) (by decide +kernel)⟩
theorem lw_p7 : lw_okq (⟨"FairWheel$Kernel", "leastVirtual", "()J"⟩, 12) := ⟨⟨by decide +kernel, by decide +kernel⟩, List.mem_of_getElem? (i := 20) (by decide +kernel), List.mem_of_getElem? (i := 298) (by decide +kernel), List.mem_of_getElem? (i := 299) (by decide +kernel)⟩
theorem lw_p8 : lw_okq (⟨"FairWheel$Task", "begin", "(IIIJ)V"⟩, 19) := ⟨⟨by decide +kernel, by decide +kernel⟩, List.mem_of_getElem? (i := 45) (by decide +kernel), List.mem_of_getElem? (i := 302) (by decide +kernel), List.mem_of_getElem? (i := 303) (by decide +kernel)⟩
theorem lw_p9 : lw_okq (⟨"FairWheel$Task", "startPeriod", "(III)V"⟩, 19) := ⟨⟨by decide +kernel, by decide +kernel⟩, List.mem_of_getElem? (i := 45) (by decide +kernel), List.mem_of_getElem? (i := 306) (by decide +kernel), List.mem_of_getElem? (i := 307) (by decide +kernel)⟩
theorem lw_p10 : lw_okq (⟨"FairWheel$Kernel", "unendedTask", "(I)LFairWheel$Task;"⟩, 12) := ⟨⟨by decide +kernel, by decide +kernel⟩, List.mem_of_getElem? (i := 20) (by decide +kernel), List.mem_of_getElem? (i := 314) (by decide +kernel), List.mem_of_getElem? (i := 315) (by decide +kernel)⟩
theorem lw_p11 : lw_okq (⟨"FairWheel$Kernel", "taskAt", "(I)LFairWheel$Task;"⟩, 12) := ⟨⟨by decide +kernel, by decide +kernel⟩, List.mem_of_getElem? (i := 20) (by decide +kernel), List.mem_of_getElem? (i := 318) (by decide +kernel), List.mem_of_getElem? (i := 319) (by decide +kernel)⟩
theorem lw_p12 : lw_okq (⟨"FairWheel$Task", "changeShare", "(I)I"⟩, 19) := ⟨⟨by decide +kernel, by decide +kernel⟩, List.mem_of_getElem? (i := 45) (by decide +kernel), List.mem_of_getElem? (i := 322) (by decide +kernel), List.mem_of_getElem? (i := 323) (by decide +kernel)⟩
theorem lw_p13 : lw_okq (⟨"FairWheel$Task", "hasDeadline", "()Z"⟩, 19) := ⟨⟨by decide +kernel, by decide +kernel⟩, List.mem_of_getElem? (i := 45) (by decide +kernel), List.mem_of_getElem? (i := 331) (by decide +kernel), List.mem_of_getElem? (i := 332) (by decide +kernel)⟩
theorem lw_p14 : lw_okq (⟨"FairWheel$Kernel", "changeProcessors", "(I)I"⟩, 12) := ⟨⟨by decide +kernel, by decide +kernel⟩, List.mem_of_getElem? (i := 20) (by decide +kernel), List.mem_of_getElem? (i := 340) (by decide +kernel), List.mem_of_getElem? (i := 341) (by decide +kernel)⟩
theorem lw_p15 : lw_okq (⟨"FairWheel$Kernel", "holderOf", "(I)I"⟩, 12) := ⟨⟨by decide +kernel, by decide +kernel⟩, List.mem_of_getElem? (i := 20) (by decide +kernel), List.mem_of_getElem? (i := 348) (by decide +kernel), List.mem_of_getElem? (i := 349) (by decide +kernel)⟩
def lw_privs_1 : List (MethodName × Nat) := [(⟨"FairWheel$Kernel", "programAt", "(I)LFairWheel$Program;"⟩, 12), (⟨"FairWheel", "refused", "(I)I"⟩, 7), (⟨"FairWheel$Program", "length", "()I"⟩, 2), (⟨"FairWheel", "noted", "(IJJJ)Z"⟩, 7), (⟨"FairWheel$Notes", "add", "(IJJJ)Z"⟩, 2), (⟨"FairWheel$Program", "extend", "(JI)I"⟩, 2), (⟨"FairWheel$Kernel", "addTask", "(III)I"⟩, 12), (⟨"FairWheel$Kernel", "leastVirtual", "()J"⟩, 12), (⟨"FairWheel$Task", "begin", "(IIIJ)V"⟩, 19), (⟨"FairWheel$Task", "startPeriod", "(III)V"⟩, 19), (⟨"FairWheel$Kernel", "unendedTask", "(I)LFairWheel$Task;"⟩, 12), (⟨"FairWheel$Kernel", "taskAt", "(I)LFairWheel$Task;"⟩, 12), (⟨"FairWheel$Task", "changeShare", "(I)I"⟩, 19), (⟨"FairWheel$Task", "hasDeadline", "()Z"⟩, 19), (⟨"FairWheel$Kernel", "changeProcessors", "(I)I"⟩, 12), (⟨"FairWheel$Kernel", "holderOf", "(I)I"⟩, 12)]
theorem lw_r1 : ∀ q ∈ lw_privs_1, lw_okq q := List.forall_mem_cons.mpr ⟨lw_p0, List.forall_mem_cons.mpr ⟨lw_p1, List.forall_mem_cons.mpr ⟨lw_p2, List.forall_mem_cons.mpr ⟨lw_p3, List.forall_mem_cons.mpr ⟨lw_p4, List.forall_mem_cons.mpr ⟨lw_p5, List.forall_mem_cons.mpr ⟨lw_p6, List.forall_mem_cons.mpr ⟨lw_p7, List.forall_mem_cons.mpr ⟨lw_p8, List.forall_mem_cons.mpr ⟨lw_p9, List.forall_mem_cons.mpr ⟨lw_p10, List.forall_mem_cons.mpr ⟨lw_p11, List.forall_mem_cons.mpr ⟨lw_p12, List.forall_mem_cons.mpr ⟨lw_p13, List.forall_mem_cons.mpr ⟨lw_p14, List.forall_mem_cons.mpr ⟨lw_p15, fun _ h => absurd h List.not_mem_nil⟩⟩⟩⟩⟩⟩⟩⟩⟩⟩⟩⟩⟩⟩⟩⟩
theorem lw_p16 : lw_okq (⟨"FairWheel$Kernel", "addLock", "(I)V"⟩, 12) := ⟨⟨by decide +kernel, by decide +kernel⟩, List.mem_of_getElem? (i := 20) (by decide +kernel), List.mem_of_getElem? (i := 352) (by decide +kernel), List.mem_of_getElem? (i := 353) (by decide +kernel)⟩
theorem lw_p17 : lw_okq (⟨"FairWheel$Kernel", "ringBell", "(I)I"⟩, 12) := ⟨⟨by decide +kernel, by decide +kernel⟩, List.mem_of_getElem? (i := 20) (by decide +kernel), List.mem_of_getElem? (i := 360) (by decide +kernel), List.mem_of_getElem? (i := 361) (by decide +kernel)⟩
theorem lw_p18 : lw_okq (⟨"FairWheel$Task", "wake", "()V"⟩, 19) := ⟨⟨by decide +kernel, by decide +kernel⟩, List.mem_of_getElem? (i := 45) (by decide +kernel), List.mem_of_getElem? (i := 364) (by decide +kernel), List.mem_of_getElem? (i := 365) (by decide +kernel)⟩
theorem lw_p19 : lw_okq (⟨"FairWheel$Kernel", "goOn", "(I)I"⟩, 12) := ⟨⟨by decide +kernel, by decide +kernel⟩, List.mem_of_getElem? (i := 20) (by decide +kernel), List.mem_of_getElem? (i := 372) (by decide +kernel), List.mem_of_getElem? (i := 373) (by decide +kernel)⟩
theorem lw_p20 : lw_okq (⟨"FairWheel$Rows", "haveRoom", "()Z"⟩, 2) := ⟨⟨by decide +kernel, by decide +kernel⟩, List.mem_of_getElem? (i := 30) (by decide +kernel), List.mem_of_getElem? (i := 376) (by decide +kernel), List.mem_of_getElem? (i := 377) (by decide +kernel)⟩
theorem lw_p21 : lw_okq (⟨"FairWheel$Kernel", "quietTicks", "(I)I"⟩, 12) := ⟨⟨by decide +kernel, by decide +kernel⟩, List.mem_of_getElem? (i := 20) (by decide +kernel), List.mem_of_getElem? (i := 380) (by decide +kernel), List.mem_of_getElem? (i := 381) (by decide +kernel)⟩
theorem lw_p22 : lw_okq (⟨"FairWheel$Kernel", "wakeAndRefill", "()V"⟩, 12) := ⟨⟨by decide +kernel, by decide +kernel⟩, List.mem_of_getElem? (i := 20) (by decide +kernel), List.mem_of_getElem? (i := 386) (by decide +kernel), List.mem_of_getElem? (i := 387) (by decide +kernel)⟩
theorem lw_p23 : lw_okq (⟨"FairWheel$Kernel", "choose", "()V"⟩, 12) := ⟨⟨by decide +kernel, by decide +kernel⟩, List.mem_of_getElem? (i := 20) (by decide +kernel), List.mem_of_getElem? (i := 390) (by decide +kernel), List.mem_of_getElem? (i := 391) (by decide +kernel)⟩
theorem lw_p24 : lw_okq (⟨"FairWheel$Kernel", "settle", "()V"⟩, 12) := ⟨⟨by decide +kernel, by decide +kernel⟩, List.mem_of_getElem? (i := 20) (by decide +kernel), List.mem_of_getElem? (i := 394) (by decide +kernel), List.mem_of_getElem? (i := 395) (by decide +kernel)⟩
theorem lw_p25 : lw_okq (⟨"FairWheel$Task", "rank", "()J"⟩, 19) := ⟨⟨by decide +kernel, by decide +kernel⟩, List.mem_of_getElem? (i := 45) (by decide +kernel), List.mem_of_getElem? (i := 398) (by decide +kernel), List.mem_of_getElem? (i := 399) (by decide +kernel)⟩
theorem lw_p26 : lw_okq (⟨"FairWheel$Kernel", "blockerOf", "(LFairWheel$Task;)LFairWheel$Task;"⟩, 12) := ⟨⟨by decide +kernel, by decide +kernel⟩, List.mem_of_getElem? (i := 20) (by decide +kernel), List.mem_of_getElem? (i := 403) (by decide +kernel), List.mem_of_getElem? (i := 404) (by decide +kernel)⟩
theorem lw_p27 : lw_okq (⟨"FairWheel$Kernel", "foremostBehind", "(J)LFairWheel$Task;"⟩, 12) := ⟨⟨by decide +kernel, by decide +kernel⟩, List.mem_of_getElem? (i := 20) (by decide +kernel), List.mem_of_getElem? (i := 408) (by decide +kernel), List.mem_of_getElem? (i := 409) (by decide +kernel)⟩
theorem lw_p28 : lw_okq (⟨"FairWheel$Rows", "add", "(IIIII)V"⟩, 2) := ⟨⟨by decide +kernel, by decide +kernel⟩, List.mem_of_getElem? (i := 30) (by decide +kernel), List.mem_of_getElem? (i := 419) (by decide +kernel), List.mem_of_getElem? (i := 420) (by decide +kernel)⟩
theorem lw_p29 : lw_okq (⟨"FairWheel$Kernel", "turn", "(LFairWheel$Task;)V"⟩, 12) := ⟨⟨by decide +kernel, by decide +kernel⟩, List.mem_of_getElem? (i := 20) (by decide +kernel), List.mem_of_getElem? (i := 433) (by decide +kernel), List.mem_of_getElem? (i := 434) (by decide +kernel)⟩
theorem lw_p30 : lw_okq (⟨"FairWheel$Kernel", "pay", "(LFairWheel$Task;)V"⟩, 12) := ⟨⟨by decide +kernel, by decide +kernel⟩, List.mem_of_getElem? (i := 20) (by decide +kernel), List.mem_of_getElem? (i := 437) (by decide +kernel), List.mem_of_getElem? (i := 438) (by decide +kernel)⟩
theorem lw_p31 : lw_okq (⟨"FairWheel$Task", "payOnce", "()V"⟩, 19) := ⟨⟨by decide +kernel, by decide +kernel⟩, List.mem_of_getElem? (i := 45) (by decide +kernel), List.mem_of_getElem? (i := 441) (by decide +kernel), List.mem_of_getElem? (i := 442) (by decide +kernel)⟩
def lw_privs_2 : List (MethodName × Nat) := [(⟨"FairWheel$Kernel", "addLock", "(I)V"⟩, 12), (⟨"FairWheel$Kernel", "ringBell", "(I)I"⟩, 12), (⟨"FairWheel$Task", "wake", "()V"⟩, 19), (⟨"FairWheel$Kernel", "goOn", "(I)I"⟩, 12), (⟨"FairWheel$Rows", "haveRoom", "()Z"⟩, 2), (⟨"FairWheel$Kernel", "quietTicks", "(I)I"⟩, 12), (⟨"FairWheel$Kernel", "wakeAndRefill", "()V"⟩, 12), (⟨"FairWheel$Kernel", "choose", "()V"⟩, 12), (⟨"FairWheel$Kernel", "settle", "()V"⟩, 12), (⟨"FairWheel$Task", "rank", "()J"⟩, 19), (⟨"FairWheel$Kernel", "blockerOf", "(LFairWheel$Task;)LFairWheel$Task;"⟩, 12), (⟨"FairWheel$Kernel", "foremostBehind", "(J)LFairWheel$Task;"⟩, 12), (⟨"FairWheel$Rows", "add", "(IIIII)V"⟩, 2), (⟨"FairWheel$Kernel", "turn", "(LFairWheel$Task;)V"⟩, 12), (⟨"FairWheel$Kernel", "pay", "(LFairWheel$Task;)V"⟩, 12), (⟨"FairWheel$Task", "payOnce", "()V"⟩, 19)]
theorem lw_r2 : ∀ q ∈ lw_privs_2, lw_okq q := List.forall_mem_cons.mpr ⟨lw_p16, List.forall_mem_cons.mpr ⟨lw_p17, List.forall_mem_cons.mpr ⟨lw_p18, List.forall_mem_cons.mpr ⟨lw_p19, List.forall_mem_cons.mpr ⟨lw_p20, List.forall_mem_cons.mpr ⟨lw_p21, List.forall_mem_cons.mpr ⟨lw_p22, List.forall_mem_cons.mpr ⟨lw_p23, List.forall_mem_cons.mpr ⟨lw_p24, List.forall_mem_cons.mpr ⟨lw_p25, List.forall_mem_cons.mpr ⟨lw_p26, List.forall_mem_cons.mpr ⟨lw_p27, List.forall_mem_cons.mpr ⟨lw_p28, List.forall_mem_cons.mpr ⟨lw_p29, List.forall_mem_cons.mpr ⟨lw_p30, List.forall_mem_cons.mpr ⟨lw_p31, fun _ h => absurd h List.not_mem_nil⟩⟩⟩⟩⟩⟩⟩⟩⟩⟩⟩⟩⟩⟩⟩⟩
theorem lw_p32 : lw_okq (⟨"FairWheel$Kernel", "act", "(LFairWheel$Task;)I"⟩, 12) := ⟨⟨by decide +kernel, by decide +kernel⟩, List.mem_of_getElem? (i := 20) (by decide +kernel), List.mem_of_getElem? (i := 445) (by decide +kernel), List.mem_of_getElem? (i := 446) (by decide +kernel)⟩
theorem lw_p33 : lw_okq (⟨"FairWheel$Kernel", "readable", "(LFairWheel$Program;I)I"⟩, 12) := ⟨⟨by decide +kernel, by decide +kernel⟩, List.mem_of_getElem? (i := 20) (by decide +kernel), List.mem_of_getElem? (i := 450) (by decide +kernel), List.mem_of_getElem? (i := 451) (by decide +kernel)⟩
theorem lw_p34 : lw_okq (⟨"FairWheel$Program", "byteAt", "(I)I"⟩, 2) := ⟨⟨by decide +kernel, by decide +kernel⟩, List.mem_of_getElem? (i := 128) (by decide +kernel), List.mem_of_getElem? (i := 454) (by decide +kernel), List.mem_of_getElem? (i := 455) (by decide +kernel)⟩
theorem lw_p35 : lw_okq (⟨"FairWheel$Kernel", "take", "(LFairWheel$Task;I)I"⟩, 12) := ⟨⟨by decide +kernel, by decide +kernel⟩, List.mem_of_getElem? (i := 20) (by decide +kernel), List.mem_of_getElem? (i := 459) (by decide +kernel), List.mem_of_getElem? (i := 460) (by decide +kernel)⟩
theorem lw_p36 : lw_okq (⟨"FairWheel$Kernel", "leadsTo", "(ILFairWheel$Task;)Z"⟩, 12) := ⟨⟨by decide +kernel, by decide +kernel⟩, List.mem_of_getElem? (i := 20) (by decide +kernel), List.mem_of_getElem? (i := 464) (by decide +kernel), List.mem_of_getElem? (i := 465) (by decide +kernel)⟩
theorem lw_p37 : lw_okq (⟨"FairWheel$Kernel", "keepRing", "(LFairWheel$Task;I)V"⟩, 12) := ⟨⟨by decide +kernel, by decide +kernel⟩, List.mem_of_getElem? (i := 20) (by decide +kernel), List.mem_of_getElem? (i := 468) (by decide +kernel), List.mem_of_getElem? (i := 469) (by decide +kernel)⟩
theorem lw_p38 : lw_okq (⟨"FairWheel$Kernel", "beginWait", "(LFairWheel$Task;I)V"⟩, 12) := ⟨⟨by decide +kernel, by decide +kernel⟩, List.mem_of_getElem? (i := 20) (by decide +kernel), List.mem_of_getElem? (i := 472) (by decide +kernel), List.mem_of_getElem? (i := 473) (by decide +kernel)⟩
theorem lw_p39 : lw_okq (⟨"FairWheel$Kernel", "give", "(LFairWheel$Task;I)I"⟩, 12) := ⟨⟨by decide +kernel, by decide +kernel⟩, List.mem_of_getElem? (i := 20) (by decide +kernel), List.mem_of_getElem? (i := 476) (by decide +kernel), List.mem_of_getElem? (i := 477) (by decide +kernel)⟩
theorem lw_p40 : lw_okq (⟨"FairWheel$Kernel", "handOver", "(I)V"⟩, 12) := ⟨⟨by decide +kernel, by decide +kernel⟩, List.mem_of_getElem? (i := 20) (by decide +kernel), List.mem_of_getElem? (i := 480) (by decide +kernel), List.mem_of_getElem? (i := 481) (by decide +kernel)⟩
theorem lw_p41 : lw_okq (⟨"FairWheel$Kernel", "waitForBell", "(LFairWheel$Task;I)I"⟩, 12) := ⟨⟨by decide +kernel, by decide +kernel⟩, List.mem_of_getElem? (i := 20) (by decide +kernel), List.mem_of_getElem? (i := 484) (by decide +kernel), List.mem_of_getElem? (i := 485) (by decide +kernel)⟩
theorem lw_p42 : lw_okq (⟨"FairWheel$Kernel", "ringFrom", "(I)I"⟩, 12) := ⟨⟨by decide +kernel, by decide +kernel⟩, List.mem_of_getElem? (i := 20) (by decide +kernel), List.mem_of_getElem? (i := 488) (by decide +kernel), List.mem_of_getElem? (i := 489) (by decide +kernel)⟩
theorem lw_p43 : lw_okq (⟨"FairWheel$Kernel", "sleep", "(LFairWheel$Task;I)I"⟩, 12) := ⟨⟨by decide +kernel, by decide +kernel⟩, List.mem_of_getElem? (i := 20) (by decide +kernel), List.mem_of_getElem? (i := 493) (by decide +kernel), List.mem_of_getElem? (i := 494) (by decide +kernel)⟩
theorem lw_p44 : lw_okq (⟨"FairWheel$Kernel", "spawn", "(LFairWheel$Task;I)I"⟩, 12) := ⟨⟨by decide +kernel, by decide +kernel⟩, List.mem_of_getElem? (i := 20) (by decide +kernel), List.mem_of_getElem? (i := 497) (by decide +kernel), List.mem_of_getElem? (i := 498) (by decide +kernel)⟩
theorem lw_p45 : lw_okq (⟨"FairWheel$Kernel", "getShorts", "(LFairWheel$Task;I)I"⟩, 12) := ⟨⟨by decide +kernel, by decide +kernel⟩, List.mem_of_getElem? (i := 20) (by decide +kernel), List.mem_of_getElem? (i := 502) (by decide +kernel), List.mem_of_getElem? (i := 503) (by decide +kernel)⟩
theorem lw_p46 : lw_okq (⟨"FairWheel$Task", "makeShorts", "(I)V"⟩, 19) := ⟨⟨by decide +kernel, by decide +kernel⟩, List.mem_of_getElem? (i := 45) (by decide +kernel), List.mem_of_getElem? (i := 506) (by decide +kernel), List.mem_of_getElem? (i := 507) (by decide +kernel)⟩
theorem lw_p47 : lw_okq (⟨"FairWheel$Kernel", "stamp", "(LFairWheel$Task;I)I"⟩, 12) := ⟨⟨by decide +kernel, by decide +kernel⟩, List.mem_of_getElem? (i := 20) (by decide +kernel), List.mem_of_getElem? (i := 513) (by decide +kernel), List.mem_of_getElem? (i := 514) (by decide +kernel)⟩
def lw_privs_3 : List (MethodName × Nat) := [(⟨"FairWheel$Kernel", "act", "(LFairWheel$Task;)I"⟩, 12), (⟨"FairWheel$Kernel", "readable", "(LFairWheel$Program;I)I"⟩, 12), (⟨"FairWheel$Program", "byteAt", "(I)I"⟩, 2), (⟨"FairWheel$Kernel", "take", "(LFairWheel$Task;I)I"⟩, 12), (⟨"FairWheel$Kernel", "leadsTo", "(ILFairWheel$Task;)Z"⟩, 12), (⟨"FairWheel$Kernel", "keepRing", "(LFairWheel$Task;I)V"⟩, 12), (⟨"FairWheel$Kernel", "beginWait", "(LFairWheel$Task;I)V"⟩, 12), (⟨"FairWheel$Kernel", "give", "(LFairWheel$Task;I)I"⟩, 12), (⟨"FairWheel$Kernel", "handOver", "(I)V"⟩, 12), (⟨"FairWheel$Kernel", "waitForBell", "(LFairWheel$Task;I)I"⟩, 12), (⟨"FairWheel$Kernel", "ringFrom", "(I)I"⟩, 12), (⟨"FairWheel$Kernel", "sleep", "(LFairWheel$Task;I)I"⟩, 12), (⟨"FairWheel$Kernel", "spawn", "(LFairWheel$Task;I)I"⟩, 12), (⟨"FairWheel$Kernel", "getShorts", "(LFairWheel$Task;I)I"⟩, 12), (⟨"FairWheel$Task", "makeShorts", "(I)V"⟩, 19), (⟨"FairWheel$Kernel", "stamp", "(LFairWheel$Task;I)I"⟩, 12)]
theorem lw_r3 : ∀ q ∈ lw_privs_3, lw_okq q := List.forall_mem_cons.mpr ⟨lw_p32, List.forall_mem_cons.mpr ⟨lw_p33, List.forall_mem_cons.mpr ⟨lw_p34, List.forall_mem_cons.mpr ⟨lw_p35, List.forall_mem_cons.mpr ⟨lw_p36, List.forall_mem_cons.mpr ⟨lw_p37, List.forall_mem_cons.mpr ⟨lw_p38, List.forall_mem_cons.mpr ⟨lw_p39, List.forall_mem_cons.mpr ⟨lw_p40, List.forall_mem_cons.mpr ⟨lw_p41, List.forall_mem_cons.mpr ⟨lw_p42, List.forall_mem_cons.mpr ⟨lw_p43, List.forall_mem_cons.mpr ⟨lw_p44, List.forall_mem_cons.mpr ⟨lw_p45, List.forall_mem_cons.mpr ⟨lw_p46, List.forall_mem_cons.mpr ⟨lw_p47, fun _ h => absurd h List.not_mem_nil⟩⟩⟩⟩⟩⟩⟩⟩⟩⟩⟩⟩⟩⟩⟩⟩
theorem lw_p48 : lw_okq (⟨"FairWheel$Task", "setShort", "(II)V"⟩, 19) := ⟨⟨by decide +kernel, by decide +kernel⟩, List.mem_of_getElem? (i := 45) (by decide +kernel), List.mem_of_getElem? (i := 517) (by decide +kernel), List.mem_of_getElem? (i := 518) (by decide +kernel)⟩
theorem lw_p49 : lw_okq (⟨"FairWheel$Task", "hasShort", "(I)Z"⟩, 19) := ⟨⟨by decide +kernel, by decide +kernel⟩, List.mem_of_getElem? (i := 45) (by decide +kernel), List.mem_of_getElem? (i := 521) (by decide +kernel), List.mem_of_getElem? (i := 522) (by decide +kernel)⟩
theorem lw_p50 : lw_okq (⟨"FairWheel$Kernel", "findShort", "(LFairWheel$Task;I)I"⟩, 12) := ⟨⟨by decide +kernel, by decide +kernel⟩, List.mem_of_getElem? (i := 20) (by decide +kernel), List.mem_of_getElem? (i := 525) (by decide +kernel), List.mem_of_getElem? (i := 526) (by decide +kernel)⟩
theorem lw_p51 : lw_okq (⟨"FairWheel$Kernel", "claim", "(LFairWheel$Task;I)I"⟩, 12) := ⟨⟨by decide +kernel, by decide +kernel⟩, List.mem_of_getElem? (i := 20) (by decide +kernel), List.mem_of_getElem? (i := 530) (by decide +kernel), List.mem_of_getElem? (i := 531) (by decide +kernel)⟩
theorem lw_p52 : lw_okq (⟨"FairWheel$Task", "isOf", "(I)Z"⟩, 19) := ⟨⟨by decide +kernel, by decide +kernel⟩, List.mem_of_getElem? (i := 45) (by decide +kernel), List.mem_of_getElem? (i := 534) (by decide +kernel), List.mem_of_getElem? (i := 535) (by decide +kernel)⟩
theorem lw_p53 : lw_okq (⟨"FairWheel$Kernel", "fail", "(I)I"⟩, 12) := ⟨⟨by decide +kernel, by decide +kernel⟩, List.mem_of_getElem? (i := 20) (by decide +kernel), List.mem_of_getElem? (i := 538) (by decide +kernel), List.mem_of_getElem? (i := 539) (by decide +kernel)⟩
theorem lw_p54 : lw_okq (⟨"FairWheel$Kernel", "workByShort", "(LFairWheel$Task;I)I"⟩, 12) := ⟨⟨by decide +kernel, by decide +kernel⟩, List.mem_of_getElem? (i := 20) (by decide +kernel), List.mem_of_getElem? (i := 542) (by decide +kernel), List.mem_of_getElem? (i := 543) (by decide +kernel)⟩
theorem lw_p55 : lw_okq (⟨"FairWheel$Task", "shortAt", "(I)I"⟩, 19) := ⟨⟨by decide +kernel, by decide +kernel⟩, List.mem_of_getElem? (i := 45) (by decide +kernel), List.mem_of_getElem? (i := 546) (by decide +kernel), List.mem_of_getElem? (i := 547) (by decide +kernel)⟩
theorem lw_p56 : lw_okq (⟨"FairWheel$Kernel", "end", "(LFairWheel$Task;I)V"⟩, 12) := ⟨⟨by decide +kernel, by decide +kernel⟩, List.mem_of_getElem? (i := 20) (by decide +kernel), List.mem_of_getElem? (i := 550) (by decide +kernel), List.mem_of_getElem? (i := 551) (by decide +kernel)⟩
theorem lw_p57 : lw_okq (⟨"FairWheel$Task", "tell", "(I)I"⟩, 19) := ⟨⟨by decide +kernel, by decide +kernel⟩, List.mem_of_getElem? (i := 45) (by decide +kernel), List.mem_of_getElem? (i := 564) (by decide +kernel), List.mem_of_getElem? (i := 565) (by decide +kernel)⟩
theorem lw_p58 : lw_okq (⟨"FairWheel$Rows", "has", "(II)Z"⟩, 2) := ⟨⟨by decide +kernel, by decide +kernel⟩, List.mem_of_getElem? (i := 30) (by decide +kernel), List.mem_of_getElem? (i := 602) (by decide +kernel), List.mem_of_getElem? (i := 603) (by decide +kernel)⟩
theorem lw_p59 : lw_okq (⟨"FairWheel$Rows", "get", "(II)I"⟩, 2) := ⟨⟨by decide +kernel, by decide +kernel⟩, List.mem_of_getElem? (i := 30) (by decide +kernel), List.mem_of_getElem? (i := 606) (by decide +kernel), List.mem_of_getElem? (i := 607) (by decide +kernel)⟩
theorem lw_p60 : lw_okq (⟨"FairWheel$Rows", "grow", "(III)V"⟩, 2) := ⟨⟨by decide +kernel, by decide +kernel⟩, List.mem_of_getElem? (i := 30) (by decide +kernel), List.mem_of_getElem? (i := 615) (by decide +kernel), List.mem_of_getElem? (i := 616) (by decide +kernel)⟩
theorem lw_p61 : lw_okq (⟨"FairWheel$Kernel", "clear", "()V"⟩, 12) := ⟨⟨by decide +kernel, by decide +kernel⟩, List.mem_of_getElem? (i := 20) (by decide +kernel), List.mem_of_getElem? (i := 623) (by decide +kernel), List.mem_of_getElem? (i := 624) (by decide +kernel)⟩
theorem lw_p62 : lw_okq (⟨"FairWheel", "redo", "(ILFairWheel$Kernel;)V"⟩, 7) := ⟨⟨by decide +kernel, by decide +kernel⟩, List.mem_of_getElem? (i := 12) (by decide +kernel), List.mem_of_getElem? (i := 627) (by decide +kernel), List.mem_of_getElem? (i := 628) (by decide +kernel)⟩
theorem lw_p63 : lw_okq (⟨"FairWheel$Notes", "get", "(II)J"⟩, 2) := ⟨⟨by decide +kernel, by decide +kernel⟩, List.mem_of_getElem? (i := 192) (by decide +kernel), List.mem_of_getElem? (i := 631) (by decide +kernel), List.mem_of_getElem? (i := 632) (by decide +kernel)⟩
def lw_privs_4 : List (MethodName × Nat) := [(⟨"FairWheel$Task", "setShort", "(II)V"⟩, 19), (⟨"FairWheel$Task", "hasShort", "(I)Z"⟩, 19), (⟨"FairWheel$Kernel", "findShort", "(LFairWheel$Task;I)I"⟩, 12), (⟨"FairWheel$Kernel", "claim", "(LFairWheel$Task;I)I"⟩, 12), (⟨"FairWheel$Task", "isOf", "(I)Z"⟩, 19), (⟨"FairWheel$Kernel", "fail", "(I)I"⟩, 12), (⟨"FairWheel$Kernel", "workByShort", "(LFairWheel$Task;I)I"⟩, 12), (⟨"FairWheel$Task", "shortAt", "(I)I"⟩, 19), (⟨"FairWheel$Kernel", "end", "(LFairWheel$Task;I)V"⟩, 12), (⟨"FairWheel$Task", "tell", "(I)I"⟩, 19), (⟨"FairWheel$Rows", "has", "(II)Z"⟩, 2), (⟨"FairWheel$Rows", "get", "(II)I"⟩, 2), (⟨"FairWheel$Rows", "grow", "(III)V"⟩, 2), (⟨"FairWheel$Kernel", "clear", "()V"⟩, 12), (⟨"FairWheel", "redo", "(ILFairWheel$Kernel;)V"⟩, 7), (⟨"FairWheel$Notes", "get", "(II)J"⟩, 2)]
theorem lw_r4 : ∀ q ∈ lw_privs_4, lw_okq q := List.forall_mem_cons.mpr ⟨lw_p48, List.forall_mem_cons.mpr ⟨lw_p49, List.forall_mem_cons.mpr ⟨lw_p50, List.forall_mem_cons.mpr ⟨lw_p51, List.forall_mem_cons.mpr ⟨lw_p52, List.forall_mem_cons.mpr ⟨lw_p53, List.forall_mem_cons.mpr ⟨lw_p54, List.forall_mem_cons.mpr ⟨lw_p55, List.forall_mem_cons.mpr ⟨lw_p56, List.forall_mem_cons.mpr ⟨lw_p57, List.forall_mem_cons.mpr ⟨lw_p58, List.forall_mem_cons.mpr ⟨lw_p59, List.forall_mem_cons.mpr ⟨lw_p60, List.forall_mem_cons.mpr ⟨lw_p61, List.forall_mem_cons.mpr ⟨lw_p62, List.forall_mem_cons.mpr ⟨lw_p63, fun _ h => absurd h List.not_mem_nil⟩⟩⟩⟩⟩⟩⟩⟩⟩⟩⟩⟩⟩⟩⟩⟩
theorem lw_p64 : lw_okq (⟨"FairWheel$Rows", "firstUnlike", "(LFairWheel$Rows;)I"⟩, 2) := ⟨⟨by decide +kernel, by decide +kernel⟩, List.mem_of_getElem? (i := 30) (by decide +kernel), List.mem_of_getElem? (i := 635) (by decide +kernel), List.mem_of_getElem? (i := 636) (by decide +kernel)⟩
theorem lw_p65 : lw_okq (⟨"FairWheel$Kernel", "ticksUntilChosen", "(LFairWheel$Task;)J"⟩, 12) := ⟨⟨by decide +kernel, by decide +kernel⟩, List.mem_of_getElem? (i := 20) (by decide +kernel), List.mem_of_getElem? (i := 647) (by decide +kernel), List.mem_of_getElem? (i := 648) (by decide +kernel)⟩
theorem lw_p66 : lw_okq (⟨"FairWheel$Kernel", "turnsAhead", "(LFairWheel$Task;J)J"⟩, 12) := ⟨⟨by decide +kernel, by decide +kernel⟩, List.mem_of_getElem? (i := 20) (by decide +kernel), List.mem_of_getElem? (i := 652) (by decide +kernel), List.mem_of_getElem? (i := 653) (by decide +kernel)⟩
theorem lw_p67 : lw_okq (⟨"FairWheel$Task", "paymentsBehind", "(J)J"⟩, 19) := ⟨⟨by decide +kernel, by decide +kernel⟩, List.mem_of_getElem? (i := 45) (by decide +kernel), List.mem_of_getElem? (i := 656) (by decide +kernel), List.mem_of_getElem? (i := 657) (by decide +kernel)⟩
theorem lw_p68 : lw_okq (⟨"FairWheel$Kernel", "howMany", "(I)I"⟩, 12) := ⟨⟨by decide +kernel, by decide +kernel⟩, List.mem_of_getElem? (i := 20) (by decide +kernel), List.mem_of_getElem? (i := 676) (by decide +kernel), List.mem_of_getElem? (i := 677) (by decide +kernel)⟩
theorem lw_p69 : lw_okq (⟨"FairWheel$Kernel", "become", "(LFairWheel$Kernel;)V"⟩, 12) := ⟨⟨by decide +kernel, by decide +kernel⟩, List.mem_of_getElem? (i := 20) (by decide +kernel), List.mem_of_getElem? (i := 684) (by decide +kernel), List.mem_of_getElem? (i := 685) (by decide +kernel)⟩
theorem lw_p70 : lw_okq (⟨"FairWheel$Task", "become", "(LFairWheel$Task;)V"⟩, 19) := ⟨⟨by decide +kernel, by decide +kernel⟩, List.mem_of_getElem? (i := 45) (by decide +kernel), List.mem_of_getElem? (i := 688) (by decide +kernel), List.mem_of_getElem? (i := 689) (by decide +kernel)⟩
theorem lw_p71 : lw_okq (⟨"FairWheel$Program", "become", "(LFairWheel$Program;)V"⟩, 2) := ⟨⟨by decide +kernel, by decide +kernel⟩, List.mem_of_getElem? (i := 128) (by decide +kernel), List.mem_of_getElem? (i := 696) (by decide +kernel), List.mem_of_getElem? (i := 697) (by decide +kernel)⟩
theorem lw_p72 : lw_okq (⟨"FairWheel$Rows", "become", "(LFairWheel$Rows;)V"⟩, 2) := ⟨⟨by decide +kernel, by decide +kernel⟩, List.mem_of_getElem? (i := 30) (by decide +kernel), List.mem_of_getElem? (i := 701) (by decide +kernel), List.mem_of_getElem? (i := 702) (by decide +kernel)⟩
theorem lw_p73 : lw_okq (⟨"FairWheel$Notes", "become", "(LFairWheel$Notes;)V"⟩, 2) := ⟨⟨by decide +kernel, by decide +kernel⟩, List.mem_of_getElem? (i := 192) (by decide +kernel), List.mem_of_getElem? (i := 707) (by decide +kernel), List.mem_of_getElem? (i := 708) (by decide +kernel)⟩
theorem lw_p74 : lw_okq (⟨"FairWheel$Kernel", "summed", "()J"⟩, 12) := ⟨⟨by decide +kernel, by decide +kernel⟩, List.mem_of_getElem? (i := 20) (by decide +kernel), List.mem_of_getElem? (i := 712) (by decide +kernel), List.mem_of_getElem? (i := 713) (by decide +kernel)⟩
theorem lw_p75 : lw_okq (⟨"FairWheel$Rows", "summed", "(J)J"⟩, 2) := ⟨⟨by decide +kernel, by decide +kernel⟩, List.mem_of_getElem? (i := 30) (by decide +kernel), List.mem_of_getElem? (i := 719) (by decide +kernel), List.mem_of_getElem? (i := 720) (by decide +kernel)⟩
theorem lw_p76 : lw_okq (⟨"FairWheelModel", "isRefused", "(I)Z"⟩, 8) := ⟨⟨by decide +kernel, by decide +kernel⟩, List.mem_of_getElem? (i := 736) (by decide +kernel), List.mem_of_getElem? (i := 779) (by decide +kernel), List.mem_of_getElem? (i := 780) (by decide +kernel)⟩
theorem lw_p77 : lw_okq (⟨"FairWheelModel", "added", "(IIIII)I"⟩, 8) := ⟨⟨by decide +kernel, by decide +kernel⟩, List.mem_of_getElem? (i := 736) (by decide +kernel), List.mem_of_getElem? (i := 789) (by decide +kernel), List.mem_of_getElem? (i := 790) (by decide +kernel)⟩
theorem lw_p78 : lw_okq (⟨"FairWheelModel", "get", "(II)I"⟩, 8) := ⟨⟨by decide +kernel, by decide +kernel⟩, List.mem_of_getElem? (i := 736) (by decide +kernel), List.mem_of_getElem? (i := 793) (by decide +kernel), List.mem_of_getElem? (i := 794) (by decide +kernel)⟩
theorem lw_p79 : lw_okq (⟨"FairWheelModel", "set", "(III)V"⟩, 8) := ⟨⟨by decide +kernel, by decide +kernel⟩, List.mem_of_getElem? (i := 736) (by decide +kernel), List.mem_of_getElem? (i := 797) (by decide +kernel), List.mem_of_getElem? (i := 798) (by decide +kernel)⟩
def lw_privs_5 : List (MethodName × Nat) := [(⟨"FairWheel$Rows", "firstUnlike", "(LFairWheel$Rows;)I"⟩, 2), (⟨"FairWheel$Kernel", "ticksUntilChosen", "(LFairWheel$Task;)J"⟩, 12), (⟨"FairWheel$Kernel", "turnsAhead", "(LFairWheel$Task;J)J"⟩, 12), (⟨"FairWheel$Task", "paymentsBehind", "(J)J"⟩, 19), (⟨"FairWheel$Kernel", "howMany", "(I)I"⟩, 12), (⟨"FairWheel$Kernel", "become", "(LFairWheel$Kernel;)V"⟩, 12), (⟨"FairWheel$Task", "become", "(LFairWheel$Task;)V"⟩, 19), (⟨"FairWheel$Program", "become", "(LFairWheel$Program;)V"⟩, 2), (⟨"FairWheel$Rows", "become", "(LFairWheel$Rows;)V"⟩, 2), (⟨"FairWheel$Notes", "become", "(LFairWheel$Notes;)V"⟩, 2), (⟨"FairWheel$Kernel", "summed", "()J"⟩, 12), (⟨"FairWheel$Rows", "summed", "(J)J"⟩, 2), (⟨"FairWheelModel", "isRefused", "(I)Z"⟩, 8), (⟨"FairWheelModel", "added", "(IIIII)I"⟩, 8), (⟨"FairWheelModel", "get", "(II)I"⟩, 8), (⟨"FairWheelModel", "set", "(III)V"⟩, 8)]
theorem lw_r5 : ∀ q ∈ lw_privs_5, lw_okq q := List.forall_mem_cons.mpr ⟨lw_p64, List.forall_mem_cons.mpr ⟨lw_p65, List.forall_mem_cons.mpr ⟨lw_p66, List.forall_mem_cons.mpr ⟨lw_p67, List.forall_mem_cons.mpr ⟨lw_p68, List.forall_mem_cons.mpr ⟨lw_p69, List.forall_mem_cons.mpr ⟨lw_p70, List.forall_mem_cons.mpr ⟨lw_p71, List.forall_mem_cons.mpr ⟨lw_p72, List.forall_mem_cons.mpr ⟨lw_p73, List.forall_mem_cons.mpr ⟨lw_p74, List.forall_mem_cons.mpr ⟨lw_p75, List.forall_mem_cons.mpr ⟨lw_p76, List.forall_mem_cons.mpr ⟨lw_p77, List.forall_mem_cons.mpr ⟨lw_p78, List.forall_mem_cons.mpr ⟨lw_p79, fun _ h => absurd h List.not_mem_nil⟩⟩⟩⟩⟩⟩⟩⟩⟩⟩⟩⟩⟩⟩⟩⟩
theorem lw_p80 : lw_okq (⟨"FairWheelModel", "isLiving", "(I)Z"⟩, 8) := ⟨⟨by decide +kernel, by decide +kernel⟩, List.mem_of_getElem? (i := 736) (by decide +kernel), List.mem_of_getElem? (i := 805) (by decide +kernel), List.mem_of_getElem? (i := 806) (by decide +kernel)⟩
theorem lw_p81 : lw_okq (⟨"FairWheelModel", "isTask", "(I)Z"⟩, 8) := ⟨⟨by decide +kernel, by decide +kernel⟩, List.mem_of_getElem? (i := 736) (by decide +kernel), List.mem_of_getElem? (i := 809) (by decide +kernel), List.mem_of_getElem? (i := 810) (by decide +kernel)⟩
theorem lw_p82 : lw_okq (⟨"FairWheelModel", "isDue", "(I)Z"⟩, 8) := ⟨⟨by decide +kernel, by decide +kernel⟩, List.mem_of_getElem? (i := 736) (by decide +kernel), List.mem_of_getElem? (i := 818) (by decide +kernel), List.mem_of_getElem? (i := 819) (by decide +kernel)⟩
theorem lw_p83 : lw_okq (⟨"FairWheelModel", "ringBell", "(I)I"⟩, 8) := ⟨⟨by decide +kernel, by decide +kernel⟩, List.mem_of_getElem? (i := 736) (by decide +kernel), List.mem_of_getElem? (i := 836) (by decide +kernel), List.mem_of_getElem? (i := 837) (by decide +kernel)⟩
theorem lw_p84 : lw_okq (⟨"FairWheelModel", "isReadyNow", "(I)V"⟩, 8) := ⟨⟨by decide +kernel, by decide +kernel⟩, List.mem_of_getElem? (i := 736) (by decide +kernel), List.mem_of_getElem? (i := 840) (by decide +kernel), List.mem_of_getElem? (i := 841) (by decide +kernel)⟩
theorem lw_p85 : lw_okq (⟨"FairWheelModel", "tick", "()V"⟩, 8) := ⟨⟨by decide +kernel, by decide +kernel⟩, List.mem_of_getElem? (i := 736) (by decide +kernel), List.mem_of_getElem? (i := 848) (by decide +kernel), List.mem_of_getElem? (i := 849) (by decide +kernel)⟩
theorem lw_p86 : lw_okq (⟨"FairWheelModel", "wakes", "()V"⟩, 8) := ⟨⟨by decide +kernel, by decide +kernel⟩, List.mem_of_getElem? (i := 736) (by decide +kernel), List.mem_of_getElem? (i := 852) (by decide +kernel), List.mem_of_getElem? (i := 853) (by decide +kernel)⟩
theorem lw_p87 : lw_okq (⟨"FairWheelModel", "body", "(I)V"⟩, 8) := ⟨⟨by decide +kernel, by decide +kernel⟩, List.mem_of_getElem? (i := 736) (by decide +kernel), List.mem_of_getElem? (i := 856) (by decide +kernel), List.mem_of_getElem? (i := 857) (by decide +kernel)⟩
theorem lw_p88 : lw_okq (⟨"FairWheelModel", "chooses", "(I)V"⟩, 8) := ⟨⟨by decide +kernel, by decide +kernel⟩, List.mem_of_getElem? (i := 736) (by decide +kernel), List.mem_of_getElem? (i := 860) (by decide +kernel), List.mem_of_getElem? (i := 861) (by decide +kernel)⟩
theorem lw_p89 : lw_okq (⟨"FairWheelModel", "standingOf", "(I)I"⟩, 8) := ⟨⟨by decide +kernel, by decide +kernel⟩, List.mem_of_getElem? (i := 736) (by decide +kernel), List.mem_of_getElem? (i := 864) (by decide +kernel), List.mem_of_getElem? (i := 865) (by decide +kernel)⟩
theorem lw_p90 : lw_okq (⟨"FairWheelModel", "isAhead", "(II)Z"⟩, 8) := ⟨⟨by decide +kernel, by decide +kernel⟩, List.mem_of_getElem? (i := 736) (by decide +kernel), List.mem_of_getElem? (i := 868) (by decide +kernel), List.mem_of_getElem? (i := 869) (by decide +kernel)⟩
theorem lw_p91 : lw_okq (⟨"FairWheelModel", "classOf", "(I)I"⟩, 8) := ⟨⟨by decide +kernel, by decide +kernel⟩, List.mem_of_getElem? (i := 736) (by decide +kernel), List.mem_of_getElem? (i := 872) (by decide +kernel), List.mem_of_getElem? (i := 873) (by decide +kernel)⟩
theorem lw_p92 : lw_okq (⟨"FairWheelModel", "keyOf", "(I)J"⟩, 8) := ⟨⟨by decide +kernel, by decide +kernel⟩, List.mem_of_getElem? (i := 736) (by decide +kernel), List.mem_of_getElem? (i := 876) (by decide +kernel), List.mem_of_getElem? (i := 877) (by decide +kernel)⟩
theorem lw_p93 : lw_okq (⟨"FairWheelModel", "puts", "(IIIIII)V"⟩, 8) := ⟨⟨by decide +kernel, by decide +kernel⟩, List.mem_of_getElem? (i := 736) (by decide +kernel), List.mem_of_getElem? (i := 880) (by decide +kernel), List.mem_of_getElem? (i := 881) (by decide +kernel)⟩
theorem lw_p94 : lw_okq (⟨"FairWheelModel", "turn", "(I)V"⟩, 8) := ⟨⟨by decide +kernel, by decide +kernel⟩, List.mem_of_getElem? (i := 736) (by decide +kernel), List.mem_of_getElem? (i := 886) (by decide +kernel), List.mem_of_getElem? (i := 887) (by decide +kernel)⟩
theorem lw_p95 : lw_okq (⟨"FairWheelModel", "pays", "(I)V"⟩, 8) := ⟨⟨by decide +kernel, by decide +kernel⟩, List.mem_of_getElem? (i := 736) (by decide +kernel), List.mem_of_getElem? (i := 890) (by decide +kernel), List.mem_of_getElem? (i := 891) (by decide +kernel)⟩
def lw_privs_6 : List (MethodName × Nat) := [(⟨"FairWheelModel", "isLiving", "(I)Z"⟩, 8), (⟨"FairWheelModel", "isTask", "(I)Z"⟩, 8), (⟨"FairWheelModel", "isDue", "(I)Z"⟩, 8), (⟨"FairWheelModel", "ringBell", "(I)I"⟩, 8), (⟨"FairWheelModel", "isReadyNow", "(I)V"⟩, 8), (⟨"FairWheelModel", "tick", "()V"⟩, 8), (⟨"FairWheelModel", "wakes", "()V"⟩, 8), (⟨"FairWheelModel", "body", "(I)V"⟩, 8), (⟨"FairWheelModel", "chooses", "(I)V"⟩, 8), (⟨"FairWheelModel", "standingOf", "(I)I"⟩, 8), (⟨"FairWheelModel", "isAhead", "(II)Z"⟩, 8), (⟨"FairWheelModel", "classOf", "(I)I"⟩, 8), (⟨"FairWheelModel", "keyOf", "(I)J"⟩, 8), (⟨"FairWheelModel", "puts", "(IIIIII)V"⟩, 8), (⟨"FairWheelModel", "turn", "(I)V"⟩, 8), (⟨"FairWheelModel", "pays", "(I)V"⟩, 8)]
theorem lw_r6 : ∀ q ∈ lw_privs_6, lw_okq q := List.forall_mem_cons.mpr ⟨lw_p80, List.forall_mem_cons.mpr ⟨lw_p81, List.forall_mem_cons.mpr ⟨lw_p82, List.forall_mem_cons.mpr ⟨lw_p83, List.forall_mem_cons.mpr ⟨lw_p84, List.forall_mem_cons.mpr ⟨lw_p85, List.forall_mem_cons.mpr ⟨lw_p86, List.forall_mem_cons.mpr ⟨lw_p87, List.forall_mem_cons.mpr ⟨lw_p88, List.forall_mem_cons.mpr ⟨lw_p89, List.forall_mem_cons.mpr ⟨lw_p90, List.forall_mem_cons.mpr ⟨lw_p91, List.forall_mem_cons.mpr ⟨lw_p92, List.forall_mem_cons.mpr ⟨lw_p93, List.forall_mem_cons.mpr ⟨lw_p94, List.forall_mem_cons.mpr ⟨lw_p95, fun _ h => absurd h List.not_mem_nil⟩⟩⟩⟩⟩⟩⟩⟩⟩⟩⟩⟩⟩⟩⟩⟩
theorem lw_p96 : lw_okq (⟨"FairWheelModel", "pay", "(I)I"⟩, 8) := ⟨⟨by decide +kernel, by decide +kernel⟩, List.mem_of_getElem? (i := 736) (by decide +kernel), List.mem_of_getElem? (i := 894) (by decide +kernel), List.mem_of_getElem? (i := 895) (by decide +kernel)⟩
theorem lw_p97 : lw_okq (⟨"FairWheelModel", "act", "(I)I"⟩, 8) := ⟨⟨by decide +kernel, by decide +kernel⟩, List.mem_of_getElem? (i := 736) (by decide +kernel), List.mem_of_getElem? (i := 898) (by decide +kernel), List.mem_of_getElem? (i := 899) (by decide +kernel)⟩
theorem lw_p98 : lw_okq (⟨"FairWheelModel", "takesLock", "(II)I"⟩, 8) := ⟨⟨by decide +kernel, by decide +kernel⟩, List.mem_of_getElem? (i := 736) (by decide +kernel), List.mem_of_getElem? (i := 903) (by decide +kernel), List.mem_of_getElem? (i := 904) (by decide +kernel)⟩
theorem lw_p99 : lw_okq (⟨"FairWheelModel", "waits", "(IIII)V"⟩, 8) := ⟨⟨by decide +kernel, by decide +kernel⟩, List.mem_of_getElem? (i := 736) (by decide +kernel), List.mem_of_getElem? (i := 907) (by decide +kernel), List.mem_of_getElem? (i := 908) (by decide +kernel)⟩
theorem lw_p100 : lw_okq (⟨"FairWheelModel", "givesLock", "(II)I"⟩, 8) := ⟨⟨by decide +kernel, by decide +kernel⟩, List.mem_of_getElem? (i := 736) (by decide +kernel), List.mem_of_getElem? (i := 911) (by decide +kernel), List.mem_of_getElem? (i := 912) (by decide +kernel)⟩
theorem lw_p101 : lw_okq (⟨"FairWheelModel", "passes", "(I)V"⟩, 8) := ⟨⟨by decide +kernel, by decide +kernel⟩, List.mem_of_getElem? (i := 736) (by decide +kernel), List.mem_of_getElem? (i := 915) (by decide +kernel), List.mem_of_getElem? (i := 916) (by decide +kernel)⟩
theorem lw_p102 : lw_okq (⟨"FairWheelModel", "forks", "(II)I"⟩, 8) := ⟨⟨by decide +kernel, by decide +kernel⟩, List.mem_of_getElem? (i := 736) (by decide +kernel), List.mem_of_getElem? (i := 919) (by decide +kernel), List.mem_of_getElem? (i := 920) (by decide +kernel)⟩
theorem lw_p103 : lw_okq (⟨"FairWheelModel", "says", "(II)I"⟩, 8) := ⟨⟨by decide +kernel, by decide +kernel⟩, List.mem_of_getElem? (i := 736) (by decide +kernel), List.mem_of_getElem? (i := 923) (by decide +kernel), List.mem_of_getElem? (i := 924) (by decide +kernel)⟩
theorem lw_p104 : lw_okq (⟨"FairWheelModel", "smalls", "(III)I"⟩, 8) := ⟨⟨by decide +kernel, by decide +kernel⟩, List.mem_of_getElem? (i := 736) (by decide +kernel), List.mem_of_getElem? (i := 931) (by decide +kernel), List.mem_of_getElem? (i := 932) (by decide +kernel)⟩
theorem lw_p105 : lw_okq (⟨"FairWheelModel", "ends", "(II)V"⟩, 8) := ⟨⟨by decide +kernel, by decide +kernel⟩, List.mem_of_getElem? (i := 736) (by decide +kernel), List.mem_of_getElem? (i := 935) (by decide +kernel), List.mem_of_getElem? (i := 936) (by decide +kernel)⟩
theorem lw_p106 : lw_okq (⟨"FairWheelModel", "isRow", "(II)Z"⟩, 8) := ⟨⟨by decide +kernel, by decide +kernel⟩, List.mem_of_getElem? (i := 736) (by decide +kernel), List.mem_of_getElem? (i := 976) (by decide +kernel), List.mem_of_getElem? (i := 977) (by decide +kernel)⟩
theorem lw_p107 : lw_okq (⟨"FairWheelModel", "payments", "(IJI)J"⟩, 8) := ⟨⟨by decide +kernel, by decide +kernel⟩, List.mem_of_getElem? (i := 736) (by decide +kernel), List.mem_of_getElem? (i := 996) (by decide +kernel), List.mem_of_getElem? (i := 997) (by decide +kernel)⟩
def lw_privs_7 : List (MethodName × Nat) := [(⟨"FairWheelModel", "pay", "(I)I"⟩, 8), (⟨"FairWheelModel", "act", "(I)I"⟩, 8), (⟨"FairWheelModel", "takesLock", "(II)I"⟩, 8), (⟨"FairWheelModel", "waits", "(IIII)V"⟩, 8), (⟨"FairWheelModel", "givesLock", "(II)I"⟩, 8), (⟨"FairWheelModel", "passes", "(I)V"⟩, 8), (⟨"FairWheelModel", "forks", "(II)I"⟩, 8), (⟨"FairWheelModel", "says", "(II)I"⟩, 8), (⟨"FairWheelModel", "smalls", "(III)I"⟩, 8), (⟨"FairWheelModel", "ends", "(II)V"⟩, 8), (⟨"FairWheelModel", "isRow", "(II)Z"⟩, 8), (⟨"FairWheelModel", "payments", "(IJI)J"⟩, 8)]
theorem lw_r7 : ∀ q ∈ lw_privs_7, lw_okq q := List.forall_mem_cons.mpr ⟨lw_p96, List.forall_mem_cons.mpr ⟨lw_p97, List.forall_mem_cons.mpr ⟨lw_p98, List.forall_mem_cons.mpr ⟨lw_p99, List.forall_mem_cons.mpr ⟨lw_p100, List.forall_mem_cons.mpr ⟨lw_p101, List.forall_mem_cons.mpr ⟨lw_p102, List.forall_mem_cons.mpr ⟨lw_p103, List.forall_mem_cons.mpr ⟨lw_p104, List.forall_mem_cons.mpr ⟨lw_p105, List.forall_mem_cons.mpr ⟨lw_p106, List.forall_mem_cons.mpr ⟨lw_p107, fun _ h => absurd h List.not_mem_nil⟩⟩⟩⟩⟩⟩⟩⟩⟩⟩⟩⟩
def lw_privs : List (MethodName × Nat) := lw_privs_1 ++ (lw_privs_2 ++ (lw_privs_3 ++ (lw_privs_4 ++ (lw_privs_5 ++ (lw_privs_6 ++ (lw_privs_7))))))
def lw_tbl : List Cond := k2_sels lw_privs ++ tables_1
theorem lw_privs_ok : ∀ q ∈ lw_privs, lw_okq q := by
  show ∀ q ∈ lw_privs_1 ++ (lw_privs_2 ++ (lw_privs_3 ++ (lw_privs_4 ++ (lw_privs_5 ++ (lw_privs_6 ++ (lw_privs_7)))))), lw_okq q
  exact List.forall_mem_append.mpr ⟨lw_r1, List.forall_mem_append.mpr ⟨lw_r2, List.forall_mem_append.mpr ⟨lw_r3, List.forall_mem_append.mpr ⟨lw_r4, List.forall_mem_append.mpr ⟨lw_r5, List.forall_mem_append.mpr ⟨lw_r6, lw_r7⟩⟩⟩⟩⟩⟩
end
section
def RX0 : String := "FairWheel$Kernel"
def TX0 : u_T := fun k => match k with
  | 0 => ("FairWheel$Kernel", "tasks", "[LFairWheel$Task;", true)
  | 1 => ("FairWheel$Kernel", "programs", "[LFairWheel$Program;", true)
  | 2 => ("FairWheel$Kernel", "rows", "LFairWheel$Rows;", true)
  | 3 => ("FairWheel$Kernel", "holders", "[I", true)
  | 4 => ("FairWheel$Kernel", "chosen", "[I", true)
  | 5 => ("FairWheel$Kernel", "ringTasks", "[I", true)
  | 6 => ("FairWheel$Kernel", "ran", "[I", true)
  | 7 => ("FairWheel$Kernel", "taskCount", "I", false)
  | 8 => ("FairWheel$Kernel", "clock", "I", false)
  | 9 => ("FairWheel$Kernel", "processors", "I", false)
  | 10 => ("FairWheel$Kernel", "ringSize", "I", false)
  | _ => ("FairWheel$Kernel", "ringsRefused", "I", false)
def tyX0 : Nat → FieldType := fun k => match k with
  | 0 => .array (.object "FairWheel$Task")
  | 1 => .array (.object "FairWheel$Program")
  | 2 => .object "FairWheel$Rows"
  | 3 => .array .int
  | 4 => .array .int
  | 5 => .array .int
  | 6 => .array .int
  | 7 => .int
  | 8 => .int
  | 9 => .int
  | 10 => .int
  | _ => .int
abbrev wsX00 : List Cond := u_ws RX0 TX0 12
theorem nmX0 : ∀ a, a < 12 → ∀ b, b < 12 → a ≠ b → (TX0 a).2.1 ≠ (TX0 b).2.1 := by decide +kernel
theorem tyX0_ok : ∀ k, k < 12 → parseFieldDescriptor (TX0 k).2.2.1 = some (tyX0 k) := by decide +kernel
abbrev cX0_init : ByteArray := prog_2_method_1_code
def yX0_init : MethodName := ⟨RX0, "<init>", "()V"⟩
abbrev cX0_clear : ByteArray := prog_2_method_2_code
def yX0_clear : MethodName := ⟨RX0, "clear", "()V"⟩
abbrev cX0_become : ByteArray := prog_2_method_3_code
def yX0_become : MethodName := ⟨RX0, "become", "(LFairWheel$Kernel;)V"⟩
abbrev cX0_taskAt : ByteArray := prog_2_method_4_code
def yX0_taskAt : MethodName := ⟨RX0, "taskAt", "(I)LFairWheel$Task;"⟩
abbrev cX0_unendedTask : ByteArray := prog_2_method_5_code
def yX0_unendedTask : MethodName := ⟨RX0, "unendedTask", "(I)LFairWheel$Task;"⟩
abbrev cX0_programAt : ByteArray := prog_2_method_6_code
def yX0_programAt : MethodName := ⟨RX0, "programAt", "(I)LFairWheel$Program;"⟩
abbrev cX0_holderOf : ByteArray := prog_2_method_7_code
def yX0_holderOf : MethodName := ⟨RX0, "holderOf", "(I)I"⟩
abbrev cX0_howMany : ByteArray := prog_2_method_8_code
def yX0_howMany : MethodName := ⟨RX0, "howMany", "(I)I"⟩
abbrev cX0_addTask : ByteArray := prog_2_method_9_code
def yX0_addTask : MethodName := ⟨RX0, "addTask", "(III)I"⟩
abbrev cX0_leastVirtual : ByteArray := prog_2_method_10_code
def yX0_leastVirtual : MethodName := ⟨RX0, "leastVirtual", "()J"⟩
abbrev cX0_changeProcessors : ByteArray := prog_2_method_11_code
def yX0_changeProcessors : MethodName := ⟨RX0, "changeProcessors", "(I)I"⟩
abbrev cX0_addLock : ByteArray := prog_2_method_12_code
def yX0_addLock : MethodName := ⟨RX0, "addLock", "(I)V"⟩
abbrev cX0_ringBell : ByteArray := prog_2_method_13_code
def yX0_ringBell : MethodName := ⟨RX0, "ringBell", "(I)I"⟩
abbrev cX0_goOn : ByteArray := prog_2_method_14_code
def yX0_goOn : MethodName := ⟨RX0, "goOn", "(I)I"⟩
abbrev cX0_quietTicks : ByteArray := prog_2_method_15_code
def yX0_quietTicks : MethodName := ⟨RX0, "quietTicks", "(I)I"⟩
abbrev cX0_wakeAndRefill : ByteArray := prog_2_method_16_code
def yX0_wakeAndRefill : MethodName := ⟨RX0, "wakeAndRefill", "()V"⟩
abbrev cX0_choose : ByteArray := prog_2_method_17_code
def yX0_choose : MethodName := ⟨RX0, "choose", "()V"⟩
abbrev cX0_foremostBehind : ByteArray := prog_2_method_18_code
def yX0_foremostBehind : MethodName := ⟨RX0, "foremostBehind", "(J)LFairWheel$Task;"⟩
abbrev cX0_settle : ByteArray := prog_2_method_19_code
def yX0_settle : MethodName := ⟨RX0, "settle", "()V"⟩
abbrev cX0_blockerOf : ByteArray := prog_2_method_20_code
def yX0_blockerOf : MethodName := ⟨RX0, "blockerOf", "(LFairWheel$Task;)LFairWheel$Task;"⟩
abbrev cX0_turn : ByteArray := prog_2_method_21_code
def yX0_turn : MethodName := ⟨RX0, "turn", "(LFairWheel$Task;)V"⟩
abbrev cX0_pay : ByteArray := prog_2_method_22_code
def yX0_pay : MethodName := ⟨RX0, "pay", "(LFairWheel$Task;)V"⟩
abbrev cX0_end : ByteArray := prog_2_method_23_code
def yX0_end : MethodName := ⟨RX0, "end", "(LFairWheel$Task;I)V"⟩
abbrev cX0_handOver : ByteArray := prog_2_method_24_code
def yX0_handOver : MethodName := ⟨RX0, "handOver", "(I)V"⟩
abbrev cX0_act : ByteArray := prog_2_method_25_code
def yX0_act : MethodName := ⟨RX0, "act", "(LFairWheel$Task;)I"⟩
abbrev cX0_readable : ByteArray := prog_2_method_26_code
def yX0_readable : MethodName := ⟨RX0, "readable", "(LFairWheel$Program;I)I"⟩
abbrev cX0_take : ByteArray := prog_2_method_27_code
def yX0_take : MethodName := ⟨RX0, "take", "(LFairWheel$Task;I)I"⟩
abbrev cX0_leadsTo : ByteArray := prog_2_method_28_code
def yX0_leadsTo : MethodName := ⟨RX0, "leadsTo", "(ILFairWheel$Task;)Z"⟩
abbrev cX0_keepRing : ByteArray := prog_2_method_29_code
def yX0_keepRing : MethodName := ⟨RX0, "keepRing", "(LFairWheel$Task;I)V"⟩
abbrev cX0_give : ByteArray := prog_2_method_30_code
def yX0_give : MethodName := ⟨RX0, "give", "(LFairWheel$Task;I)I"⟩
abbrev cX0_waitForBell : ByteArray := prog_2_method_31_code
def yX0_waitForBell : MethodName := ⟨RX0, "waitForBell", "(LFairWheel$Task;I)I"⟩
abbrev cX0_ringFrom : ByteArray := prog_2_method_32_code
def yX0_ringFrom : MethodName := ⟨RX0, "ringFrom", "(I)I"⟩
abbrev cX0_sleep : ByteArray := prog_2_method_33_code
def yX0_sleep : MethodName := ⟨RX0, "sleep", "(LFairWheel$Task;I)I"⟩
abbrev cX0_beginWait : ByteArray := prog_2_method_34_code
def yX0_beginWait : MethodName := ⟨RX0, "beginWait", "(LFairWheel$Task;I)V"⟩
abbrev cX0_spawn : ByteArray := prog_2_method_35_code
def yX0_spawn : MethodName := ⟨RX0, "spawn", "(LFairWheel$Task;I)I"⟩
abbrev cX0_getShorts : ByteArray := prog_2_method_36_code
def yX0_getShorts : MethodName := ⟨RX0, "getShorts", "(LFairWheel$Task;I)I"⟩
abbrev cX0_findShort : ByteArray := prog_2_method_37_code
def yX0_findShort : MethodName := ⟨RX0, "findShort", "(LFairWheel$Task;I)I"⟩
abbrev cX0_stamp : ByteArray := prog_2_method_38_code
def yX0_stamp : MethodName := ⟨RX0, "stamp", "(LFairWheel$Task;I)I"⟩
abbrev cX0_workByShort : ByteArray := prog_2_method_39_code
def yX0_workByShort : MethodName := ⟨RX0, "workByShort", "(LFairWheel$Task;I)I"⟩
abbrev cX0_claim : ByteArray := prog_2_method_40_code
def yX0_claim : MethodName := ⟨RX0, "claim", "(LFairWheel$Task;I)I"⟩
abbrev cX0_fail : ByteArray := prog_2_method_41_code
def yX0_fail : MethodName := ⟨RX0, "fail", "(I)I"⟩
abbrev cX0_ticksUntilChosen : ByteArray := prog_2_method_42_code
def yX0_ticksUntilChosen : MethodName := ⟨RX0, "ticksUntilChosen", "(LFairWheel$Task;)J"⟩
abbrev cX0_turnsAhead : ByteArray := prog_2_method_43_code
def yX0_turnsAhead : MethodName := ⟨RX0, "turnsAhead", "(LFairWheel$Task;J)J"⟩
abbrev cX0_summed : ByteArray := prog_2_method_44_code
def yX0_summed : MethodName := ⟨RX0, "summed", "()J"⟩
def RX1 : String := "FairWheel$Notes"
def TX1 : u_T := fun k => match k with
  | 0 => ("FairWheel$Notes", "size", "I", false)
  | _ => ("FairWheel$Notes", "cells", "[J", false)
def tyX1 : Nat → FieldType := fun k => match k with
  | 0 => .int
  | _ => .array .long
abbrev wsX10 : List Cond := u_ws RX1 TX1 2
theorem nmX1 : ∀ a, a < 2 → ∀ b, b < 2 → a ≠ b → (TX1 a).2.1 ≠ (TX1 b).2.1 := by decide +kernel
theorem tyX1_ok : ∀ k, k < 2 → parseFieldDescriptor (TX1 k).2.2.1 = some (tyX1 k) := by decide +kernel
abbrev cX1_init : ByteArray := prog_3_method_1_code
def yX1_init : MethodName := ⟨RX1, "<init>", "()V"⟩
abbrev cX1_become : ByteArray := prog_3_method_2_code
def yX1_become : MethodName := ⟨RX1, "become", "(LFairWheel$Notes;)V"⟩
abbrev cX1_add : ByteArray := prog_3_method_3_code
def yX1_add : MethodName := ⟨RX1, "add", "(IJJJ)Z"⟩
abbrev cX1_get : ByteArray := prog_3_method_4_code
def yX1_get : MethodName := ⟨RX1, "get", "(II)J"⟩
def RX2 : String := "FairWheel$Program"
def TX2 : u_T := fun k => match k with
  | 0 => ("FairWheel$Program", "size", "I", false)
  | _ => ("FairWheel$Program", "bytes", "[B", false)
def tyX2 : Nat → FieldType := fun k => match k with
  | 0 => .int
  | _ => .array .byte
abbrev wsX20 : List Cond := u_ws RX2 TX2 2
theorem nmX2 : ∀ a, a < 2 → ∀ b, b < 2 → a ≠ b → (TX2 a).2.1 ≠ (TX2 b).2.1 := by decide +kernel
theorem tyX2_ok : ∀ k, k < 2 → parseFieldDescriptor (TX2 k).2.2.1 = some (tyX2 k) := by decide +kernel
abbrev cX2_init : ByteArray := prog_4_method_1_code
def yX2_init : MethodName := ⟨RX2, "<init>", "()V"⟩
abbrev cX2_become : ByteArray := prog_4_method_2_code
def yX2_become : MethodName := ⟨RX2, "become", "(LFairWheel$Program;)V"⟩
abbrev cX2_length : ByteArray := prog_4_method_3_code
def yX2_length : MethodName := ⟨RX2, "length", "()I"⟩
abbrev cX2_byteAt : ByteArray := prog_4_method_4_code
def yX2_byteAt : MethodName := ⟨RX2, "byteAt", "(I)I"⟩
abbrev cX2_extend : ByteArray := prog_4_method_5_code
def yX2_extend : MethodName := ⟨RX2, "extend", "(JI)I"⟩
def RX3 : String := "FairWheel$Rows"
def TX3 : u_T := fun k => match k with
  | 0 => ("FairWheel$Rows", "size", "I", false)
  | _ => ("FairWheel$Rows", "cells", "[I", false)
def tyX3 : Nat → FieldType := fun k => match k with
  | 0 => .int
  | _ => .array .int
abbrev wsX30 : List Cond := u_ws RX3 TX3 2
theorem nmX3 : ∀ a, a < 2 → ∀ b, b < 2 → a ≠ b → (TX3 a).2.1 ≠ (TX3 b).2.1 := by decide +kernel
theorem tyX3_ok : ∀ k, k < 2 → parseFieldDescriptor (TX3 k).2.2.1 = some (tyX3 k) := by decide +kernel
abbrev cX3_init : ByteArray := prog_5_method_1_code
def yX3_init : MethodName := ⟨RX3, "<init>", "()V"⟩
abbrev cX3_become : ByteArray := prog_5_method_2_code
def yX3_become : MethodName := ⟨RX3, "become", "(LFairWheel$Rows;)V"⟩
abbrev cX3_haveRoom : ByteArray := prog_5_method_3_code
def yX3_haveRoom : MethodName := ⟨RX3, "haveRoom", "()Z"⟩
abbrev cX3_has : ByteArray := prog_5_method_4_code
def yX3_has : MethodName := ⟨RX3, "has", "(II)Z"⟩
abbrev cX3_get : ByteArray := prog_5_method_5_code
def yX3_get : MethodName := ⟨RX3, "get", "(II)I"⟩
abbrev cX3_grow : ByteArray := prog_5_method_6_code
def yX3_grow : MethodName := ⟨RX3, "grow", "(III)V"⟩
abbrev cX3_add : ByteArray := prog_5_method_7_code
def yX3_add : MethodName := ⟨RX3, "add", "(IIIII)V"⟩
abbrev cX3_firstUnlike : ByteArray := prog_5_method_8_code
def yX3_firstUnlike : MethodName := ⟨RX3, "firstUnlike", "(LFairWheel$Rows;)I"⟩
abbrev cX3_summed : ByteArray := prog_5_method_9_code
def yX3_summed : MethodName := ⟨RX3, "summed", "(J)J"⟩
def RX4 : String := "FairWheel$Task"
def TX4 : u_T := fun k => match k with
  | 0 => ("FairWheel$Task", "number", "I", true)
  | 1 => ("FairWheel$Task", "kind", "I", false)
  | 2 => ("FairWheel$Task", "program", "I", false)
  | 3 => ("FairWheel$Task", "share", "I", false)
  | 4 => ("FairWheel$Task", "virtual", "J", false)
  | 5 => ("FairWheel$Task", "rest", "I", false)
  | 6 => ("FairWheel$Task", "work", "I", false)
  | 7 => ("FairWheel$Task", "place", "I", false)
  | 8 => ("FairWheel$Task", "state", "I", false)
  | 9 => ("FairWheel$Task", "waitsFor", "I", false)
  | 10 => ("FairWheel$Task", "until", "I", false)
  | 11 => ("FairWheel$Task", "fault", "I", false)
  | 12 => ("FairWheel$Task", "period", "I", false)
  | 13 => ("FairWheel$Task", "budget", "I", false)
  | 14 => ("FairWheel$Task", "deadline", "I", false)
  | 15 => ("FairWheel$Task", "left", "I", false)
  | 16 => ("FairWheel$Task", "shortCount", "I", false)
  | 17 => ("FairWheel$Task", "shorts", "[S", false)
  | _ => ("FairWheel$Task", "standing", "J", false)
def tyX4 : Nat → FieldType := fun k => match k with
  | 0 => .int
  | 1 => .int
  | 2 => .int
  | 3 => .int
  | 4 => .long
  | 5 => .int
  | 6 => .int
  | 7 => .int
  | 8 => .int
  | 9 => .int
  | 10 => .int
  | 11 => .int
  | 12 => .int
  | 13 => .int
  | 14 => .int
  | 15 => .int
  | 16 => .int
  | 17 => .array .short
  | _ => .long
abbrev wsX40 : List Cond := u_ws RX4 TX4 19
theorem nmX4 : ∀ a, a < 19 → ∀ b, b < 19 → a ≠ b → (TX4 a).2.1 ≠ (TX4 b).2.1 := by decide +kernel
theorem tyX4_ok : ∀ k, k < 19 → parseFieldDescriptor (TX4 k).2.2.1 = some (tyX4 k) := by decide +kernel
abbrev cX4_init : ByteArray := prog_6_method_1_code
def yX4_init : MethodName := ⟨RX4, "<init>", "(I)V"⟩
abbrev cX4_begin : ByteArray := prog_6_method_2_code
def yX4_begin : MethodName := ⟨RX4, "begin", "(IIIJ)V"⟩
abbrev cX4_startPeriod : ByteArray := prog_6_method_3_code
def yX4_startPeriod : MethodName := ⟨RX4, "startPeriod", "(III)V"⟩
abbrev cX4_become : ByteArray := prog_6_method_4_code
def yX4_become : MethodName := ⟨RX4, "become", "(LFairWheel$Task;)V"⟩
abbrev cX4_hasDeadline : ByteArray := prog_6_method_5_code
def yX4_hasDeadline : MethodName := ⟨RX4, "hasDeadline", "()Z"⟩
abbrev cX4_isOf : ByteArray := prog_6_method_6_code
def yX4_isOf : MethodName := ⟨RX4, "isOf", "(I)Z"⟩
abbrev cX4_rank : ByteArray := prog_6_method_7_code
def yX4_rank : MethodName := ⟨RX4, "rank", "()J"⟩
abbrev cX4_changeShare : ByteArray := prog_6_method_8_code
def yX4_changeShare : MethodName := ⟨RX4, "changeShare", "(I)I"⟩
abbrev cX4_payOnce : ByteArray := prog_6_method_9_code
def yX4_payOnce : MethodName := ⟨RX4, "payOnce", "()V"⟩
abbrev cX4_paymentsBehind : ByteArray := prog_6_method_10_code
def yX4_paymentsBehind : MethodName := ⟨RX4, "paymentsBehind", "(J)J"⟩
abbrev cX4_wake : ByteArray := prog_6_method_11_code
def yX4_wake : MethodName := ⟨RX4, "wake", "()V"⟩
abbrev cX4_makeShorts : ByteArray := prog_6_method_12_code
def yX4_makeShorts : MethodName := ⟨RX4, "makeShorts", "(I)V"⟩
abbrev cX4_hasShort : ByteArray := prog_6_method_13_code
def yX4_hasShort : MethodName := ⟨RX4, "hasShort", "(I)Z"⟩
abbrev cX4_shortAt : ByteArray := prog_6_method_14_code
def yX4_shortAt : MethodName := ⟨RX4, "shortAt", "(I)I"⟩
abbrev cX4_setShort : ByteArray := prog_6_method_15_code
def yX4_setShort : MethodName := ⟨RX4, "setShort", "(II)V"⟩
abbrev cX4_tell : ByteArray := prog_6_method_16_code
def yX4_tell : MethodName := ⟨RX4, "tell", "(I)I"⟩
def RX5 : String := "FairWheel"
def TX5 : u_T := fun k => match k with
  | 0 => ("FairWheel", "live", "LFairWheel$Kernel;", true)
  | 1 => ("FairWheel", "notes", "LFairWheel$Notes;", true)
  | 2 => ("FairWheel", "replay", "LFairWheel$Kernel;", false)
  | 3 => ("FairWheel", "kept", "LFairWheel$Kernel;", false)
  | 4 => ("FairWheel", "keptNotes", "LFairWheel$Notes;", false)
  | 5 => ("FairWheel", "refusal", "I", false)
  | _ => ("FairWheel", "checkClock", "I", false)
def tyX5 : Nat → FieldType := fun k => match k with
  | 0 => .object "FairWheel$Kernel"
  | 1 => .object "FairWheel$Notes"
  | 2 => .object "FairWheel$Kernel"
  | 3 => .object "FairWheel$Kernel"
  | 4 => .object "FairWheel$Notes"
  | 5 => .int
  | _ => .int
abbrev wsX50 : List Cond := u_ws RX5 TX5 7
theorem nmX5 : ∀ a, a < 7 → ∀ b, b < 7 → a ≠ b → (TX5 a).2.1 ≠ (TX5 b).2.1 := by decide +kernel
theorem tyX5_ok : ∀ k, k < 7 → parseFieldDescriptor (TX5 k).2.2.1 = some (tyX5 k) := by decide +kernel
abbrev cX5_init : ByteArray := prog_1_method_1_code
def yX5_init : MethodName := ⟨RX5, "<init>", "()V"⟩
abbrev cX5_program : ByteArray := prog_1_method_2_code
def yX5_program : MethodName := ⟨RX5, "program", "(IJI)I"⟩
abbrev cX5_task : ByteArray := prog_1_method_3_code
def yX5_task : MethodName := ⟨RX5, "task", "(III)I"⟩
abbrev cX5_share : ByteArray := prog_1_method_4_code
def yX5_share : MethodName := ⟨RX5, "share", "(II)I"⟩
abbrev cX5_deadline : ByteArray := prog_1_method_5_code
def yX5_deadline : MethodName := ⟨RX5, "deadline", "(III)Z"⟩
abbrev cX5_processors : ByteArray := prog_1_method_6_code
def yX5_processors : MethodName := ⟨RX5, "processors", "(I)I"⟩
abbrev cX5_lock : ByteArray := prog_1_method_7_code
def yX5_lock : MethodName := ⟨RX5, "lock", "(I)Z"⟩
abbrev cX5_ring : ByteArray := prog_1_method_8_code
def yX5_ring : MethodName := ⟨RX5, "ring", "(I)I"⟩
abbrev cX5_run : ByteArray := prog_1_method_9_code
def yX5_run : MethodName := ⟨RX5, "run", "(I)I"⟩
abbrev cX5_chosen : ByteArray := prog_1_method_10_code
def yX5_chosen : MethodName := ⟨RX5, "chosen", "(I)I"⟩
abbrev cX5_about : ByteArray := prog_1_method_11_code
def yX5_about : MethodName := ⟨RX5, "about", "(II)I"⟩
abbrev cX5_virtual : ByteArray := prog_1_method_12_code
def yX5_virtual : MethodName := ⟨RX5, "virtual", "(I)J"⟩
abbrev cX5_small : ByteArray := prog_1_method_13_code
def yX5_small : MethodName := ⟨RX5, "small", "(II)I"⟩
abbrev cX5_standing : ByteArray := prog_1_method_14_code
def yX5_standing : MethodName := ⟨RX5, "standing", "(II)J"⟩
abbrev cX5_holder : ByteArray := prog_1_method_15_code
def yX5_holder : MethodName := ⟨RX5, "holder", "(I)I"⟩
abbrev cX5_ringed : ByteArray := prog_1_method_16_code
def yX5_ringed : MethodName := ⟨RX5, "ringed", "(I)I"⟩
abbrev cX5_row : ByteArray := prog_1_method_17_code
def yX5_row : MethodName := ⟨RX5, "row", "(II)I"⟩
abbrev cX5_forge : ByteArray := prog_1_method_18_code
def yX5_forge : MethodName := ⟨RX5, "forge", "(III)Z"⟩
abbrev cX5_check : ByteArray := prog_1_method_19_code
def yX5_check : MethodName := ⟨RX5, "check", "()I"⟩
abbrev cX5_checkedTo : ByteArray := prog_1_method_20_code
def yX5_checkedTo : MethodName := ⟨RX5, "checkedTo", "()I"⟩
abbrev cX5_bound : ByteArray := prog_1_method_21_code
def yX5_bound : MethodName := ⟨RX5, "bound", "(I)J"⟩
abbrev cX5_trace : ByteArray := prog_1_method_22_code
def yX5_trace : MethodName := ⟨RX5, "trace", "(I)I"⟩
abbrev cX5_count : ByteArray := prog_1_method_23_code
def yX5_count : MethodName := ⟨RX5, "count", "(I)I"⟩
abbrev cX5_image : ByteArray := prog_1_method_24_code
def yX5_image : MethodName := ⟨RX5, "image", "()J"⟩
abbrev cX5_load : ByteArray := prog_1_method_25_code
def yX5_load : MethodName := ⟨RX5, "load", "()Z"⟩
abbrev cX5_digest : ByteArray := prog_1_method_26_code
def yX5_digest : MethodName := ⟨RX5, "digest", "()J"⟩
abbrev cX5_status : ByteArray := prog_1_method_27_code
def yX5_status : MethodName := ⟨RX5, "status", "()I"⟩
abbrev cX5_refused : ByteArray := prog_1_method_28_code
def yX5_refused : MethodName := ⟨RX5, "refused", "(I)I"⟩
abbrev cX5_noted : ByteArray := prog_1_method_29_code
def yX5_noted : MethodName := ⟨RX5, "noted", "(IJJJ)Z"⟩
abbrev cX5_redo : ByteArray := prog_1_method_30_code
def yX5_redo : MethodName := ⟨RX5, "redo", "(ILFairWheel$Kernel;)V"⟩
abbrev cX5_isShare : ByteArray := prog_1_method_31_code
def yX5_isShare : MethodName := ⟨RX5, "isShare", "(I)Z"⟩
abbrev cX5_classOf : ByteArray := prog_1_method_32_code
def yX5_classOf : MethodName := ⟨RX5, "classOf", "(J)I"⟩
abbrev cX5_keyOf : ByteArray := prog_1_method_33_code
def yX5_keyOf : MethodName := ⟨RX5, "keyOf", "(J)J"⟩
abbrev cX5_numberOf : ByteArray := prog_1_method_34_code
def yX5_numberOf : MethodName := ⟨RX5, "numberOf", "(J)I"⟩
def RX6 : String := "FairWheelModel"
def TX6 : u_T := fun k => match k with
  | 0 => ("FairWheelModel", "k", "[I", true)
  | 1 => ("FairWheelModel", "v", "[J", true)
  | 2 => ("FairWheelModel", "kept", "[I", true)
  | 3 => ("FairWheelModel", "keptV", "[J", true)
  | 4 => ("FairWheelModel", "hasImage", "Z", false)
  | 5 => ("FairWheelModel", "status", "I", false)
  | 6 => ("FairWheelModel", "checkedTo", "I", false)
  | _ => ("FairWheelModel", "isLent", "[Z", true)
def tyX6 : Nat → FieldType := fun k => match k with
  | 0 => .array .int
  | 1 => .array .long
  | 2 => .array .int
  | 3 => .array .long
  | 4 => .boolean
  | 5 => .int
  | 6 => .int
  | _ => .array .boolean
abbrev wsX60 : List Cond := u_ws RX6 TX6 8
theorem nmX6 : ∀ a, a < 8 → ∀ b, b < 8 → a ≠ b → (TX6 a).2.1 ≠ (TX6 b).2.1 := by decide +kernel
theorem tyX6_ok : ∀ k, k < 8 → parseFieldDescriptor (TX6 k).2.2.1 = some (tyX6 k) := by decide +kernel
abbrev cX6_init : ByteArray := prog_8_method_1_code
def yX6_init : MethodName := ⟨RX6, "<init>", "()V"⟩
abbrev cX6_isIn : ByteArray := prog_8_method_2_code
def yX6_isIn : MethodName := ⟨RX6, "isIn", "(JJJ)Z"⟩
abbrev cX6_get : ByteArray := prog_8_method_3_code
def yX6_get : MethodName := ⟨RX6, "get", "(II)I"⟩
abbrev cX6_set : ByteArray := prog_8_method_4_code
def yX6_set : MethodName := ⟨RX6, "set", "(III)V"⟩
abbrev cX6_isTask : ByteArray := prog_8_method_5_code
def yX6_isTask : MethodName := ⟨RX6, "isTask", "(I)Z"⟩
abbrev cX6_isDue : ByteArray := prog_8_method_6_code
def yX6_isDue : MethodName := ⟨RX6, "isDue", "(I)Z"⟩
abbrev cX6_body : ByteArray := prog_8_method_7_code
def yX6_body : MethodName := ⟨RX6, "body", "(I)V"⟩
abbrev cX6_isRefused : ByteArray := prog_8_method_8_code
def yX6_isRefused : MethodName := ⟨RX6, "isRefused", "(I)Z"⟩
abbrev cX6_classOf : ByteArray := prog_8_method_9_code
def yX6_classOf : MethodName := ⟨RX6, "classOf", "(I)I"⟩
abbrev cX6_keyOf : ByteArray := prog_8_method_10_code
def yX6_keyOf : MethodName := ⟨RX6, "keyOf", "(I)J"⟩
abbrev cX6_isAhead : ByteArray := prog_8_method_11_code
def yX6_isAhead : MethodName := ⟨RX6, "isAhead", "(II)Z"⟩
abbrev cX6_standingOf : ByteArray := prog_8_method_12_code
def yX6_standingOf : MethodName := ⟨RX6, "standingOf", "(I)I"⟩
abbrev cX6_waits : ByteArray := prog_8_method_13_code
def yX6_waits : MethodName := ⟨RX6, "waits", "(IIII)V"⟩
abbrev cX6_isReadyNow : ByteArray := prog_8_method_14_code
def yX6_isReadyNow : MethodName := ⟨RX6, "isReadyNow", "(I)V"⟩
abbrev cX6_passes : ByteArray := prog_8_method_15_code
def yX6_passes : MethodName := ⟨RX6, "passes", "(I)V"⟩
abbrev cX6_ends : ByteArray := prog_8_method_16_code
def yX6_ends : MethodName := ⟨RX6, "ends", "(II)V"⟩
abbrev cX6_ringBell : ByteArray := prog_8_method_17_code
def yX6_ringBell : MethodName := ⟨RX6, "ringBell", "(I)I"⟩
abbrev cX6_added : ByteArray := prog_8_method_18_code
def yX6_added : MethodName := ⟨RX6, "added", "(IIIII)I"⟩
abbrev cX6_isOf : ByteArray := prog_8_method_19_code
def yX6_isOf : MethodName := ⟨RX6, "isOf", "(II)Z"⟩
abbrev cX6_pay : ByteArray := prog_8_method_20_code
def yX6_pay : MethodName := ⟨RX6, "pay", "(I)I"⟩
abbrev cX6_pays : ByteArray := prog_8_method_21_code
def yX6_pays : MethodName := ⟨RX6, "pays", "(I)V"⟩
abbrev cX6_turn : ByteArray := prog_8_method_22_code
def yX6_turn : MethodName := ⟨RX6, "turn", "(I)V"⟩
abbrev cX6_act : ByteArray := prog_8_method_23_code
def yX6_act : MethodName := ⟨RX6, "act", "(I)I"⟩
abbrev cX6_takesLock : ByteArray := prog_8_method_24_code
def yX6_takesLock : MethodName := ⟨RX6, "takesLock", "(II)I"⟩
abbrev cX6_givesLock : ByteArray := prog_8_method_25_code
def yX6_givesLock : MethodName := ⟨RX6, "givesLock", "(II)I"⟩
abbrev cX6_forks : ByteArray := prog_8_method_26_code
def yX6_forks : MethodName := ⟨RX6, "forks", "(II)I"⟩
abbrev cX6_says : ByteArray := prog_8_method_27_code
def yX6_says : MethodName := ⟨RX6, "says", "(II)I"⟩
abbrev cX6_smalls : ByteArray := prog_8_method_28_code
def yX6_smalls : MethodName := ⟨RX6, "smalls", "(III)I"⟩
abbrev cX6_wakes : ByteArray := prog_8_method_29_code
def yX6_wakes : MethodName := ⟨RX6, "wakes", "()V"⟩
abbrev cX6_chooses : ByteArray := prog_8_method_30_code
def yX6_chooses : MethodName := ⟨RX6, "chooses", "(I)V"⟩
abbrev cX6_puts : ByteArray := prog_8_method_31_code
def yX6_puts : MethodName := ⟨RX6, "puts", "(IIIIII)V"⟩
abbrev cX6_tick : ByteArray := prog_8_method_32_code
def yX6_tick : MethodName := ⟨RX6, "tick", "()V"⟩
abbrev cX6_program : ByteArray := prog_8_method_33_code
def yX6_program : MethodName := ⟨RX6, "program", "(IJI)I"⟩
abbrev cX6_task : ByteArray := prog_8_method_34_code
def yX6_task : MethodName := ⟨RX6, "task", "(III)I"⟩
abbrev cX6_isLiving : ByteArray := prog_8_method_35_code
def yX6_isLiving : MethodName := ⟨RX6, "isLiving", "(I)Z"⟩
abbrev cX6_share : ByteArray := prog_8_method_36_code
def yX6_share : MethodName := ⟨RX6, "share", "(II)I"⟩
abbrev cX6_deadline : ByteArray := prog_8_method_37_code
def yX6_deadline : MethodName := ⟨RX6, "deadline", "(III)Z"⟩
abbrev cX6_processors : ByteArray := prog_8_method_38_code
def yX6_processors : MethodName := ⟨RX6, "processors", "(I)I"⟩
abbrev cX6_lock : ByteArray := prog_8_method_39_code
def yX6_lock : MethodName := ⟨RX6, "lock", "(I)Z"⟩
abbrev cX6_ring : ByteArray := prog_8_method_40_code
def yX6_ring : MethodName := ⟨RX6, "ring", "(I)I"⟩
abbrev cX6_run : ByteArray := prog_8_method_41_code
def yX6_run : MethodName := ⟨RX6, "run", "(I)I"⟩
abbrev cX6_chosen : ByteArray := prog_8_method_42_code
def yX6_chosen : MethodName := ⟨RX6, "chosen", "(I)I"⟩
abbrev cX6_about : ByteArray := prog_8_method_43_code
def yX6_about : MethodName := ⟨RX6, "about", "(II)I"⟩
abbrev cX6_virtual : ByteArray := prog_8_method_44_code
def yX6_virtual : MethodName := ⟨RX6, "virtual", "(I)J"⟩
abbrev cX6_small : ByteArray := prog_8_method_45_code
def yX6_small : MethodName := ⟨RX6, "small", "(II)I"⟩
abbrev cX6_standing : ByteArray := prog_8_method_46_code
def yX6_standing : MethodName := ⟨RX6, "standing", "(II)J"⟩
abbrev cX6_holder : ByteArray := prog_8_method_47_code
def yX6_holder : MethodName := ⟨RX6, "holder", "(I)I"⟩
abbrev cX6_ringed : ByteArray := prog_8_method_48_code
def yX6_ringed : MethodName := ⟨RX6, "ringed", "(I)I"⟩
abbrev cX6_isRow : ByteArray := prog_8_method_49_code
def yX6_isRow : MethodName := ⟨RX6, "isRow", "(II)Z"⟩
abbrev cX6_row : ByteArray := prog_8_method_50_code
def yX6_row : MethodName := ⟨RX6, "row", "(II)I"⟩
abbrev cX6_forge : ByteArray := prog_8_method_51_code
def yX6_forge : MethodName := ⟨RX6, "forge", "(III)Z"⟩
abbrev cX6_check : ByteArray := prog_8_method_52_code
def yX6_check : MethodName := ⟨RX6, "check", "()I"⟩
abbrev cX6_checkedTo : ByteArray := prog_8_method_53_code
def yX6_checkedTo : MethodName := ⟨RX6, "checkedTo", "()I"⟩
abbrev cX6_payments : ByteArray := prog_8_method_54_code
def yX6_payments : MethodName := ⟨RX6, "payments", "(IJI)J"⟩
abbrev cX6_bound : ByteArray := prog_8_method_55_code
def yX6_bound : MethodName := ⟨RX6, "bound", "(I)J"⟩
abbrev cX6_trace : ByteArray := prog_8_method_56_code
def yX6_trace : MethodName := ⟨RX6, "trace", "(I)I"⟩
abbrev cX6_count : ByteArray := prog_8_method_57_code
def yX6_count : MethodName := ⟨RX6, "count", "(I)I"⟩
abbrev cX6_image : ByteArray := prog_8_method_58_code
def yX6_image : MethodName := ⟨RX6, "image", "()J"⟩
abbrev cX6_load : ByteArray := prog_8_method_59_code
def yX6_load : MethodName := ⟨RX6, "load", "()Z"⟩
abbrev cX6_digest : ByteArray := prog_8_method_60_code
def yX6_digest : MethodName := ⟨RX6, "digest", "()J"⟩
abbrev cX6_status : ByteArray := prog_8_method_61_code
def yX6_status : MethodName := ⟨RX6, "status", "()I"⟩
def RJx8e188 : String := "java/lang/Cloneable"
def TJx8e188 : u_T := fun k => match k with
  | _ => ("", "", "", false)
def tyJx8e188 : Nat → FieldType := fun k => match k with
  | _ => .int
abbrev wsJx8e1880 : List Cond := u_ws RJx8e188 TJx8e188 0
theorem nmJx8e188 : ∀ a, a < 0 → ∀ b, b < 0 → a ≠ b → (TJx8e188 a).2.1 ≠ (TJx8e188 b).2.1 := by decide +kernel
theorem tyJx8e188_ok : ∀ k, k < 0 → parseFieldDescriptor (TJx8e188 k).2.2.1 = some (tyJx8e188 k) := by decide +kernel
def RJ9 : String := "java/lang/Math"
def TJ9 : u_T := fun k => match k with
  | _ => ("", "", "", false)
def tyJ9 : Nat → FieldType := fun k => match k with
  | _ => .int
abbrev wsJ90 : List Cond := u_ws RJ9 TJ9 0
theorem nmJ9 : ∀ a, a < 0 → ∀ b, b < 0 → a ≠ b → (TJ9 a).2.1 ≠ (TJ9 b).2.1 := by decide +kernel
theorem tyJ9_ok : ∀ k, k < 0 → parseFieldDescriptor (TJ9 k).2.2.1 = some (tyJ9 k) := by decide +kernel
abbrev cJ9_max_7cf53 : ByteArray := prog_10_method_65_code
def yJ9_max_7cf53 : MethodName := ⟨RJ9, "max", "(II)I"⟩
abbrev cJ9_max_f86c9 : ByteArray := prog_10_method_66_code
def yJ9_max_f86c9 : MethodName := ⟨RJ9, "max", "(JJ)J"⟩
abbrev cJ9_min_7cf53 : ByteArray := prog_10_method_69_code
def yJ9_min_7cf53 : MethodName := ⟨RJ9, "min", "(II)I"⟩
def RJ10 : String := "java/lang/System"
def TJ10 : u_T := fun k => match k with
  | _ => ("", "", "", false)
def tyJ10 : Nat → FieldType := fun k => match k with
  | _ => .int
abbrev wsJ100 : List Cond := u_ws RJ10 TJ10 0
theorem nmJ10 : ∀ a, a < 0 → ∀ b, b < 0 → a ≠ b → (TJ10 a).2.1 ≠ (TJ10 b).2.1 := by decide +kernel
theorem tyJ10_ok : ∀ k, k < 0 → parseFieldDescriptor (TJ10 k).2.2.1 = some (tyJ10 k) := by decide +kernel
def RJ7 : String := "java/util/Arrays"
def TJ7 : u_T := fun k => match k with
  | _ => ("", "", "", false)
def tyJ7 : Nat → FieldType := fun k => match k with
  | _ => .int
abbrev wsJ70 : List Cond := u_ws RJ7 TJ7 0
theorem nmJ7 : ∀ a, a < 0 → ∀ b, b < 0 → a ≠ b → (TJ7 a).2.1 ≠ (TJ7 b).2.1 := by decide +kernel
theorem tyJ7_ok : ∀ k, k < 0 → parseFieldDescriptor (TJ7 k).2.2.1 = some (tyJ7 k) := by decide +kernel
abbrev cJ7_fill_53178 : ByteArray := prog_12_method_103_code
def yJ7_fill_53178 : MethodName := ⟨RJ7, "fill", "([II)V"⟩
abbrev cJ7_fill_fb410 : ByteArray := prog_12_method_105_code
def yJ7_fill_fb410 : MethodName := ⟨RJ7, "fill", "([SS)V"⟩
abbrev cJ7_copyOf_9075b : ByteArray := prog_12_method_121_code
def yJ7_copyOf_9075b : MethodName := ⟨RJ7, "copyOf", "([BI)[B"⟩
abbrev cJ7_copyOf_59c91 : ByteArray := prog_12_method_123_code
def yJ7_copyOf_59c91 : MethodName := ⟨RJ7, "copyOf", "([II)[I"⟩
abbrev cJ7_copyOf_c38d5 : ByteArray := prog_12_method_124_code
def yJ7_copyOf_c38d5 : MethodName := ⟨RJ7, "copyOf", "([JI)[J"⟩
def RL : String := "FairWheelLaw"
abbrev cL_law : ByteArray := code
def yL_law : MethodName := ⟨RL, "law", "([I)Z"⟩
abbrev vwCl : List vw_C := [(RX0, TX0, 12), (RX1, TX1, 2), (RX2, TX2, 2), (RX3, TX3, 2), (RX4, TX4, 19), (RX5, TX5, 7), (RX6, TX6, 8)]
end
section
theorem dX0_init_0 : decode cX0_init 0 = .ok (.aload_n 0, 1) := by decide +kernel
theorem dX0_init_1 : decode cX0_init 1 = .ok (.invokespecial 3, 3) := by decide +kernel
theorem dX0_init_4 : decode cX0_init 4 = .ok (.aload_n 0, 1) := by decide +kernel
theorem dX0_init_5 : decode cX0_init 5 = .ok (.sipush 200, 3) := by decide +kernel
theorem dX0_init_8 : decode cX0_init 8 = .ok (.anewarray 9, 3) := by decide +kernel
theorem dX0_init_11 : decode cX0_init 11 = .ok (.putfield 11, 3) := by decide +kernel
theorem dX0_init_14 : decode cX0_init 14 = .ok (.aload_n 0, 1) := by decide +kernel
theorem dX0_init_15 : decode cX0_init 15 = .ok (.bipush 32, 2) := by decide +kernel
theorem dX0_init_17 : decode cX0_init 17 = .ok (.anewarray 17, 3) := by decide +kernel
theorem dX0_init_20 : decode cX0_init 20 = .ok (.putfield 19, 3) := by decide +kernel
theorem dX0_init_23 : decode cX0_init 23 = .ok (.aload_n 0, 1) := by decide +kernel
theorem dX0_init_24 : decode cX0_init 24 = .ok (.new 23, 3) := by decide +kernel
theorem dX0_init_27 : decode cX0_init 27 = .ok (.dup, 1) := by decide +kernel
theorem dX0_init_28 : decode cX0_init 28 = .ok (.invokespecial 25, 3) := by decide +kernel
theorem dX0_init_31 : decode cX0_init 31 = .ok (.putfield 26, 3) := by decide +kernel
theorem dX0_init_34 : decode cX0_init 34 = .ok (.aload_n 0, 1) := by decide +kernel
theorem dX0_init_35 : decode cX0_init 35 = .ok (.bipush 100, 2) := by decide +kernel
theorem dX0_init_37 : decode cX0_init 37 = .ok (.newarray .int, 2) := by decide +kernel
theorem dX0_init_39 : decode cX0_init 39 = .ok (.putfield 30, 3) := by decide +kernel
theorem dX0_init_42 : decode cX0_init 42 = .ok (.aload_n 0, 1) := by decide +kernel
theorem dX0_init_43 : decode cX0_init 43 = .ok (.iconst 4, 1) := by decide +kernel
theorem dX0_init_44 : decode cX0_init 44 = .ok (.newarray .int, 2) := by decide +kernel
theorem dX0_init_46 : decode cX0_init 46 = .ok (.putfield 34, 3) := by decide +kernel
theorem dX0_init_49 : decode cX0_init 49 = .ok (.aload_n 0, 1) := by decide +kernel
theorem dX0_init_50 : decode cX0_init 50 = .ok (.sipush 200, 3) := by decide +kernel
theorem dX0_init_53 : decode cX0_init 53 = .ok (.newarray .int, 2) := by decide +kernel
theorem dX0_init_55 : decode cX0_init 55 = .ok (.putfield 37, 3) := by decide +kernel
theorem dX0_init_58 : decode cX0_init 58 = .ok (.aload_n 0, 1) := by decide +kernel
theorem dX0_init_59 : decode cX0_init 59 = .ok (.bipush 12, 2) := by decide +kernel
theorem dX0_init_61 : decode cX0_init 61 = .ok (.newarray .int, 2) := by decide +kernel
theorem dX0_init_63 : decode cX0_init 63 = .ok (.putfield 40, 3) := by decide +kernel
theorem dX0_init_66 : decode cX0_init 66 = .ok (.aload_n 0, 1) := by decide +kernel
theorem dX0_init_67 : decode cX0_init 67 = .ok (.iconst 0, 1) := by decide +kernel
theorem dX0_init_68 : decode cX0_init 68 = .ok (.putfield 43, 3) := by decide +kernel
theorem dX0_init_71 : decode cX0_init 71 = .ok (.aload_n 0, 1) := by decide +kernel
theorem dX0_init_72 : decode cX0_init 72 = .ok (.iconst 0, 1) := by decide +kernel
theorem dX0_init_73 : decode cX0_init 73 = .ok (.putfield 47, 3) := by decide +kernel
theorem dX0_init_76 : decode cX0_init 76 = .ok (.aload_n 0, 1) := by decide +kernel
theorem dX0_init_77 : decode cX0_init 77 = .ok (.iconst 1, 1) := by decide +kernel
theorem dX0_init_78 : decode cX0_init 78 = .ok (.putfield 50, 3) := by decide +kernel
theorem dX0_init_81 : decode cX0_init 81 = .ok (.aload_n 0, 1) := by decide +kernel
theorem dX0_init_82 : decode cX0_init 82 = .ok (.iconst 0, 1) := by decide +kernel
theorem dX0_init_83 : decode cX0_init 83 = .ok (.putfield 53, 3) := by decide +kernel
theorem dX0_init_86 : decode cX0_init 86 = .ok (.aload_n 0, 1) := by decide +kernel
theorem dX0_init_87 : decode cX0_init 87 = .ok (.iconst 0, 1) := by decide +kernel
theorem dX0_init_88 : decode cX0_init 88 = .ok (.putfield 56, 3) := by decide +kernel
theorem dX0_init_91 : decode cX0_init 91 = .ok (.iconst 0, 1) := by decide +kernel
theorem dX0_init_92 : decode cX0_init 92 = .ok (.istore_n 1, 1) := by decide +kernel
theorem dX0_init_93 : decode cX0_init 93 = .ok (.iload_n 1, 1) := by decide +kernel
theorem dX0_init_94 : decode cX0_init 94 = .ok (.sipush 200, 3) := by decide +kernel
theorem dX0_init_97 : decode cX0_init 97 = .ok (.if_icmp .ge 23, 3) := by decide +kernel
theorem dX0_init_100 : decode cX0_init 100 = .ok (.aload_n 0, 1) := by decide +kernel
theorem dX0_init_101 : decode cX0_init 101 = .ok (.getfield 11, 3) := by decide +kernel
theorem dX0_init_104 : decode cX0_init 104 = .ok (.iload_n 1, 1) := by decide +kernel
theorem dX0_init_105 : decode cX0_init 105 = .ok (.new 9, 3) := by decide +kernel
theorem dX0_init_108 : decode cX0_init 108 = .ok (.dup, 1) := by decide +kernel
theorem dX0_init_109 : decode cX0_init 109 = .ok (.iload_n 1, 1) := by decide +kernel
theorem dX0_init_110 : decode cX0_init 110 = .ok (.invokespecial 59, 3) := by decide +kernel
theorem dX0_init_113 : decode cX0_init 113 = .ok (.aastore, 1) := by decide +kernel
theorem dX0_init_114 : decode cX0_init 114 = .ok (.iinc 1 1, 3) := by decide +kernel
theorem dX0_init_117 : decode cX0_init 117 = .ok (.goto (-24), 3) := by decide +kernel
theorem dX0_init_120 : decode cX0_init 120 = .ok (.iconst 0, 1) := by decide +kernel
theorem dX0_init_121 : decode cX0_init 121 = .ok (.istore_n 1, 1) := by decide +kernel
theorem dX0_init_122 : decode cX0_init 122 = .ok (.iload_n 1, 1) := by decide +kernel
theorem dX0_init_123 : decode cX0_init 123 = .ok (.bipush 32, 2) := by decide +kernel
theorem dX0_init_125 : decode cX0_init 125 = .ok (.if_icmp .ge 22, 3) := by decide +kernel
theorem dX0_init_128 : decode cX0_init 128 = .ok (.aload_n 0, 1) := by decide +kernel
theorem dX0_init_129 : decode cX0_init 129 = .ok (.getfield 19, 3) := by decide +kernel
theorem dX0_init_132 : decode cX0_init 132 = .ok (.iload_n 1, 1) := by decide +kernel
theorem dX0_init_133 : decode cX0_init 133 = .ok (.new 17, 3) := by decide +kernel
theorem dX0_init_136 : decode cX0_init 136 = .ok (.dup, 1) := by decide +kernel
theorem dX0_init_137 : decode cX0_init 137 = .ok (.invokespecial 62, 3) := by decide +kernel
theorem dX0_init_140 : decode cX0_init 140 = .ok (.aastore, 1) := by decide +kernel
theorem dX0_init_141 : decode cX0_init 141 = .ok (.iinc 1 1, 3) := by decide +kernel
theorem dX0_init_144 : decode cX0_init 144 = .ok (.goto (-22), 3) := by decide +kernel
theorem dX0_init_147 : decode cX0_init 147 = .ok (.aload_n 0, 1) := by decide +kernel
theorem dX0_init_148 : decode cX0_init 148 = .ok (.getfield 30, 3) := by decide +kernel
theorem dX0_init_151 : decode cX0_init 151 = .ok (.bipush (-2), 2) := by decide +kernel
theorem dX0_init_153 : decode cX0_init 153 = .ok (.invokestatic 63, 3) := by decide +kernel
theorem dX0_init_156 : decode cX0_init 156 = .ok (.aload_n 0, 1) := by decide +kernel
theorem dX0_init_157 : decode cX0_init 157 = .ok (.getfield 34, 3) := by decide +kernel
theorem dX0_init_160 : decode cX0_init 160 = .ok (.iconst (-1), 1) := by decide +kernel
theorem dX0_init_161 : decode cX0_init 161 = .ok (.invokestatic 63, 3) := by decide +kernel
theorem dX0_init_164 : decode cX0_init 164 = .ok (.return_, 1) := by decide +kernel
theorem dX0_clear_0 : decode cX0_clear 0 = .ok (.iconst 0, 1) := by decide +kernel
theorem dX0_clear_1 : decode cX0_clear 1 = .ok (.istore_n 1, 1) := by decide +kernel
theorem dX0_clear_2 : decode cX0_clear 2 = .ok (.iload_n 1, 1) := by decide +kernel
theorem dX0_clear_3 : decode cX0_clear 3 = .ok (.bipush 32, 2) := by decide +kernel
theorem dX0_clear_5 : decode cX0_clear 5 = .ok (.if_icmp .ge 19, 3) := by decide +kernel
theorem dX0_clear_8 : decode cX0_clear 8 = .ok (.aload_n 0, 1) := by decide +kernel
theorem dX0_clear_9 : decode cX0_clear 9 = .ok (.getfield 19, 3) := by decide +kernel
theorem dX0_clear_12 : decode cX0_clear 12 = .ok (.iload_n 1, 1) := by decide +kernel
theorem dX0_clear_13 : decode cX0_clear 13 = .ok (.aaload, 1) := by decide +kernel
theorem dX0_clear_14 : decode cX0_clear 14 = .ok (.iconst (-1), 1) := by decide +kernel
theorem dX0_clear_15 : decode cX0_clear 15 = .ok (.putfield 69, 3) := by decide +kernel
theorem dX0_clear_18 : decode cX0_clear 18 = .ok (.iinc 1 1, 3) := by decide +kernel
theorem dX0_clear_21 : decode cX0_clear 21 = .ok (.goto (-19), 3) := by decide +kernel
theorem dX0_clear_24 : decode cX0_clear 24 = .ok (.aload_n 0, 1) := by decide +kernel
theorem dX0_clear_25 : decode cX0_clear 25 = .ok (.getfield 26, 3) := by decide +kernel
theorem dX0_clear_28 : decode cX0_clear 28 = .ok (.iconst 0, 1) := by decide +kernel
theorem dX0_clear_29 : decode cX0_clear 29 = .ok (.putfield 72, 3) := by decide +kernel
theorem dX0_clear_32 : decode cX0_clear 32 = .ok (.aload_n 0, 1) := by decide +kernel
theorem dX0_clear_33 : decode cX0_clear 33 = .ok (.getfield 30, 3) := by decide +kernel
theorem dX0_clear_36 : decode cX0_clear 36 = .ok (.bipush (-2), 2) := by decide +kernel
theorem dX0_clear_38 : decode cX0_clear 38 = .ok (.invokestatic 63, 3) := by decide +kernel
theorem dX0_clear_41 : decode cX0_clear 41 = .ok (.aload_n 0, 1) := by decide +kernel
theorem dX0_clear_42 : decode cX0_clear 42 = .ok (.getfield 34, 3) := by decide +kernel
theorem dX0_clear_45 : decode cX0_clear 45 = .ok (.iconst (-1), 1) := by decide +kernel
theorem dX0_clear_46 : decode cX0_clear 46 = .ok (.invokestatic 63, 3) := by decide +kernel
theorem dX0_clear_49 : decode cX0_clear 49 = .ok (.aload_n 0, 1) := by decide +kernel
theorem dX0_clear_50 : decode cX0_clear 50 = .ok (.getfield 40, 3) := by decide +kernel
theorem dX0_clear_53 : decode cX0_clear 53 = .ok (.iconst 0, 1) := by decide +kernel
theorem dX0_clear_54 : decode cX0_clear 54 = .ok (.invokestatic 63, 3) := by decide +kernel
theorem dX0_clear_57 : decode cX0_clear 57 = .ok (.aload_n 0, 1) := by decide +kernel
theorem dX0_clear_58 : decode cX0_clear 58 = .ok (.iconst 0, 1) := by decide +kernel
theorem dX0_clear_59 : decode cX0_clear 59 = .ok (.putfield 43, 3) := by decide +kernel
theorem dX0_clear_62 : decode cX0_clear 62 = .ok (.aload_n 0, 1) := by decide +kernel
theorem dX0_clear_63 : decode cX0_clear 63 = .ok (.iconst 0, 1) := by decide +kernel
theorem dX0_clear_64 : decode cX0_clear 64 = .ok (.putfield 47, 3) := by decide +kernel
theorem dX0_clear_67 : decode cX0_clear 67 = .ok (.aload_n 0, 1) := by decide +kernel
theorem dX0_clear_68 : decode cX0_clear 68 = .ok (.iconst 1, 1) := by decide +kernel
theorem dX0_clear_69 : decode cX0_clear 69 = .ok (.putfield 50, 3) := by decide +kernel
theorem dX0_clear_72 : decode cX0_clear 72 = .ok (.aload_n 0, 1) := by decide +kernel
theorem dX0_clear_73 : decode cX0_clear 73 = .ok (.iconst 0, 1) := by decide +kernel
theorem dX0_clear_74 : decode cX0_clear 74 = .ok (.putfield 53, 3) := by decide +kernel
theorem dX0_clear_77 : decode cX0_clear 77 = .ok (.aload_n 0, 1) := by decide +kernel
theorem dX0_clear_78 : decode cX0_clear 78 = .ok (.iconst 0, 1) := by decide +kernel
theorem dX0_clear_79 : decode cX0_clear 79 = .ok (.putfield 56, 3) := by decide +kernel
theorem dX0_clear_82 : decode cX0_clear 82 = .ok (.return_, 1) := by decide +kernel
theorem dX0_become_0 : decode cX0_become 0 = .ok (.iconst 0, 1) := by decide +kernel
theorem dX0_become_1 : decode cX0_become 1 = .ok (.istore_n 2, 1) := by decide +kernel
theorem dX0_become_2 : decode cX0_become 2 = .ok (.iload_n 2, 1) := by decide +kernel
theorem dX0_become_3 : decode cX0_become 3 = .ok (.aload_n 1, 1) := by decide +kernel
theorem dX0_become_4 : decode cX0_become 4 = .ok (.getfield 43, 3) := by decide +kernel
theorem dX0_become_7 : decode cX0_become 7 = .ok (.if_icmp .ge 24, 3) := by decide +kernel
theorem dX0_become_10 : decode cX0_become 10 = .ok (.aload_n 0, 1) := by decide +kernel
theorem dX0_become_11 : decode cX0_become 11 = .ok (.getfield 11, 3) := by decide +kernel
theorem dX0_become_14 : decode cX0_become 14 = .ok (.iload_n 2, 1) := by decide +kernel
theorem dX0_become_15 : decode cX0_become 15 = .ok (.aaload, 1) := by decide +kernel
theorem dX0_become_16 : decode cX0_become 16 = .ok (.aload_n 1, 1) := by decide +kernel
theorem dX0_become_17 : decode cX0_become 17 = .ok (.getfield 11, 3) := by decide +kernel
theorem dX0_become_20 : decode cX0_become 20 = .ok (.iload_n 2, 1) := by decide +kernel
theorem dX0_become_21 : decode cX0_become 21 = .ok (.aaload, 1) := by decide +kernel
theorem dX0_become_22 : decode cX0_become 22 = .ok (.invokevirtual 73, 3) := by decide +kernel
theorem dX0_become_25 : decode cX0_become 25 = .ok (.iinc 2 1, 3) := by decide +kernel
theorem dX0_become_28 : decode cX0_become 28 = .ok (.goto (-26), 3) := by decide +kernel
theorem dX0_become_31 : decode cX0_become 31 = .ok (.iconst 0, 1) := by decide +kernel
theorem dX0_become_32 : decode cX0_become 32 = .ok (.istore_n 2, 1) := by decide +kernel
theorem dX0_become_33 : decode cX0_become 33 = .ok (.iload_n 2, 1) := by decide +kernel
theorem dX0_become_34 : decode cX0_become 34 = .ok (.bipush 32, 2) := by decide +kernel
theorem dX0_become_36 : decode cX0_become 36 = .ok (.if_icmp .ge 24, 3) := by decide +kernel
theorem dX0_become_39 : decode cX0_become 39 = .ok (.aload_n 0, 1) := by decide +kernel
theorem dX0_become_40 : decode cX0_become 40 = .ok (.getfield 19, 3) := by decide +kernel
theorem dX0_become_43 : decode cX0_become 43 = .ok (.iload_n 2, 1) := by decide +kernel
theorem dX0_become_44 : decode cX0_become 44 = .ok (.aaload, 1) := by decide +kernel
theorem dX0_become_45 : decode cX0_become 45 = .ok (.aload_n 1, 1) := by decide +kernel
theorem dX0_become_46 : decode cX0_become 46 = .ok (.getfield 19, 3) := by decide +kernel
theorem dX0_become_49 : decode cX0_become 49 = .ok (.iload_n 2, 1) := by decide +kernel
theorem dX0_become_50 : decode cX0_become 50 = .ok (.aaload, 1) := by decide +kernel
theorem dX0_become_51 : decode cX0_become 51 = .ok (.invokevirtual 77, 3) := by decide +kernel
theorem dX0_become_54 : decode cX0_become 54 = .ok (.iinc 2 1, 3) := by decide +kernel
theorem dX0_become_57 : decode cX0_become 57 = .ok (.goto (-24), 3) := by decide +kernel
theorem dX0_become_60 : decode cX0_become 60 = .ok (.aload_n 0, 1) := by decide +kernel
theorem dX0_become_61 : decode cX0_become 61 = .ok (.getfield 26, 3) := by decide +kernel
theorem dX0_become_64 : decode cX0_become 64 = .ok (.aload_n 1, 1) := by decide +kernel
theorem dX0_become_65 : decode cX0_become 65 = .ok (.getfield 26, 3) := by decide +kernel
theorem dX0_become_68 : decode cX0_become 68 = .ok (.invokevirtual 80, 3) := by decide +kernel
theorem dX0_become_71 : decode cX0_become 71 = .ok (.aload_n 1, 1) := by decide +kernel
theorem dX0_become_72 : decode cX0_become 72 = .ok (.getfield 30, 3) := by decide +kernel
theorem dX0_become_75 : decode cX0_become 75 = .ok (.iconst 0, 1) := by decide +kernel
theorem dX0_become_76 : decode cX0_become 76 = .ok (.aload_n 0, 1) := by decide +kernel
theorem dX0_become_77 : decode cX0_become 77 = .ok (.getfield 30, 3) := by decide +kernel
theorem dX0_become_80 : decode cX0_become 80 = .ok (.iconst 0, 1) := by decide +kernel
theorem dX0_become_81 : decode cX0_become 81 = .ok (.bipush 100, 2) := by decide +kernel
theorem dX0_become_83 : decode cX0_become 83 = .ok (.invokestatic 83, 3) := by decide +kernel
theorem dX0_become_86 : decode cX0_become 86 = .ok (.aload_n 1, 1) := by decide +kernel
theorem dX0_become_87 : decode cX0_become 87 = .ok (.getfield 34, 3) := by decide +kernel
theorem dX0_become_90 : decode cX0_become 90 = .ok (.iconst 0, 1) := by decide +kernel
theorem dX0_become_91 : decode cX0_become 91 = .ok (.aload_n 0, 1) := by decide +kernel
theorem dX0_become_92 : decode cX0_become 92 = .ok (.getfield 34, 3) := by decide +kernel
theorem dX0_become_95 : decode cX0_become 95 = .ok (.iconst 0, 1) := by decide +kernel
theorem dX0_become_96 : decode cX0_become 96 = .ok (.iconst 4, 1) := by decide +kernel
theorem dX0_become_97 : decode cX0_become 97 = .ok (.invokestatic 83, 3) := by decide +kernel
theorem dX0_become_100 : decode cX0_become 100 = .ok (.aload_n 1, 1) := by decide +kernel
theorem dX0_become_101 : decode cX0_become 101 = .ok (.getfield 37, 3) := by decide +kernel
theorem dX0_become_104 : decode cX0_become 104 = .ok (.iconst 0, 1) := by decide +kernel
theorem dX0_become_105 : decode cX0_become 105 = .ok (.aload_n 0, 1) := by decide +kernel
theorem dX0_become_106 : decode cX0_become 106 = .ok (.getfield 37, 3) := by decide +kernel
theorem dX0_become_109 : decode cX0_become 109 = .ok (.iconst 0, 1) := by decide +kernel
theorem dX0_become_110 : decode cX0_become 110 = .ok (.sipush 200, 3) := by decide +kernel
theorem dX0_become_113 : decode cX0_become 113 = .ok (.invokestatic 83, 3) := by decide +kernel
theorem dX0_become_116 : decode cX0_become 116 = .ok (.aload_n 1, 1) := by decide +kernel
theorem dX0_become_117 : decode cX0_become 117 = .ok (.getfield 40, 3) := by decide +kernel
theorem dX0_become_120 : decode cX0_become 120 = .ok (.iconst 0, 1) := by decide +kernel
theorem dX0_become_121 : decode cX0_become 121 = .ok (.aload_n 0, 1) := by decide +kernel
theorem dX0_become_122 : decode cX0_become 122 = .ok (.getfield 40, 3) := by decide +kernel
theorem dX0_become_125 : decode cX0_become 125 = .ok (.iconst 0, 1) := by decide +kernel
theorem dX0_become_126 : decode cX0_become 126 = .ok (.bipush 12, 2) := by decide +kernel
theorem dX0_become_128 : decode cX0_become 128 = .ok (.invokestatic 83, 3) := by decide +kernel
theorem dX0_become_131 : decode cX0_become 131 = .ok (.aload_n 0, 1) := by decide +kernel
theorem dX0_become_132 : decode cX0_become 132 = .ok (.aload_n 1, 1) := by decide +kernel
theorem dX0_become_133 : decode cX0_become 133 = .ok (.getfield 43, 3) := by decide +kernel
theorem dX0_become_136 : decode cX0_become 136 = .ok (.putfield 43, 3) := by decide +kernel
theorem dX0_become_139 : decode cX0_become 139 = .ok (.aload_n 0, 1) := by decide +kernel
theorem dX0_become_140 : decode cX0_become 140 = .ok (.aload_n 1, 1) := by decide +kernel
theorem dX0_become_141 : decode cX0_become 141 = .ok (.getfield 47, 3) := by decide +kernel
theorem dX0_become_144 : decode cX0_become 144 = .ok (.putfield 47, 3) := by decide +kernel
theorem dX0_become_147 : decode cX0_become 147 = .ok (.aload_n 0, 1) := by decide +kernel
theorem dX0_become_148 : decode cX0_become 148 = .ok (.aload_n 1, 1) := by decide +kernel
theorem dX0_become_149 : decode cX0_become 149 = .ok (.getfield 50, 3) := by decide +kernel
theorem dX0_become_152 : decode cX0_become 152 = .ok (.putfield 50, 3) := by decide +kernel
theorem dX0_become_155 : decode cX0_become 155 = .ok (.aload_n 0, 1) := by decide +kernel
theorem dX0_become_156 : decode cX0_become 156 = .ok (.aload_n 1, 1) := by decide +kernel
theorem dX0_become_157 : decode cX0_become 157 = .ok (.getfield 53, 3) := by decide +kernel
theorem dX0_become_160 : decode cX0_become 160 = .ok (.putfield 53, 3) := by decide +kernel
theorem dX0_become_163 : decode cX0_become 163 = .ok (.aload_n 0, 1) := by decide +kernel
theorem dX0_become_164 : decode cX0_become 164 = .ok (.aload_n 1, 1) := by decide +kernel
theorem dX0_become_165 : decode cX0_become 165 = .ok (.getfield 56, 3) := by decide +kernel
theorem dX0_become_168 : decode cX0_become 168 = .ok (.putfield 56, 3) := by decide +kernel
theorem dX0_become_171 : decode cX0_become 171 = .ok (.return_, 1) := by decide +kernel
theorem dX0_taskAt_0 : decode cX0_taskAt 0 = .ok (.iload_n 1, 1) := by decide +kernel
theorem dX0_taskAt_1 : decode cX0_taskAt 1 = .ok (.ifCond .lt 20, 3) := by decide +kernel
theorem dX0_taskAt_4 : decode cX0_taskAt 4 = .ok (.iload_n 1, 1) := by decide +kernel
theorem dX0_taskAt_5 : decode cX0_taskAt 5 = .ok (.aload_n 0, 1) := by decide +kernel
theorem dX0_taskAt_6 : decode cX0_taskAt 6 = .ok (.getfield 43, 3) := by decide +kernel
theorem dX0_taskAt_9 : decode cX0_taskAt 9 = .ok (.if_icmp .ge 12, 3) := by decide +kernel
theorem dX0_taskAt_12 : decode cX0_taskAt 12 = .ok (.aload_n 0, 1) := by decide +kernel
theorem dX0_taskAt_13 : decode cX0_taskAt 13 = .ok (.getfield 11, 3) := by decide +kernel
theorem dX0_taskAt_16 : decode cX0_taskAt 16 = .ok (.iload_n 1, 1) := by decide +kernel
theorem dX0_taskAt_17 : decode cX0_taskAt 17 = .ok (.aaload, 1) := by decide +kernel
theorem dX0_taskAt_18 : decode cX0_taskAt 18 = .ok (.goto 4, 3) := by decide +kernel
theorem dX0_taskAt_21 : decode cX0_taskAt 21 = .ok (.aconst_null, 1) := by decide +kernel
theorem dX0_taskAt_22 : decode cX0_taskAt 22 = .ok (.areturn, 1) := by decide +kernel
theorem dX0_unendedTask_0 : decode cX0_unendedTask 0 = .ok (.aload_n 0, 1) := by decide +kernel
theorem dX0_unendedTask_1 : decode cX0_unendedTask 1 = .ok (.iload_n 1, 1) := by decide +kernel
theorem dX0_unendedTask_2 : decode cX0_unendedTask 2 = .ok (.invokevirtual 89, 3) := by decide +kernel
theorem dX0_unendedTask_5 : decode cX0_unendedTask 5 = .ok (.astore_n 2, 1) := by decide +kernel
theorem dX0_unendedTask_6 : decode cX0_unendedTask 6 = .ok (.aload_n 2, 1) := by decide +kernel
theorem dX0_unendedTask_7 : decode cX0_unendedTask 7 = .ok (.ifnull 11, 3) := by decide +kernel
theorem dX0_unendedTask_10 : decode cX0_unendedTask 10 = .ok (.aload_n 2, 1) := by decide +kernel
theorem dX0_unendedTask_11 : decode cX0_unendedTask 11 = .ok (.getfield 93, 3) := by decide +kernel
theorem dX0_unendedTask_14 : decode cX0_unendedTask 14 = .ok (.iconst 4, 1) := by decide +kernel
theorem dX0_unendedTask_15 : decode cX0_unendedTask 15 = .ok (.if_icmp .ne 7, 3) := by decide +kernel
theorem dX0_unendedTask_18 : decode cX0_unendedTask 18 = .ok (.aconst_null, 1) := by decide +kernel
theorem dX0_unendedTask_19 : decode cX0_unendedTask 19 = .ok (.goto 4, 3) := by decide +kernel
theorem dX0_unendedTask_22 : decode cX0_unendedTask 22 = .ok (.aload_n 2, 1) := by decide +kernel
theorem dX0_unendedTask_23 : decode cX0_unendedTask 23 = .ok (.areturn, 1) := by decide +kernel
theorem dX0_programAt_0 : decode cX0_programAt 0 = .ok (.iload_n 1, 1) := by decide +kernel
theorem dX0_programAt_1 : decode cX0_programAt 1 = .ok (.ifCond .lt 18, 3) := by decide +kernel
theorem dX0_programAt_4 : decode cX0_programAt 4 = .ok (.iload_n 1, 1) := by decide +kernel
theorem dX0_programAt_5 : decode cX0_programAt 5 = .ok (.bipush 32, 2) := by decide +kernel
theorem dX0_programAt_7 : decode cX0_programAt 7 = .ok (.if_icmp .ge 12, 3) := by decide +kernel
theorem dX0_programAt_10 : decode cX0_programAt 10 = .ok (.aload_n 0, 1) := by decide +kernel
theorem dX0_programAt_11 : decode cX0_programAt 11 = .ok (.getfield 19, 3) := by decide +kernel
theorem dX0_programAt_14 : decode cX0_programAt 14 = .ok (.iload_n 1, 1) := by decide +kernel
theorem dX0_programAt_15 : decode cX0_programAt 15 = .ok (.aaload, 1) := by decide +kernel
theorem dX0_programAt_16 : decode cX0_programAt 16 = .ok (.goto 4, 3) := by decide +kernel
theorem dX0_programAt_19 : decode cX0_programAt 19 = .ok (.aconst_null, 1) := by decide +kernel
theorem dX0_programAt_20 : decode cX0_programAt 20 = .ok (.areturn, 1) := by decide +kernel
theorem dX0_holderOf_0 : decode cX0_holderOf 0 = .ok (.iload_n 1, 1) := by decide +kernel
theorem dX0_holderOf_1 : decode cX0_holderOf 1 = .ok (.ifCond .lt 18, 3) := by decide +kernel
theorem dX0_holderOf_4 : decode cX0_holderOf 4 = .ok (.iload_n 1, 1) := by decide +kernel
theorem dX0_holderOf_5 : decode cX0_holderOf 5 = .ok (.bipush 100, 2) := by decide +kernel
theorem dX0_holderOf_7 : decode cX0_holderOf 7 = .ok (.if_icmp .ge 12, 3) := by decide +kernel
theorem dX0_holderOf_10 : decode cX0_holderOf 10 = .ok (.aload_n 0, 1) := by decide +kernel
theorem dX0_holderOf_11 : decode cX0_holderOf 11 = .ok (.getfield 30, 3) := by decide +kernel
theorem dX0_holderOf_14 : decode cX0_holderOf 14 = .ok (.iload_n 1, 1) := by decide +kernel
theorem dX0_holderOf_15 : decode cX0_holderOf 15 = .ok (.iaload, 1) := by decide +kernel
theorem dX0_holderOf_16 : decode cX0_holderOf 16 = .ok (.goto 5, 3) := by decide +kernel
theorem dX0_holderOf_19 : decode cX0_holderOf 19 = .ok (.bipush (-2), 2) := by decide +kernel
theorem dX0_holderOf_21 : decode cX0_holderOf 21 = .ok (.ireturn, 1) := by decide +kernel
theorem dX0_howMany_0 : decode cX0_howMany 0 = .ok (.iconst 0, 1) := by decide +kernel
theorem dX0_howMany_1 : decode cX0_howMany 1 = .ok (.istore_n 2, 1) := by decide +kernel
theorem dX0_howMany_2 : decode cX0_howMany 2 = .ok (.iconst 0, 1) := by decide +kernel
theorem dX0_howMany_3 : decode cX0_howMany 3 = .ok (.istore_n 3, 1) := by decide +kernel
theorem dX0_howMany_4 : decode cX0_howMany 4 = .ok (.iload_n 3, 1) := by decide +kernel
theorem dX0_howMany_5 : decode cX0_howMany 5 = .ok (.aload_n 0, 1) := by decide +kernel
theorem dX0_howMany_6 : decode cX0_howMany 6 = .ok (.getfield 43, 3) := by decide +kernel
theorem dX0_howMany_9 : decode cX0_howMany 9 = .ok (.if_icmp .ge 30, 3) := by decide +kernel
theorem dX0_howMany_12 : decode cX0_howMany 12 = .ok (.iload_n 2, 1) := by decide +kernel
theorem dX0_howMany_13 : decode cX0_howMany 13 = .ok (.aload_n 0, 1) := by decide +kernel
theorem dX0_howMany_14 : decode cX0_howMany 14 = .ok (.getfield 11, 3) := by decide +kernel
theorem dX0_howMany_17 : decode cX0_howMany 17 = .ok (.iload_n 3, 1) := by decide +kernel
theorem dX0_howMany_18 : decode cX0_howMany 18 = .ok (.aaload, 1) := by decide +kernel
theorem dX0_howMany_19 : decode cX0_howMany 19 = .ok (.getfield 93, 3) := by decide +kernel
theorem dX0_howMany_22 : decode cX0_howMany 22 = .ok (.iload_n 1, 1) := by decide +kernel
theorem dX0_howMany_23 : decode cX0_howMany 23 = .ok (.if_icmp .ne 7, 3) := by decide +kernel
theorem dX0_howMany_26 : decode cX0_howMany 26 = .ok (.iconst 1, 1) := by decide +kernel
theorem dX0_howMany_27 : decode cX0_howMany 27 = .ok (.goto 4, 3) := by decide +kernel
theorem dX0_howMany_30 : decode cX0_howMany 30 = .ok (.iconst 0, 1) := by decide +kernel
theorem dX0_howMany_31 : decode cX0_howMany 31 = .ok (.iadd, 1) := by decide +kernel
theorem dX0_howMany_32 : decode cX0_howMany 32 = .ok (.istore_n 2, 1) := by decide +kernel
theorem dX0_howMany_33 : decode cX0_howMany 33 = .ok (.iinc 3 1, 3) := by decide +kernel
theorem dX0_howMany_36 : decode cX0_howMany 36 = .ok (.goto (-32), 3) := by decide +kernel
theorem dX0_howMany_39 : decode cX0_howMany 39 = .ok (.iload_n 2, 1) := by decide +kernel
theorem dX0_howMany_40 : decode cX0_howMany 40 = .ok (.ireturn, 1) := by decide +kernel
theorem dX0_addTask_0 : decode cX0_addTask 0 = .ok (.aload_n 0, 1) := by decide +kernel
theorem dX0_addTask_1 : decode cX0_addTask 1 = .ok (.getfield 43, 3) := by decide +kernel
theorem dX0_addTask_4 : decode cX0_addTask 4 = .ok (.sipush 200, 3) := by decide +kernel
theorem dX0_addTask_7 : decode cX0_addTask 7 = .ok (.if_icmp .lt 5, 3) := by decide +kernel
theorem dX0_addTask_10 : decode cX0_addTask 10 = .ok (.iconst (-1), 1) := by decide +kernel
theorem dX0_addTask_11 : decode cX0_addTask 11 = .ok (.ireturn, 1) := by decide +kernel
theorem dX0_addTask_12 : decode cX0_addTask 12 = .ok (.aload_n 0, 1) := by decide +kernel
theorem dX0_addTask_13 : decode cX0_addTask 13 = .ok (.getfield 11, 3) := by decide +kernel
theorem dX0_addTask_16 : decode cX0_addTask 16 = .ok (.aload_n 0, 1) := by decide +kernel
theorem dX0_addTask_17 : decode cX0_addTask 17 = .ok (.getfield 43, 3) := by decide +kernel
theorem dX0_addTask_20 : decode cX0_addTask 20 = .ok (.aaload, 1) := by decide +kernel
theorem dX0_addTask_21 : decode cX0_addTask 21 = .ok (.astore 4, 2) := by decide +kernel
theorem dX0_addTask_23 : decode cX0_addTask 23 = .ok (.aload 4, 2) := by decide +kernel
theorem dX0_addTask_25 : decode cX0_addTask 25 = .ok (.iload_n 1, 1) := by decide +kernel
theorem dX0_addTask_26 : decode cX0_addTask 26 = .ok (.iload_n 2, 1) := by decide +kernel
theorem dX0_addTask_27 : decode cX0_addTask 27 = .ok (.iload_n 3, 1) := by decide +kernel
theorem dX0_addTask_28 : decode cX0_addTask 28 = .ok (.aload_n 0, 1) := by decide +kernel
theorem dX0_addTask_29 : decode cX0_addTask 29 = .ok (.invokevirtual 96, 3) := by decide +kernel
theorem dX0_addTask_32 : decode cX0_addTask 32 = .ok (.invokevirtual 100, 3) := by decide +kernel
theorem dX0_addTask_35 : decode cX0_addTask 35 = .ok (.aload 4, 2) := by decide +kernel
theorem dX0_addTask_37 : decode cX0_addTask 37 = .ok (.bipush 100, 2) := by decide +kernel
theorem dX0_addTask_39 : decode cX0_addTask 39 = .ok (.iconst 0, 1) := by decide +kernel
theorem dX0_addTask_40 : decode cX0_addTask 40 = .ok (.aload_n 0, 1) := by decide +kernel
theorem dX0_addTask_41 : decode cX0_addTask 41 = .ok (.getfield 47, 3) := by decide +kernel
theorem dX0_addTask_44 : decode cX0_addTask 44 = .ok (.invokevirtual 104, 3) := by decide +kernel
theorem dX0_addTask_47 : decode cX0_addTask 47 = .ok (.aload_n 0, 1) := by decide +kernel
theorem dX0_addTask_48 : decode cX0_addTask 48 = .ok (.dup, 1) := by decide +kernel
theorem dX0_addTask_49 : decode cX0_addTask 49 = .ok (.getfield 43, 3) := by decide +kernel
theorem dX0_addTask_52 : decode cX0_addTask 52 = .ok (.iconst 1, 1) := by decide +kernel
theorem dX0_addTask_53 : decode cX0_addTask 53 = .ok (.iadd, 1) := by decide +kernel
theorem dX0_addTask_54 : decode cX0_addTask 54 = .ok (.putfield 43, 3) := by decide +kernel
theorem dX0_addTask_57 : decode cX0_addTask 57 = .ok (.aload 4, 2) := by decide +kernel
theorem dX0_addTask_59 : decode cX0_addTask 59 = .ok (.getfield 108, 3) := by decide +kernel
theorem dX0_addTask_62 : decode cX0_addTask 62 = .ok (.ireturn, 1) := by decide +kernel
theorem dX0_leastVirtual_0 : decode cX0_leastVirtual 0 = .ok (.iconst 0, 1) := by decide +kernel
theorem dX0_leastVirtual_1 : decode cX0_leastVirtual 1 = .ok (.istore_n 1, 1) := by decide +kernel
theorem dX0_leastVirtual_2 : decode cX0_leastVirtual 2 = .ok (.lconst 0, 1) := by decide +kernel
theorem dX0_leastVirtual_3 : decode cX0_leastVirtual 3 = .ok (.lstore_n 2, 1) := by decide +kernel
theorem dX0_leastVirtual_4 : decode cX0_leastVirtual 4 = .ok (.iconst 0, 1) := by decide +kernel
theorem dX0_leastVirtual_5 : decode cX0_leastVirtual 5 = .ok (.istore 4, 2) := by decide +kernel
theorem dX0_leastVirtual_7 : decode cX0_leastVirtual 7 = .ok (.iload 4, 2) := by decide +kernel
theorem dX0_leastVirtual_9 : decode cX0_leastVirtual 9 = .ok (.aload_n 0, 1) := by decide +kernel
theorem dX0_leastVirtual_10 : decode cX0_leastVirtual 10 = .ok (.getfield 43, 3) := by decide +kernel
theorem dX0_leastVirtual_13 : decode cX0_leastVirtual 13 = .ok (.if_icmp .ge 49, 3) := by decide +kernel
theorem dX0_leastVirtual_16 : decode cX0_leastVirtual 16 = .ok (.aload_n 0, 1) := by decide +kernel
theorem dX0_leastVirtual_17 : decode cX0_leastVirtual 17 = .ok (.getfield 11, 3) := by decide +kernel
theorem dX0_leastVirtual_20 : decode cX0_leastVirtual 20 = .ok (.iload 4, 2) := by decide +kernel
theorem dX0_leastVirtual_22 : decode cX0_leastVirtual 22 = .ok (.aaload, 1) := by decide +kernel
theorem dX0_leastVirtual_23 : decode cX0_leastVirtual 23 = .ok (.astore 5, 2) := by decide +kernel
theorem dX0_leastVirtual_25 : decode cX0_leastVirtual 25 = .ok (.aload 5, 2) := by decide +kernel
theorem dX0_leastVirtual_27 : decode cX0_leastVirtual 27 = .ok (.getfield 93, 3) := by decide +kernel
theorem dX0_leastVirtual_30 : decode cX0_leastVirtual 30 = .ok (.iconst 4, 1) := by decide +kernel
theorem dX0_leastVirtual_31 : decode cX0_leastVirtual 31 = .ok (.if_icmp .eq 25, 3) := by decide +kernel
theorem dX0_leastVirtual_34 : decode cX0_leastVirtual 34 = .ok (.iload_n 1, 1) := by decide +kernel
theorem dX0_leastVirtual_35 : decode cX0_leastVirtual 35 = .ok (.ifCond .eq 13, 3) := by decide +kernel
theorem dX0_leastVirtual_38 : decode cX0_leastVirtual 38 = .ok (.aload 5, 2) := by decide +kernel
theorem dX0_leastVirtual_40 : decode cX0_leastVirtual 40 = .ok (.getfield 111, 3) := by decide +kernel
theorem dX0_leastVirtual_43 : decode cX0_leastVirtual 43 = .ok (.lload_n 2, 1) := by decide +kernel
theorem dX0_leastVirtual_44 : decode cX0_leastVirtual 44 = .ok (.lcmp, 1) := by decide +kernel
theorem dX0_leastVirtual_45 : decode cX0_leastVirtual 45 = .ok (.ifCond .ge 11, 3) := by decide +kernel
theorem dX0_leastVirtual_48 : decode cX0_leastVirtual 48 = .ok (.iconst 1, 1) := by decide +kernel
theorem dX0_leastVirtual_49 : decode cX0_leastVirtual 49 = .ok (.istore_n 1, 1) := by decide +kernel
theorem dX0_leastVirtual_50 : decode cX0_leastVirtual 50 = .ok (.aload 5, 2) := by decide +kernel
theorem dX0_leastVirtual_52 : decode cX0_leastVirtual 52 = .ok (.getfield 111, 3) := by decide +kernel
theorem dX0_leastVirtual_55 : decode cX0_leastVirtual 55 = .ok (.lstore_n 2, 1) := by decide +kernel
theorem dX0_leastVirtual_56 : decode cX0_leastVirtual 56 = .ok (.iinc 4 1, 3) := by decide +kernel
theorem dX0_leastVirtual_59 : decode cX0_leastVirtual 59 = .ok (.goto (-52), 3) := by decide +kernel
theorem dX0_leastVirtual_62 : decode cX0_leastVirtual 62 = .ok (.lload_n 2, 1) := by decide +kernel
theorem dX0_leastVirtual_63 : decode cX0_leastVirtual 63 = .ok (.lreturn, 1) := by decide +kernel
theorem dX0_changeProcessors_0 : decode cX0_changeProcessors 0 = .ok (.aload_n 0, 1) := by decide +kernel
theorem dX0_changeProcessors_1 : decode cX0_changeProcessors 1 = .ok (.getfield 50, 3) := by decide +kernel
theorem dX0_changeProcessors_4 : decode cX0_changeProcessors 4 = .ok (.istore_n 2, 1) := by decide +kernel
theorem dX0_changeProcessors_5 : decode cX0_changeProcessors 5 = .ok (.aload_n 0, 1) := by decide +kernel
theorem dX0_changeProcessors_6 : decode cX0_changeProcessors 6 = .ok (.iload_n 1, 1) := by decide +kernel
theorem dX0_changeProcessors_7 : decode cX0_changeProcessors 7 = .ok (.putfield 50, 3) := by decide +kernel
theorem dX0_changeProcessors_10 : decode cX0_changeProcessors 10 = .ok (.iload_n 2, 1) := by decide +kernel
theorem dX0_changeProcessors_11 : decode cX0_changeProcessors 11 = .ok (.ireturn, 1) := by decide +kernel
theorem dX0_addLock_0 : decode cX0_addLock 0 = .ok (.iload_n 1, 1) := by decide +kernel
theorem dX0_addLock_1 : decode cX0_addLock 1 = .ok (.ifCond .lt 16, 3) := by decide +kernel
theorem dX0_addLock_4 : decode cX0_addLock 4 = .ok (.iload_n 1, 1) := by decide +kernel
theorem dX0_addLock_5 : decode cX0_addLock 5 = .ok (.bipush 100, 2) := by decide +kernel
theorem dX0_addLock_7 : decode cX0_addLock 7 = .ok (.if_icmp .ge 10, 3) := by decide +kernel
theorem dX0_addLock_10 : decode cX0_addLock 10 = .ok (.aload_n 0, 1) := by decide +kernel
theorem dX0_addLock_11 : decode cX0_addLock 11 = .ok (.getfield 30, 3) := by decide +kernel
theorem dX0_addLock_14 : decode cX0_addLock 14 = .ok (.iload_n 1, 1) := by decide +kernel
theorem dX0_addLock_15 : decode cX0_addLock 15 = .ok (.iconst (-1), 1) := by decide +kernel
theorem dX0_addLock_16 : decode cX0_addLock 16 = .ok (.iastore, 1) := by decide +kernel
theorem dX0_addLock_17 : decode cX0_addLock 17 = .ok (.return_, 1) := by decide +kernel
theorem dX0_ringBell_0 : decode cX0_ringBell 0 = .ok (.iconst 0, 1) := by decide +kernel
theorem dX0_ringBell_1 : decode cX0_ringBell 1 = .ok (.istore_n 2, 1) := by decide +kernel
theorem dX0_ringBell_2 : decode cX0_ringBell 2 = .ok (.iconst 0, 1) := by decide +kernel
theorem dX0_ringBell_3 : decode cX0_ringBell 3 = .ok (.istore_n 3, 1) := by decide +kernel
theorem dX0_ringBell_4 : decode cX0_ringBell 4 = .ok (.iload_n 3, 1) := by decide +kernel
theorem dX0_ringBell_5 : decode cX0_ringBell 5 = .ok (.aload_n 0, 1) := by decide +kernel
theorem dX0_ringBell_6 : decode cX0_ringBell 6 = .ok (.getfield 43, 3) := by decide +kernel
theorem dX0_ringBell_9 : decode cX0_ringBell 9 = .ok (.if_icmp .ge 43, 3) := by decide +kernel
theorem dX0_ringBell_12 : decode cX0_ringBell 12 = .ok (.aload_n 0, 1) := by decide +kernel
theorem dX0_ringBell_13 : decode cX0_ringBell 13 = .ok (.getfield 11, 3) := by decide +kernel
theorem dX0_ringBell_16 : decode cX0_ringBell 16 = .ok (.iload_n 3, 1) := by decide +kernel
theorem dX0_ringBell_17 : decode cX0_ringBell 17 = .ok (.aaload, 1) := by decide +kernel
theorem dX0_ringBell_18 : decode cX0_ringBell 18 = .ok (.astore 4, 2) := by decide +kernel
theorem dX0_ringBell_20 : decode cX0_ringBell 20 = .ok (.aload 4, 2) := by decide +kernel
theorem dX0_ringBell_22 : decode cX0_ringBell 22 = .ok (.getfield 93, 3) := by decide +kernel
theorem dX0_ringBell_25 : decode cX0_ringBell 25 = .ok (.iconst 2, 1) := by decide +kernel
theorem dX0_ringBell_26 : decode cX0_ringBell 26 = .ok (.if_icmp .ne 20, 3) := by decide +kernel
theorem dX0_ringBell_29 : decode cX0_ringBell 29 = .ok (.aload 4, 2) := by decide +kernel
theorem dX0_ringBell_31 : decode cX0_ringBell 31 = .ok (.getfield 115, 3) := by decide +kernel
theorem dX0_ringBell_34 : decode cX0_ringBell 34 = .ok (.iload_n 1, 1) := by decide +kernel
theorem dX0_ringBell_35 : decode cX0_ringBell 35 = .ok (.if_icmp .ne 11, 3) := by decide +kernel
theorem dX0_ringBell_38 : decode cX0_ringBell 38 = .ok (.aload 4, 2) := by decide +kernel
theorem dX0_ringBell_40 : decode cX0_ringBell 40 = .ok (.invokevirtual 118, 3) := by decide +kernel
theorem dX0_ringBell_43 : decode cX0_ringBell 43 = .ok (.iinc 2 1, 3) := by decide +kernel
theorem dX0_ringBell_46 : decode cX0_ringBell 46 = .ok (.iinc 3 1, 3) := by decide +kernel
theorem dX0_ringBell_49 : decode cX0_ringBell 49 = .ok (.goto (-45), 3) := by decide +kernel
theorem dX0_ringBell_52 : decode cX0_ringBell 52 = .ok (.iload_n 2, 1) := by decide +kernel
theorem dX0_ringBell_53 : decode cX0_ringBell 53 = .ok (.ireturn, 1) := by decide +kernel
theorem dX0_goOn_0 : decode cX0_goOn 0 = .ok (.iconst 0, 1) := by decide +kernel
theorem dX0_goOn_1 : decode cX0_goOn 1 = .ok (.istore_n 2, 1) := by decide +kernel
theorem dX0_goOn_2 : decode cX0_goOn 2 = .ok (.iconst 0, 1) := by decide +kernel
theorem dX0_goOn_3 : decode cX0_goOn 3 = .ok (.istore_n 3, 1) := by decide +kernel
theorem dX0_goOn_4 : decode cX0_goOn 4 = .ok (.iload_n 3, 1) := by decide +kernel
theorem dX0_goOn_5 : decode cX0_goOn 5 = .ok (.iload_n 1, 1) := by decide +kernel
theorem dX0_goOn_6 : decode cX0_goOn 6 = .ok (.if_icmp .ge 116, 3) := by decide +kernel
theorem dX0_goOn_9 : decode cX0_goOn 9 = .ok (.iload_n 2, 1) := by decide +kernel
theorem dX0_goOn_10 : decode cX0_goOn 10 = .ok (.iload_n 1, 1) := by decide +kernel
theorem dX0_goOn_11 : decode cX0_goOn 11 = .ok (.if_icmp .ge 111, 3) := by decide +kernel
theorem dX0_goOn_14 : decode cX0_goOn 14 = .ok (.aload_n 0, 1) := by decide +kernel
theorem dX0_goOn_15 : decode cX0_goOn 15 = .ok (.getfield 26, 3) := by decide +kernel
theorem dX0_goOn_18 : decode cX0_goOn 18 = .ok (.invokevirtual 121, 3) := by decide +kernel
theorem dX0_goOn_21 : decode cX0_goOn 21 = .ok (.ifCond .eq 101, 3) := by decide +kernel
theorem dX0_goOn_24 : decode cX0_goOn 24 = .ok (.aload_n 0, 1) := by decide +kernel
theorem dX0_goOn_25 : decode cX0_goOn 25 = .ok (.iload_n 1, 1) := by decide +kernel
theorem dX0_goOn_26 : decode cX0_goOn 26 = .ok (.iload_n 2, 1) := by decide +kernel
theorem dX0_goOn_27 : decode cX0_goOn 27 = .ok (.isub, 1) := by decide +kernel
theorem dX0_goOn_28 : decode cX0_goOn 28 = .ok (.invokevirtual 125, 3) := by decide +kernel
theorem dX0_goOn_31 : decode cX0_goOn 31 = .ok (.istore 4, 2) := by decide +kernel
theorem dX0_goOn_33 : decode cX0_goOn 33 = .ok (.iload 4, 2) := by decide +kernel
theorem dX0_goOn_35 : decode cX0_goOn 35 = .ok (.ifCond .le 30, 3) := by decide +kernel
theorem dX0_goOn_38 : decode cX0_goOn 38 = .ok (.aload_n 0, 1) := by decide +kernel
theorem dX0_goOn_39 : decode cX0_goOn 39 = .ok (.getfield 34, 3) := by decide +kernel
theorem dX0_goOn_42 : decode cX0_goOn 42 = .ok (.iconst (-1), 1) := by decide +kernel
theorem dX0_goOn_43 : decode cX0_goOn 43 = .ok (.invokestatic 63, 3) := by decide +kernel
theorem dX0_goOn_46 : decode cX0_goOn 46 = .ok (.aload_n 0, 1) := by decide +kernel
theorem dX0_goOn_47 : decode cX0_goOn 47 = .ok (.dup, 1) := by decide +kernel
theorem dX0_goOn_48 : decode cX0_goOn 48 = .ok (.getfield 47, 3) := by decide +kernel
theorem dX0_goOn_51 : decode cX0_goOn 51 = .ok (.iload 4, 2) := by decide +kernel
theorem dX0_goOn_53 : decode cX0_goOn 53 = .ok (.iadd, 1) := by decide +kernel
theorem dX0_goOn_54 : decode cX0_goOn 54 = .ok (.putfield 47, 3) := by decide +kernel
theorem dX0_goOn_57 : decode cX0_goOn 57 = .ok (.iload_n 2, 1) := by decide +kernel
theorem dX0_goOn_58 : decode cX0_goOn 58 = .ok (.iload 4, 2) := by decide +kernel
theorem dX0_goOn_60 : decode cX0_goOn 60 = .ok (.iadd, 1) := by decide +kernel
theorem dX0_goOn_61 : decode cX0_goOn 61 = .ok (.istore_n 2, 1) := by decide +kernel
theorem dX0_goOn_62 : decode cX0_goOn 62 = .ok (.goto 54, 3) := by decide +kernel
theorem dX0_goOn_65 : decode cX0_goOn 65 = .ok (.aload_n 0, 1) := by decide +kernel
theorem dX0_goOn_66 : decode cX0_goOn 66 = .ok (.invokevirtual 129, 3) := by decide +kernel
theorem dX0_goOn_69 : decode cX0_goOn 69 = .ok (.aload_n 0, 1) := by decide +kernel
theorem dX0_goOn_70 : decode cX0_goOn 70 = .ok (.invokevirtual 132, 3) := by decide +kernel
theorem dX0_goOn_73 : decode cX0_goOn 73 = .ok (.iconst 0, 1) := by decide +kernel
theorem dX0_goOn_74 : decode cX0_goOn 74 = .ok (.istore 5, 2) := by decide +kernel
theorem dX0_goOn_76 : decode cX0_goOn 76 = .ok (.iload 5, 2) := by decide +kernel
theorem dX0_goOn_78 : decode cX0_goOn 78 = .ok (.iconst 4, 1) := by decide +kernel
theorem dX0_goOn_79 : decode cX0_goOn 79 = .ok (.if_icmp .ge 24, 3) := by decide +kernel
theorem dX0_goOn_82 : decode cX0_goOn 82 = .ok (.aload_n 0, 1) := by decide +kernel
theorem dX0_goOn_83 : decode cX0_goOn 83 = .ok (.aload_n 0, 1) := by decide +kernel
theorem dX0_goOn_84 : decode cX0_goOn 84 = .ok (.aload_n 0, 1) := by decide +kernel
theorem dX0_goOn_85 : decode cX0_goOn 85 = .ok (.getfield 34, 3) := by decide +kernel
theorem dX0_goOn_88 : decode cX0_goOn 88 = .ok (.iload 5, 2) := by decide +kernel
theorem dX0_goOn_90 : decode cX0_goOn 90 = .ok (.iaload, 1) := by decide +kernel
theorem dX0_goOn_91 : decode cX0_goOn 91 = .ok (.invokevirtual 89, 3) := by decide +kernel
theorem dX0_goOn_94 : decode cX0_goOn 94 = .ok (.invokevirtual 135, 3) := by decide +kernel
theorem dX0_goOn_97 : decode cX0_goOn 97 = .ok (.iinc 5 1, 3) := by decide +kernel
theorem dX0_goOn_100 : decode cX0_goOn 100 = .ok (.goto (-24), 3) := by decide +kernel
theorem dX0_goOn_103 : decode cX0_goOn 103 = .ok (.aload_n 0, 1) := by decide +kernel
theorem dX0_goOn_104 : decode cX0_goOn 104 = .ok (.dup, 1) := by decide +kernel
theorem dX0_goOn_105 : decode cX0_goOn 105 = .ok (.getfield 47, 3) := by decide +kernel
theorem dX0_goOn_108 : decode cX0_goOn 108 = .ok (.iconst 1, 1) := by decide +kernel
theorem dX0_goOn_109 : decode cX0_goOn 109 = .ok (.iadd, 1) := by decide +kernel
theorem dX0_goOn_110 : decode cX0_goOn 110 = .ok (.putfield 47, 3) := by decide +kernel
theorem dX0_goOn_113 : decode cX0_goOn 113 = .ok (.iinc 2 1, 3) := by decide +kernel
theorem dX0_goOn_116 : decode cX0_goOn 116 = .ok (.iinc 3 1, 3) := by decide +kernel
theorem dX0_goOn_119 : decode cX0_goOn 119 = .ok (.goto (-115), 3) := by decide +kernel
theorem dX0_goOn_122 : decode cX0_goOn 122 = .ok (.iload_n 2, 1) := by decide +kernel
theorem dX0_goOn_123 : decode cX0_goOn 123 = .ok (.ireturn, 1) := by decide +kernel
theorem dX0_quietTicks_0 : decode cX0_quietTicks 0 = .ok (.aload_n 0, 1) := by decide +kernel
theorem dX0_quietTicks_1 : decode cX0_quietTicks 1 = .ok (.getfield 47, 3) := by decide +kernel
theorem dX0_quietTicks_4 : decode cX0_quietTicks 4 = .ok (.iload_n 1, 1) := by decide +kernel
theorem dX0_quietTicks_5 : decode cX0_quietTicks 5 = .ok (.iadd, 1) := by decide +kernel
theorem dX0_quietTicks_6 : decode cX0_quietTicks 6 = .ok (.istore_n 2, 1) := by decide +kernel
theorem dX0_quietTicks_7 : decode cX0_quietTicks 7 = .ok (.iconst 0, 1) := by decide +kernel
theorem dX0_quietTicks_8 : decode cX0_quietTicks 8 = .ok (.istore_n 3, 1) := by decide +kernel
theorem dX0_quietTicks_9 : decode cX0_quietTicks 9 = .ok (.iload_n 3, 1) := by decide +kernel
theorem dX0_quietTicks_10 : decode cX0_quietTicks 10 = .ok (.aload_n 0, 1) := by decide +kernel
theorem dX0_quietTicks_11 : decode cX0_quietTicks 11 = .ok (.getfield 43, 3) := by decide +kernel
theorem dX0_quietTicks_14 : decode cX0_quietTicks 14 = .ok (.if_icmp .ge 73, 3) := by decide +kernel
theorem dX0_quietTicks_17 : decode cX0_quietTicks 17 = .ok (.aload_n 0, 1) := by decide +kernel
theorem dX0_quietTicks_18 : decode cX0_quietTicks 18 = .ok (.getfield 11, 3) := by decide +kernel
theorem dX0_quietTicks_21 : decode cX0_quietTicks 21 = .ok (.iload_n 3, 1) := by decide +kernel
theorem dX0_quietTicks_22 : decode cX0_quietTicks 22 = .ok (.aaload, 1) := by decide +kernel
theorem dX0_quietTicks_23 : decode cX0_quietTicks 23 = .ok (.astore 4, 2) := by decide +kernel
theorem dX0_quietTicks_25 : decode cX0_quietTicks 25 = .ok (.aload 4, 2) := by decide +kernel
theorem dX0_quietTicks_27 : decode cX0_quietTicks 27 = .ok (.getfield 93, 3) := by decide +kernel
theorem dX0_quietTicks_30 : decode cX0_quietTicks 30 = .ok (.ifCond .ne 5, 3) := by decide +kernel
theorem dX0_quietTicks_33 : decode cX0_quietTicks 33 = .ok (.iconst 0, 1) := by decide +kernel
theorem dX0_quietTicks_34 : decode cX0_quietTicks 34 = .ok (.ireturn, 1) := by decide +kernel
theorem dX0_quietTicks_35 : decode cX0_quietTicks 35 = .ok (.aload 4, 2) := by decide +kernel
theorem dX0_quietTicks_37 : decode cX0_quietTicks 37 = .ok (.getfield 93, 3) := by decide +kernel
theorem dX0_quietTicks_40 : decode cX0_quietTicks 40 = .ok (.iconst 3, 1) := by decide +kernel
theorem dX0_quietTicks_41 : decode cX0_quietTicks 41 = .ok (.if_icmp .ne 13, 3) := by decide +kernel
theorem dX0_quietTicks_44 : decode cX0_quietTicks 44 = .ok (.iload_n 2, 1) := by decide +kernel
theorem dX0_quietTicks_45 : decode cX0_quietTicks 45 = .ok (.aload 4, 2) := by decide +kernel
theorem dX0_quietTicks_47 : decode cX0_quietTicks 47 = .ok (.getfield 138, 3) := by decide +kernel
theorem dX0_quietTicks_50 : decode cX0_quietTicks 50 = .ok (.invokestatic 141, 3) := by decide +kernel
theorem dX0_quietTicks_53 : decode cX0_quietTicks 53 = .ok (.istore_n 2, 1) := by decide +kernel
theorem dX0_quietTicks_54 : decode cX0_quietTicks 54 = .ok (.aload 4, 2) := by decide +kernel
theorem dX0_quietTicks_56 : decode cX0_quietTicks 56 = .ok (.getfield 93, 3) := by decide +kernel
theorem dX0_quietTicks_59 : decode cX0_quietTicks 59 = .ok (.iconst 4, 1) := by decide +kernel
theorem dX0_quietTicks_60 : decode cX0_quietTicks 60 = .ok (.if_icmp .eq 21, 3) := by decide +kernel
theorem dX0_quietTicks_63 : decode cX0_quietTicks 63 = .ok (.aload 4, 2) := by decide +kernel
theorem dX0_quietTicks_65 : decode cX0_quietTicks 65 = .ok (.invokevirtual 147, 3) := by decide +kernel
theorem dX0_quietTicks_68 : decode cX0_quietTicks 68 = .ok (.ifCond .eq 13, 3) := by decide +kernel
theorem dX0_quietTicks_71 : decode cX0_quietTicks 71 = .ok (.iload_n 2, 1) := by decide +kernel
theorem dX0_quietTicks_72 : decode cX0_quietTicks 72 = .ok (.aload 4, 2) := by decide +kernel
theorem dX0_quietTicks_74 : decode cX0_quietTicks 74 = .ok (.getfield 150, 3) := by decide +kernel
theorem dX0_quietTicks_77 : decode cX0_quietTicks 77 = .ok (.invokestatic 141, 3) := by decide +kernel
theorem dX0_quietTicks_80 : decode cX0_quietTicks 80 = .ok (.istore_n 2, 1) := by decide +kernel
theorem dX0_quietTicks_81 : decode cX0_quietTicks 81 = .ok (.iinc 3 1, 3) := by decide +kernel
theorem dX0_quietTicks_84 : decode cX0_quietTicks 84 = .ok (.goto (-75), 3) := by decide +kernel
theorem dX0_quietTicks_87 : decode cX0_quietTicks 87 = .ok (.iload_n 2, 1) := by decide +kernel
theorem dX0_quietTicks_88 : decode cX0_quietTicks 88 = .ok (.aload_n 0, 1) := by decide +kernel
theorem dX0_quietTicks_89 : decode cX0_quietTicks 89 = .ok (.getfield 47, 3) := by decide +kernel
theorem dX0_quietTicks_92 : decode cX0_quietTicks 92 = .ok (.isub, 1) := by decide +kernel
theorem dX0_quietTicks_93 : decode cX0_quietTicks 93 = .ok (.ireturn, 1) := by decide +kernel
theorem dX0_wakeAndRefill_0 : decode cX0_wakeAndRefill 0 = .ok (.iconst 0, 1) := by decide +kernel
theorem dX0_wakeAndRefill_1 : decode cX0_wakeAndRefill 1 = .ok (.istore_n 1, 1) := by decide +kernel
theorem dX0_wakeAndRefill_2 : decode cX0_wakeAndRefill 2 = .ok (.iload_n 1, 1) := by decide +kernel
theorem dX0_wakeAndRefill_3 : decode cX0_wakeAndRefill 3 = .ok (.aload_n 0, 1) := by decide +kernel
theorem dX0_wakeAndRefill_4 : decode cX0_wakeAndRefill 4 = .ok (.getfield 43, 3) := by decide +kernel
theorem dX0_wakeAndRefill_7 : decode cX0_wakeAndRefill 7 = .ok (.if_icmp .ge 92, 3) := by decide +kernel
theorem dX0_wakeAndRefill_10 : decode cX0_wakeAndRefill 10 = .ok (.aload_n 0, 1) := by decide +kernel
theorem dX0_wakeAndRefill_11 : decode cX0_wakeAndRefill 11 = .ok (.getfield 11, 3) := by decide +kernel
theorem dX0_wakeAndRefill_14 : decode cX0_wakeAndRefill 14 = .ok (.iload_n 1, 1) := by decide +kernel
theorem dX0_wakeAndRefill_15 : decode cX0_wakeAndRefill 15 = .ok (.aaload, 1) := by decide +kernel
theorem dX0_wakeAndRefill_16 : decode cX0_wakeAndRefill 16 = .ok (.astore_n 2, 1) := by decide +kernel
theorem dX0_wakeAndRefill_17 : decode cX0_wakeAndRefill 17 = .ok (.aload_n 2, 1) := by decide +kernel
theorem dX0_wakeAndRefill_18 : decode cX0_wakeAndRefill 18 = .ok (.getfield 93, 3) := by decide +kernel
theorem dX0_wakeAndRefill_21 : decode cX0_wakeAndRefill 21 = .ok (.iconst 3, 1) := by decide +kernel
theorem dX0_wakeAndRefill_22 : decode cX0_wakeAndRefill 22 = .ok (.if_icmp .ne 18, 3) := by decide +kernel
theorem dX0_wakeAndRefill_25 : decode cX0_wakeAndRefill 25 = .ok (.aload_n 2, 1) := by decide +kernel
theorem dX0_wakeAndRefill_26 : decode cX0_wakeAndRefill 26 = .ok (.getfield 138, 3) := by decide +kernel
theorem dX0_wakeAndRefill_29 : decode cX0_wakeAndRefill 29 = .ok (.aload_n 0, 1) := by decide +kernel
theorem dX0_wakeAndRefill_30 : decode cX0_wakeAndRefill 30 = .ok (.getfield 47, 3) := by decide +kernel
theorem dX0_wakeAndRefill_33 : decode cX0_wakeAndRefill 33 = .ok (.if_icmp .ne 7, 3) := by decide +kernel
theorem dX0_wakeAndRefill_36 : decode cX0_wakeAndRefill 36 = .ok (.aload_n 2, 1) := by decide +kernel
theorem dX0_wakeAndRefill_37 : decode cX0_wakeAndRefill 37 = .ok (.invokevirtual 118, 3) := by decide +kernel
theorem dX0_wakeAndRefill_40 : decode cX0_wakeAndRefill 40 = .ok (.aload_n 2, 1) := by decide +kernel
theorem dX0_wakeAndRefill_41 : decode cX0_wakeAndRefill 41 = .ok (.getfield 93, 3) := by decide +kernel
theorem dX0_wakeAndRefill_44 : decode cX0_wakeAndRefill 44 = .ok (.iconst 4, 1) := by decide +kernel
theorem dX0_wakeAndRefill_45 : decode cX0_wakeAndRefill 45 = .ok (.if_icmp .eq 48, 3) := by decide +kernel
theorem dX0_wakeAndRefill_48 : decode cX0_wakeAndRefill 48 = .ok (.aload_n 2, 1) := by decide +kernel
theorem dX0_wakeAndRefill_49 : decode cX0_wakeAndRefill 49 = .ok (.invokevirtual 147, 3) := by decide +kernel
theorem dX0_wakeAndRefill_52 : decode cX0_wakeAndRefill 52 = .ok (.ifCond .eq 41, 3) := by decide +kernel
theorem dX0_wakeAndRefill_55 : decode cX0_wakeAndRefill 55 = .ok (.aload_n 2, 1) := by decide +kernel
theorem dX0_wakeAndRefill_56 : decode cX0_wakeAndRefill 56 = .ok (.getfield 150, 3) := by decide +kernel
theorem dX0_wakeAndRefill_59 : decode cX0_wakeAndRefill 59 = .ok (.aload_n 0, 1) := by decide +kernel
theorem dX0_wakeAndRefill_60 : decode cX0_wakeAndRefill 60 = .ok (.getfield 47, 3) := by decide +kernel
theorem dX0_wakeAndRefill_63 : decode cX0_wakeAndRefill 63 = .ok (.if_icmp .ne 30, 3) := by decide +kernel
theorem dX0_wakeAndRefill_66 : decode cX0_wakeAndRefill 66 = .ok (.aload_n 2, 1) := by decide +kernel
theorem dX0_wakeAndRefill_67 : decode cX0_wakeAndRefill 67 = .ok (.aload_n 2, 1) := by decide +kernel
theorem dX0_wakeAndRefill_68 : decode cX0_wakeAndRefill 68 = .ok (.getfield 153, 3) := by decide +kernel
theorem dX0_wakeAndRefill_71 : decode cX0_wakeAndRefill 71 = .ok (.aload_n 2, 1) := by decide +kernel
theorem dX0_wakeAndRefill_72 : decode cX0_wakeAndRefill 72 = .ok (.getfield 156, 3) := by decide +kernel
theorem dX0_wakeAndRefill_75 : decode cX0_wakeAndRefill 75 = .ok (.aload_n 0, 1) := by decide +kernel
theorem dX0_wakeAndRefill_76 : decode cX0_wakeAndRefill 76 = .ok (.getfield 47, 3) := by decide +kernel
theorem dX0_wakeAndRefill_79 : decode cX0_wakeAndRefill 79 = .ok (.invokevirtual 104, 3) := by decide +kernel
theorem dX0_wakeAndRefill_82 : decode cX0_wakeAndRefill 82 = .ok (.aload_n 0, 1) := by decide +kernel
theorem dX0_wakeAndRefill_83 : decode cX0_wakeAndRefill 83 = .ok (.getfield 40, 3) := by decide +kernel
theorem dX0_wakeAndRefill_86 : decode cX0_wakeAndRefill 86 = .ok (.bipush 9, 2) := by decide +kernel
theorem dX0_wakeAndRefill_88 : decode cX0_wakeAndRefill 88 = .ok (.dup2, 1) := by decide +kernel
theorem dX0_wakeAndRefill_89 : decode cX0_wakeAndRefill 89 = .ok (.iaload, 1) := by decide +kernel
theorem dX0_wakeAndRefill_90 : decode cX0_wakeAndRefill 90 = .ok (.iconst 1, 1) := by decide +kernel
theorem dX0_wakeAndRefill_91 : decode cX0_wakeAndRefill 91 = .ok (.iadd, 1) := by decide +kernel
theorem dX0_wakeAndRefill_92 : decode cX0_wakeAndRefill 92 = .ok (.iastore, 1) := by decide +kernel
theorem dX0_wakeAndRefill_93 : decode cX0_wakeAndRefill 93 = .ok (.iinc 1 1, 3) := by decide +kernel
theorem dX0_wakeAndRefill_96 : decode cX0_wakeAndRefill 96 = .ok (.goto (-94), 3) := by decide +kernel
theorem dX0_wakeAndRefill_99 : decode cX0_wakeAndRefill 99 = .ok (.return_, 1) := by decide +kernel
theorem dX0_choose_0 : decode cX0_choose 0 = .ok (.aload_n 0, 1) := by decide +kernel
theorem dX0_choose_1 : decode cX0_choose 1 = .ok (.invokevirtual 159, 3) := by decide +kernel
theorem dX0_choose_4 : decode cX0_choose 4 = .ok (.aload_n 0, 1) := by decide +kernel
theorem dX0_choose_5 : decode cX0_choose 5 = .ok (.getfield 34, 3) := by decide +kernel
theorem dX0_choose_8 : decode cX0_choose 8 = .ok (.iconst (-1), 1) := by decide +kernel
theorem dX0_choose_9 : decode cX0_choose 9 = .ok (.invokestatic 63, 3) := by decide +kernel
theorem dX0_choose_12 : decode cX0_choose 12 = .ok (.ldc2_w 162, 3) := by decide +kernel
theorem dX0_choose_15 : decode cX0_choose 15 = .ok (.lstore_n 1, 1) := by decide +kernel
theorem dX0_choose_16 : decode cX0_choose 16 = .ok (.iconst 0, 1) := by decide +kernel
theorem dX0_choose_17 : decode cX0_choose 17 = .ok (.istore_n 3, 1) := by decide +kernel
theorem dX0_choose_18 : decode cX0_choose 18 = .ok (.iload_n 3, 1) := by decide +kernel
theorem dX0_choose_19 : decode cX0_choose 19 = .ok (.aload_n 0, 1) := by decide +kernel
theorem dX0_choose_20 : decode cX0_choose 20 = .ok (.getfield 50, 3) := by decide +kernel
theorem dX0_choose_23 : decode cX0_choose 23 = .ok (.if_icmp .ge 69, 3) := by decide +kernel
theorem dX0_choose_26 : decode cX0_choose 26 = .ok (.iload_n 3, 1) := by decide +kernel
theorem dX0_choose_27 : decode cX0_choose 27 = .ok (.iconst 4, 1) := by decide +kernel
theorem dX0_choose_28 : decode cX0_choose 28 = .ok (.if_icmp .ge 64, 3) := by decide +kernel
theorem dX0_choose_31 : decode cX0_choose 31 = .ok (.aload_n 0, 1) := by decide +kernel
theorem dX0_choose_32 : decode cX0_choose 32 = .ok (.lload_n 1, 1) := by decide +kernel
theorem dX0_choose_33 : decode cX0_choose 33 = .ok (.invokevirtual 164, 3) := by decide +kernel
theorem dX0_choose_36 : decode cX0_choose 36 = .ok (.astore 4, 2) := by decide +kernel
theorem dX0_choose_38 : decode cX0_choose 38 = .ok (.aload 4, 2) := by decide +kernel
theorem dX0_choose_40 : decode cX0_choose 40 = .ok (.ifnull 46, 3) := by decide +kernel
theorem dX0_choose_43 : decode cX0_choose 43 = .ok (.aload 4, 2) := by decide +kernel
theorem dX0_choose_45 : decode cX0_choose 45 = .ok (.getfield 168, 3) := by decide +kernel
theorem dX0_choose_48 : decode cX0_choose 48 = .ok (.lstore_n 1, 1) := by decide +kernel
theorem dX0_choose_49 : decode cX0_choose 49 = .ok (.aload_n 0, 1) := by decide +kernel
theorem dX0_choose_50 : decode cX0_choose 50 = .ok (.getfield 34, 3) := by decide +kernel
theorem dX0_choose_53 : decode cX0_choose 53 = .ok (.iload_n 3, 1) := by decide +kernel
theorem dX0_choose_54 : decode cX0_choose 54 = .ok (.aload 4, 2) := by decide +kernel
theorem dX0_choose_56 : decode cX0_choose 56 = .ok (.getfield 108, 3) := by decide +kernel
theorem dX0_choose_59 : decode cX0_choose 59 = .ok (.iastore, 1) := by decide +kernel
theorem dX0_choose_60 : decode cX0_choose 60 = .ok (.aload_n 0, 1) := by decide +kernel
theorem dX0_choose_61 : decode cX0_choose 61 = .ok (.getfield 26, 3) := by decide +kernel
theorem dX0_choose_64 : decode cX0_choose 64 = .ok (.aload_n 0, 1) := by decide +kernel
theorem dX0_choose_65 : decode cX0_choose 65 = .ok (.getfield 47, 3) := by decide +kernel
theorem dX0_choose_68 : decode cX0_choose 68 = .ok (.iload_n 3, 1) := by decide +kernel
theorem dX0_choose_69 : decode cX0_choose 69 = .ok (.aload 4, 2) := by decide +kernel
theorem dX0_choose_71 : decode cX0_choose 71 = .ok (.getfield 108, 3) := by decide +kernel
theorem dX0_choose_74 : decode cX0_choose 74 = .ok (.lload_n 1, 1) := by decide +kernel
theorem dX0_choose_75 : decode cX0_choose 75 = .ok (.invokestatic 171, 3) := by decide +kernel
theorem dX0_choose_78 : decode cX0_choose 78 = .ok (.lload_n 1, 1) := by decide +kernel
theorem dX0_choose_79 : decode cX0_choose 79 = .ok (.invokestatic 175, 3) := by decide +kernel
theorem dX0_choose_82 : decode cX0_choose 82 = .ok (.l2i, 1) := by decide +kernel
theorem dX0_choose_83 : decode cX0_choose 83 = .ok (.invokevirtual 179, 3) := by decide +kernel
theorem dX0_choose_86 : decode cX0_choose 86 = .ok (.iinc 3 1, 3) := by decide +kernel
theorem dX0_choose_89 : decode cX0_choose 89 = .ok (.goto (-71), 3) := by decide +kernel
theorem dX0_choose_92 : decode cX0_choose 92 = .ok (.return_, 1) := by decide +kernel
theorem dX0_foremostBehind_0 : decode cX0_foremostBehind 0 = .ok (.aconst_null, 1) := by decide +kernel
theorem dX0_foremostBehind_1 : decode cX0_foremostBehind 1 = .ok (.astore_n 3, 1) := by decide +kernel
theorem dX0_foremostBehind_2 : decode cX0_foremostBehind 2 = .ok (.iconst 0, 1) := by decide +kernel
theorem dX0_foremostBehind_3 : decode cX0_foremostBehind 3 = .ok (.istore 4, 2) := by decide +kernel
theorem dX0_foremostBehind_5 : decode cX0_foremostBehind 5 = .ok (.iload 4, 2) := by decide +kernel
theorem dX0_foremostBehind_7 : decode cX0_foremostBehind 7 = .ok (.aload_n 0, 1) := by decide +kernel
theorem dX0_foremostBehind_8 : decode cX0_foremostBehind 8 = .ok (.getfield 43, 3) := by decide +kernel
theorem dX0_foremostBehind_11 : decode cX0_foremostBehind 11 = .ok (.if_icmp .ge 56, 3) := by decide +kernel
theorem dX0_foremostBehind_14 : decode cX0_foremostBehind 14 = .ok (.aload_n 0, 1) := by decide +kernel
theorem dX0_foremostBehind_15 : decode cX0_foremostBehind 15 = .ok (.getfield 11, 3) := by decide +kernel
theorem dX0_foremostBehind_18 : decode cX0_foremostBehind 18 = .ok (.iload 4, 2) := by decide +kernel
theorem dX0_foremostBehind_20 : decode cX0_foremostBehind 20 = .ok (.aaload, 1) := by decide +kernel
theorem dX0_foremostBehind_21 : decode cX0_foremostBehind 21 = .ok (.astore 5, 2) := by decide +kernel
theorem dX0_foremostBehind_23 : decode cX0_foremostBehind 23 = .ok (.aload 5, 2) := by decide +kernel
theorem dX0_foremostBehind_25 : decode cX0_foremostBehind 25 = .ok (.getfield 93, 3) := by decide +kernel
theorem dX0_foremostBehind_28 : decode cX0_foremostBehind 28 = .ok (.ifCond .ne 33, 3) := by decide +kernel
theorem dX0_foremostBehind_31 : decode cX0_foremostBehind 31 = .ok (.aload 5, 2) := by decide +kernel
theorem dX0_foremostBehind_33 : decode cX0_foremostBehind 33 = .ok (.getfield 168, 3) := by decide +kernel
theorem dX0_foremostBehind_36 : decode cX0_foremostBehind 36 = .ok (.lload_n 1, 1) := by decide +kernel
theorem dX0_foremostBehind_37 : decode cX0_foremostBehind 37 = .ok (.lcmp, 1) := by decide +kernel
theorem dX0_foremostBehind_38 : decode cX0_foremostBehind 38 = .ok (.ifCond .le 23, 3) := by decide +kernel
theorem dX0_foremostBehind_41 : decode cX0_foremostBehind 41 = .ok (.aload_n 3, 1) := by decide +kernel
theorem dX0_foremostBehind_42 : decode cX0_foremostBehind 42 = .ok (.ifnull 16, 3) := by decide +kernel
theorem dX0_foremostBehind_45 : decode cX0_foremostBehind 45 = .ok (.aload 5, 2) := by decide +kernel
theorem dX0_foremostBehind_47 : decode cX0_foremostBehind 47 = .ok (.getfield 168, 3) := by decide +kernel
theorem dX0_foremostBehind_50 : decode cX0_foremostBehind 50 = .ok (.aload_n 3, 1) := by decide +kernel
theorem dX0_foremostBehind_51 : decode cX0_foremostBehind 51 = .ok (.getfield 168, 3) := by decide +kernel
theorem dX0_foremostBehind_54 : decode cX0_foremostBehind 54 = .ok (.lcmp, 1) := by decide +kernel
theorem dX0_foremostBehind_55 : decode cX0_foremostBehind 55 = .ok (.ifCond .ge 6, 3) := by decide +kernel
theorem dX0_foremostBehind_58 : decode cX0_foremostBehind 58 = .ok (.aload 5, 2) := by decide +kernel
theorem dX0_foremostBehind_60 : decode cX0_foremostBehind 60 = .ok (.astore_n 3, 1) := by decide +kernel
theorem dX0_foremostBehind_61 : decode cX0_foremostBehind 61 = .ok (.iinc 4 1, 3) := by decide +kernel
theorem dX0_foremostBehind_64 : decode cX0_foremostBehind 64 = .ok (.goto (-59), 3) := by decide +kernel
theorem dX0_foremostBehind_67 : decode cX0_foremostBehind 67 = .ok (.aload_n 3, 1) := by decide +kernel
theorem dX0_foremostBehind_68 : decode cX0_foremostBehind 68 = .ok (.areturn, 1) := by decide +kernel
theorem dX0_settle_0 : decode cX0_settle 0 = .ok (.iconst 0, 1) := by decide +kernel
theorem dX0_settle_1 : decode cX0_settle 1 = .ok (.istore_n 1, 1) := by decide +kernel
theorem dX0_settle_2 : decode cX0_settle 2 = .ok (.iload_n 1, 1) := by decide +kernel
theorem dX0_settle_3 : decode cX0_settle 3 = .ok (.aload_n 0, 1) := by decide +kernel
theorem dX0_settle_4 : decode cX0_settle 4 = .ok (.getfield 43, 3) := by decide +kernel
theorem dX0_settle_7 : decode cX0_settle 7 = .ok (.if_icmp .ge 27, 3) := by decide +kernel
theorem dX0_settle_10 : decode cX0_settle 10 = .ok (.aload_n 0, 1) := by decide +kernel
theorem dX0_settle_11 : decode cX0_settle 11 = .ok (.getfield 11, 3) := by decide +kernel
theorem dX0_settle_14 : decode cX0_settle 14 = .ok (.iload_n 1, 1) := by decide +kernel
theorem dX0_settle_15 : decode cX0_settle 15 = .ok (.aaload, 1) := by decide +kernel
theorem dX0_settle_16 : decode cX0_settle 16 = .ok (.aload_n 0, 1) := by decide +kernel
theorem dX0_settle_17 : decode cX0_settle 17 = .ok (.getfield 11, 3) := by decide +kernel
theorem dX0_settle_20 : decode cX0_settle 20 = .ok (.iload_n 1, 1) := by decide +kernel
theorem dX0_settle_21 : decode cX0_settle 21 = .ok (.aaload, 1) := by decide +kernel
theorem dX0_settle_22 : decode cX0_settle 22 = .ok (.invokevirtual 183, 3) := by decide +kernel
theorem dX0_settle_25 : decode cX0_settle 25 = .ok (.putfield 168, 3) := by decide +kernel
theorem dX0_settle_28 : decode cX0_settle 28 = .ok (.iinc 1 1, 3) := by decide +kernel
theorem dX0_settle_31 : decode cX0_settle 31 = .ok (.goto (-29), 3) := by decide +kernel
theorem dX0_settle_34 : decode cX0_settle 34 = .ok (.iconst 0, 1) := by decide +kernel
theorem dX0_settle_35 : decode cX0_settle 35 = .ok (.istore_n 1, 1) := by decide +kernel
theorem dX0_settle_36 : decode cX0_settle 36 = .ok (.iload_n 1, 1) := by decide +kernel
theorem dX0_settle_37 : decode cX0_settle 37 = .ok (.aload_n 0, 1) := by decide +kernel
theorem dX0_settle_38 : decode cX0_settle 38 = .ok (.getfield 43, 3) := by decide +kernel
theorem dX0_settle_41 : decode cX0_settle 41 = .ok (.if_icmp .ge 77, 3) := by decide +kernel
theorem dX0_settle_44 : decode cX0_settle 44 = .ok (.aload_n 0, 1) := by decide +kernel
theorem dX0_settle_45 : decode cX0_settle 45 = .ok (.getfield 11, 3) := by decide +kernel
theorem dX0_settle_48 : decode cX0_settle 48 = .ok (.iload_n 1, 1) := by decide +kernel
theorem dX0_settle_49 : decode cX0_settle 49 = .ok (.aaload, 1) := by decide +kernel
theorem dX0_settle_50 : decode cX0_settle 50 = .ok (.getfield 168, 3) := by decide +kernel
theorem dX0_settle_53 : decode cX0_settle 53 = .ok (.lstore_n 2, 1) := by decide +kernel
theorem dX0_settle_54 : decode cX0_settle 54 = .ok (.aload_n 0, 1) := by decide +kernel
theorem dX0_settle_55 : decode cX0_settle 55 = .ok (.aload_n 0, 1) := by decide +kernel
theorem dX0_settle_56 : decode cX0_settle 56 = .ok (.getfield 11, 3) := by decide +kernel
theorem dX0_settle_59 : decode cX0_settle 59 = .ok (.iload_n 1, 1) := by decide +kernel
theorem dX0_settle_60 : decode cX0_settle 60 = .ok (.aaload, 1) := by decide +kernel
theorem dX0_settle_61 : decode cX0_settle 61 = .ok (.invokevirtual 186, 3) := by decide +kernel
theorem dX0_settle_64 : decode cX0_settle 64 = .ok (.astore 4, 2) := by decide +kernel
theorem dX0_settle_66 : decode cX0_settle 66 = .ok (.iconst 0, 1) := by decide +kernel
theorem dX0_settle_67 : decode cX0_settle 67 = .ok (.istore 5, 2) := by decide +kernel
theorem dX0_settle_69 : decode cX0_settle 69 = .ok (.iload 5, 2) := by decide +kernel
theorem dX0_settle_71 : decode cX0_settle 71 = .ok (.sipush 200, 3) := by decide +kernel
theorem dX0_settle_74 : decode cX0_settle 74 = .ok (.if_icmp .ge 38, 3) := by decide +kernel
theorem dX0_settle_77 : decode cX0_settle 77 = .ok (.aload 4, 2) := by decide +kernel
theorem dX0_settle_79 : decode cX0_settle 79 = .ok (.ifnull 33, 3) := by decide +kernel
theorem dX0_settle_82 : decode cX0_settle 82 = .ok (.aload 4, 2) := by decide +kernel
theorem dX0_settle_84 : decode cX0_settle 84 = .ok (.getfield 168, 3) := by decide +kernel
theorem dX0_settle_87 : decode cX0_settle 87 = .ok (.lload_n 2, 1) := by decide +kernel
theorem dX0_settle_88 : decode cX0_settle 88 = .ok (.lcmp, 1) := by decide +kernel
theorem dX0_settle_89 : decode cX0_settle 89 = .ok (.ifCond .le 23, 3) := by decide +kernel
theorem dX0_settle_92 : decode cX0_settle 92 = .ok (.aload 4, 2) := by decide +kernel
theorem dX0_settle_94 : decode cX0_settle 94 = .ok (.lload_n 2, 1) := by decide +kernel
theorem dX0_settle_95 : decode cX0_settle 95 = .ok (.putfield 168, 3) := by decide +kernel
theorem dX0_settle_98 : decode cX0_settle 98 = .ok (.aload_n 0, 1) := by decide +kernel
theorem dX0_settle_99 : decode cX0_settle 99 = .ok (.aload 4, 2) := by decide +kernel
theorem dX0_settle_101 : decode cX0_settle 101 = .ok (.invokevirtual 186, 3) := by decide +kernel
theorem dX0_settle_104 : decode cX0_settle 104 = .ok (.astore 4, 2) := by decide +kernel
theorem dX0_settle_106 : decode cX0_settle 106 = .ok (.iinc 5 1, 3) := by decide +kernel
theorem dX0_settle_109 : decode cX0_settle 109 = .ok (.goto (-40), 3) := by decide +kernel
theorem dX0_settle_112 : decode cX0_settle 112 = .ok (.iinc 1 1, 3) := by decide +kernel
theorem dX0_settle_115 : decode cX0_settle 115 = .ok (.goto (-79), 3) := by decide +kernel
theorem dX0_settle_118 : decode cX0_settle 118 = .ok (.return_, 1) := by decide +kernel
theorem dX0_blockerOf_0 : decode cX0_blockerOf 0 = .ok (.aload_n 1, 1) := by decide +kernel
theorem dX0_blockerOf_1 : decode cX0_blockerOf 1 = .ok (.getfield 93, 3) := by decide +kernel
theorem dX0_blockerOf_4 : decode cX0_blockerOf 4 = .ok (.iconst 1, 1) := by decide +kernel
theorem dX0_blockerOf_5 : decode cX0_blockerOf 5 = .ok (.if_icmp .ne 10, 3) := by decide +kernel
theorem dX0_blockerOf_8 : decode cX0_blockerOf 8 = .ok (.aload_n 1, 1) := by decide +kernel
theorem dX0_blockerOf_9 : decode cX0_blockerOf 9 = .ok (.getfield 115, 3) := by decide +kernel
theorem dX0_blockerOf_12 : decode cX0_blockerOf 12 = .ok (.goto 4, 3) := by decide +kernel
theorem dX0_blockerOf_15 : decode cX0_blockerOf 15 = .ok (.iconst (-1), 1) := by decide +kernel
theorem dX0_blockerOf_16 : decode cX0_blockerOf 16 = .ok (.istore_n 2, 1) := by decide +kernel
theorem dX0_blockerOf_17 : decode cX0_blockerOf 17 = .ok (.iload_n 2, 1) := by decide +kernel
theorem dX0_blockerOf_18 : decode cX0_blockerOf 18 = .ok (.ifCond .lt 18, 3) := by decide +kernel
theorem dX0_blockerOf_21 : decode cX0_blockerOf 21 = .ok (.iload_n 2, 1) := by decide +kernel
theorem dX0_blockerOf_22 : decode cX0_blockerOf 22 = .ok (.bipush 100, 2) := by decide +kernel
theorem dX0_blockerOf_24 : decode cX0_blockerOf 24 = .ok (.if_icmp .ge 12, 3) := by decide +kernel
theorem dX0_blockerOf_27 : decode cX0_blockerOf 27 = .ok (.aload_n 0, 1) := by decide +kernel
theorem dX0_blockerOf_28 : decode cX0_blockerOf 28 = .ok (.getfield 30, 3) := by decide +kernel
theorem dX0_blockerOf_31 : decode cX0_blockerOf 31 = .ok (.iload_n 2, 1) := by decide +kernel
theorem dX0_blockerOf_32 : decode cX0_blockerOf 32 = .ok (.iaload, 1) := by decide +kernel
theorem dX0_blockerOf_33 : decode cX0_blockerOf 33 = .ok (.goto 4, 3) := by decide +kernel
theorem dX0_blockerOf_36 : decode cX0_blockerOf 36 = .ok (.iconst (-1), 1) := by decide +kernel
theorem dX0_blockerOf_37 : decode cX0_blockerOf 37 = .ok (.istore_n 3, 1) := by decide +kernel
theorem dX0_blockerOf_38 : decode cX0_blockerOf 38 = .ok (.iload_n 3, 1) := by decide +kernel
theorem dX0_blockerOf_39 : decode cX0_blockerOf 39 = .ok (.ifCond .lt 20, 3) := by decide +kernel
theorem dX0_blockerOf_42 : decode cX0_blockerOf 42 = .ok (.iload_n 3, 1) := by decide +kernel
theorem dX0_blockerOf_43 : decode cX0_blockerOf 43 = .ok (.aload_n 0, 1) := by decide +kernel
theorem dX0_blockerOf_44 : decode cX0_blockerOf 44 = .ok (.getfield 43, 3) := by decide +kernel
theorem dX0_blockerOf_47 : decode cX0_blockerOf 47 = .ok (.if_icmp .ge 12, 3) := by decide +kernel
theorem dX0_blockerOf_50 : decode cX0_blockerOf 50 = .ok (.aload_n 0, 1) := by decide +kernel
theorem dX0_blockerOf_51 : decode cX0_blockerOf 51 = .ok (.getfield 11, 3) := by decide +kernel
theorem dX0_blockerOf_54 : decode cX0_blockerOf 54 = .ok (.iload_n 3, 1) := by decide +kernel
theorem dX0_blockerOf_55 : decode cX0_blockerOf 55 = .ok (.aaload, 1) := by decide +kernel
theorem dX0_blockerOf_56 : decode cX0_blockerOf 56 = .ok (.goto 4, 3) := by decide +kernel
theorem dX0_blockerOf_59 : decode cX0_blockerOf 59 = .ok (.aconst_null, 1) := by decide +kernel
theorem dX0_blockerOf_60 : decode cX0_blockerOf 60 = .ok (.areturn, 1) := by decide +kernel
theorem dX0_turn_0 : decode cX0_turn 0 = .ok (.aload_n 1, 1) := by decide +kernel
theorem dX0_turn_1 : decode cX0_turn 1 = .ok (.ifnonnull 4, 3) := by decide +kernel
theorem dX0_turn_4 : decode cX0_turn 4 = .ok (.return_, 1) := by decide +kernel
theorem dX0_turn_5 : decode cX0_turn 5 = .ok (.aload_n 0, 1) := by decide +kernel
theorem dX0_turn_6 : decode cX0_turn 6 = .ok (.aload_n 1, 1) := by decide +kernel
theorem dX0_turn_7 : decode cX0_turn 7 = .ok (.invokevirtual 190, 3) := by decide +kernel
theorem dX0_turn_10 : decode cX0_turn 10 = .ok (.iconst (-1), 1) := by decide +kernel
theorem dX0_turn_11 : decode cX0_turn 11 = .ok (.istore_n 2, 1) := by decide +kernel
theorem dX0_turn_12 : decode cX0_turn 12 = .ok (.iconst 0, 1) := by decide +kernel
theorem dX0_turn_13 : decode cX0_turn 13 = .ok (.istore_n 3, 1) := by decide +kernel
theorem dX0_turn_14 : decode cX0_turn 14 = .ok (.iload_n 3, 1) := by decide +kernel
theorem dX0_turn_15 : decode cX0_turn 15 = .ok (.sipush 1000, 3) := by decide +kernel
theorem dX0_turn_18 : decode cX0_turn 18 = .ok (.if_icmp .gt 20, 3) := by decide +kernel
theorem dX0_turn_21 : decode cX0_turn 21 = .ok (.iload_n 2, 1) := by decide +kernel
theorem dX0_turn_22 : decode cX0_turn 22 = .ok (.iconst (-1), 1) := by decide +kernel
theorem dX0_turn_23 : decode cX0_turn 23 = .ok (.if_icmp .ne 15, 3) := by decide +kernel
theorem dX0_turn_26 : decode cX0_turn 26 = .ok (.aload_n 0, 1) := by decide +kernel
theorem dX0_turn_27 : decode cX0_turn 27 = .ok (.aload_n 1, 1) := by decide +kernel
theorem dX0_turn_28 : decode cX0_turn 28 = .ok (.invokevirtual 193, 3) := by decide +kernel
theorem dX0_turn_31 : decode cX0_turn 31 = .ok (.istore_n 2, 1) := by decide +kernel
theorem dX0_turn_32 : decode cX0_turn 32 = .ok (.iinc 3 1, 3) := by decide +kernel
theorem dX0_turn_35 : decode cX0_turn 35 = .ok (.goto (-21), 3) := by decide +kernel
theorem dX0_turn_38 : decode cX0_turn 38 = .ok (.iload_n 2, 1) := by decide +kernel
theorem dX0_turn_39 : decode cX0_turn 39 = .ok (.ifCond .lt 9, 3) := by decide +kernel
theorem dX0_turn_42 : decode cX0_turn 42 = .ok (.aload_n 0, 1) := by decide +kernel
theorem dX0_turn_43 : decode cX0_turn 43 = .ok (.aload_n 1, 1) := by decide +kernel
theorem dX0_turn_44 : decode cX0_turn 44 = .ok (.iload_n 2, 1) := by decide +kernel
theorem dX0_turn_45 : decode cX0_turn 45 = .ok (.invokevirtual 197, 3) := by decide +kernel
theorem dX0_turn_48 : decode cX0_turn 48 = .ok (.return_, 1) := by decide +kernel
theorem dX0_pay_0 : decode cX0_pay 0 = .ok (.aload_n 0, 1) := by decide +kernel
theorem dX0_pay_1 : decode cX0_pay 1 = .ok (.getfield 40, 3) := by decide +kernel
theorem dX0_pay_4 : decode cX0_pay 4 = .ok (.aload_n 1, 1) := by decide +kernel
theorem dX0_pay_5 : decode cX0_pay 5 = .ok (.invokevirtual 147, 3) := by decide +kernel
theorem dX0_pay_8 : decode cX0_pay 8 = .ok (.ifCond .eq 8, 3) := by decide +kernel
theorem dX0_pay_11 : decode cX0_pay 11 = .ok (.bipush 7, 2) := by decide +kernel
theorem dX0_pay_13 : decode cX0_pay 13 = .ok (.goto 5, 3) := by decide +kernel
theorem dX0_pay_16 : decode cX0_pay 16 = .ok (.bipush 6, 2) := by decide +kernel
theorem dX0_pay_18 : decode cX0_pay 18 = .ok (.dup2, 1) := by decide +kernel
theorem dX0_pay_19 : decode cX0_pay 19 = .ok (.iaload, 1) := by decide +kernel
theorem dX0_pay_20 : decode cX0_pay 20 = .ok (.iconst 1, 1) := by decide +kernel
theorem dX0_pay_21 : decode cX0_pay 21 = .ok (.iadd, 1) := by decide +kernel
theorem dX0_pay_22 : decode cX0_pay 22 = .ok (.iastore, 1) := by decide +kernel
theorem dX0_pay_23 : decode cX0_pay 23 = .ok (.aload_n 1, 1) := by decide +kernel
theorem dX0_pay_24 : decode cX0_pay 24 = .ok (.getfield 201, 3) := by decide +kernel
theorem dX0_pay_27 : decode cX0_pay 27 = .ok (.ifCond .le 22, 3) := by decide +kernel
theorem dX0_pay_30 : decode cX0_pay 30 = .ok (.aload_n 1, 1) := by decide +kernel
theorem dX0_pay_31 : decode cX0_pay 31 = .ok (.dup, 1) := by decide +kernel
theorem dX0_pay_32 : decode cX0_pay 32 = .ok (.getfield 201, 3) := by decide +kernel
theorem dX0_pay_35 : decode cX0_pay 35 = .ok (.iconst 1, 1) := by decide +kernel
theorem dX0_pay_36 : decode cX0_pay 36 = .ok (.isub, 1) := by decide +kernel
theorem dX0_pay_37 : decode cX0_pay 37 = .ok (.putfield 201, 3) := by decide +kernel
theorem dX0_pay_40 : decode cX0_pay 40 = .ok (.aload_n 1, 1) := by decide +kernel
theorem dX0_pay_41 : decode cX0_pay 41 = .ok (.getfield 204, 3) := by decide +kernel
theorem dX0_pay_44 : decode cX0_pay 44 = .ok (.iconst 1, 1) := by decide +kernel
theorem dX0_pay_45 : decode cX0_pay 45 = .ok (.if_icmp .ne 4, 3) := by decide +kernel
theorem dX0_pay_48 : decode cX0_pay 48 = .ok (.return_, 1) := by decide +kernel
theorem dX0_pay_49 : decode cX0_pay 49 = .ok (.aload_n 1, 1) := by decide +kernel
theorem dX0_pay_50 : decode cX0_pay 50 = .ok (.getfield 204, 3) := by decide +kernel
theorem dX0_pay_53 : decode cX0_pay 53 = .ok (.iconst 2, 1) := by decide +kernel
theorem dX0_pay_54 : decode cX0_pay 54 = .ok (.if_icmp .ne 13, 3) := by decide +kernel
theorem dX0_pay_57 : decode cX0_pay 57 = .ok (.aload_n 0, 1) := by decide +kernel
theorem dX0_pay_58 : decode cX0_pay 58 = .ok (.getfield 40, 3) := by decide +kernel
theorem dX0_pay_61 : decode cX0_pay 61 = .ok (.iconst 1, 1) := by decide +kernel
theorem dX0_pay_62 : decode cX0_pay 62 = .ok (.dup2, 1) := by decide +kernel
theorem dX0_pay_63 : decode cX0_pay 63 = .ok (.iaload, 1) := by decide +kernel
theorem dX0_pay_64 : decode cX0_pay 64 = .ok (.iconst 1, 1) := by decide +kernel
theorem dX0_pay_65 : decode cX0_pay 65 = .ok (.iadd, 1) := by decide +kernel
theorem dX0_pay_66 : decode cX0_pay 66 = .ok (.iastore, 1) := by decide +kernel
theorem dX0_pay_67 : decode cX0_pay 67 = .ok (.aload_n 1, 1) := by decide +kernel
theorem dX0_pay_68 : decode cX0_pay 68 = .ok (.getfield 204, 3) := by decide +kernel
theorem dX0_pay_71 : decode cX0_pay 71 = .ok (.iconst 4, 1) := by decide +kernel
theorem dX0_pay_72 : decode cX0_pay 72 = .ok (.if_icmp .ne 27, 3) := by decide +kernel
theorem dX0_pay_75 : decode cX0_pay 75 = .ok (.aload_n 0, 1) := by decide +kernel
theorem dX0_pay_76 : decode cX0_pay 76 = .ok (.getfield 40, 3) := by decide +kernel
theorem dX0_pay_79 : decode cX0_pay 79 = .ok (.iconst 2, 1) := by decide +kernel
theorem dX0_pay_80 : decode cX0_pay 80 = .ok (.dup2, 1) := by decide +kernel
theorem dX0_pay_81 : decode cX0_pay 81 = .ok (.iaload, 1) := by decide +kernel
theorem dX0_pay_82 : decode cX0_pay 82 = .ok (.iconst 1, 1) := by decide +kernel
theorem dX0_pay_83 : decode cX0_pay 83 = .ok (.iadd, 1) := by decide +kernel
theorem dX0_pay_84 : decode cX0_pay 84 = .ok (.iastore, 1) := by decide +kernel
theorem dX0_pay_85 : decode cX0_pay 85 = .ok (.aload_n 0, 1) := by decide +kernel
theorem dX0_pay_86 : decode cX0_pay 86 = .ok (.getfield 40, 3) := by decide +kernel
theorem dX0_pay_89 : decode cX0_pay 89 = .ok (.iconst 0, 1) := by decide +kernel
theorem dX0_pay_90 : decode cX0_pay 90 = .ok (.dup2, 1) := by decide +kernel
theorem dX0_pay_91 : decode cX0_pay 91 = .ok (.iaload, 1) := by decide +kernel
theorem dX0_pay_92 : decode cX0_pay 92 = .ok (.iconst 1, 1) := by decide +kernel
theorem dX0_pay_93 : decode cX0_pay 93 = .ok (.iadd, 1) := by decide +kernel
theorem dX0_pay_94 : decode cX0_pay 94 = .ok (.iastore, 1) := by decide +kernel
theorem dX0_pay_95 : decode cX0_pay 95 = .ok (.aload_n 1, 1) := by decide +kernel
theorem dX0_pay_96 : decode cX0_pay 96 = .ok (.invokevirtual 207, 3) := by decide +kernel
theorem dX0_pay_99 : decode cX0_pay 99 = .ok (.aload_n 0, 1) := by decide +kernel
theorem dX0_pay_100 : decode cX0_pay 100 = .ok (.getfield 40, 3) := by decide +kernel
theorem dX0_pay_103 : decode cX0_pay 103 = .ok (.iconst 0, 1) := by decide +kernel
theorem dX0_pay_104 : decode cX0_pay 104 = .ok (.dup2, 1) := by decide +kernel
theorem dX0_pay_105 : decode cX0_pay 105 = .ok (.iaload, 1) := by decide +kernel
theorem dX0_pay_106 : decode cX0_pay 106 = .ok (.iconst 1, 1) := by decide +kernel
theorem dX0_pay_107 : decode cX0_pay 107 = .ok (.iadd, 1) := by decide +kernel
theorem dX0_pay_108 : decode cX0_pay 108 = .ok (.iastore, 1) := by decide +kernel
theorem dX0_pay_109 : decode cX0_pay 109 = .ok (.aload_n 1, 1) := by decide +kernel
theorem dX0_pay_110 : decode cX0_pay 110 = .ok (.invokevirtual 207, 3) := by decide +kernel
theorem dX0_pay_113 : decode cX0_pay 113 = .ok (.return_, 1) := by decide +kernel
theorem dX0_end_0 : decode cX0_end 0 = .ok (.aload_n 1, 1) := by decide +kernel
theorem dX0_end_1 : decode cX0_end 1 = .ok (.iconst 4, 1) := by decide +kernel
theorem dX0_end_2 : decode cX0_end 2 = .ok (.putfield 93, 3) := by decide +kernel
theorem dX0_end_5 : decode cX0_end 5 = .ok (.aload_n 1, 1) := by decide +kernel
theorem dX0_end_6 : decode cX0_end 6 = .ok (.iload_n 2, 1) := by decide +kernel
theorem dX0_end_7 : decode cX0_end 7 = .ok (.putfield 210, 3) := by decide +kernel
theorem dX0_end_10 : decode cX0_end 10 = .ok (.iconst 0, 1) := by decide +kernel
theorem dX0_end_11 : decode cX0_end 11 = .ok (.istore_n 3, 1) := by decide +kernel
theorem dX0_end_12 : decode cX0_end 12 = .ok (.iload_n 3, 1) := by decide +kernel
theorem dX0_end_13 : decode cX0_end 13 = .ok (.bipush 100, 2) := by decide +kernel
theorem dX0_end_15 : decode cX0_end 15 = .ok (.if_icmp .ge 31, 3) := by decide +kernel
theorem dX0_end_18 : decode cX0_end 18 = .ok (.aload_n 0, 1) := by decide +kernel
theorem dX0_end_19 : decode cX0_end 19 = .ok (.getfield 30, 3) := by decide +kernel
theorem dX0_end_22 : decode cX0_end 22 = .ok (.iload_n 3, 1) := by decide +kernel
theorem dX0_end_23 : decode cX0_end 23 = .ok (.iaload, 1) := by decide +kernel
theorem dX0_end_24 : decode cX0_end 24 = .ok (.aload_n 1, 1) := by decide +kernel
theorem dX0_end_25 : decode cX0_end 25 = .ok (.getfield 108, 3) := by decide +kernel
theorem dX0_end_28 : decode cX0_end 28 = .ok (.if_icmp .ne 12, 3) := by decide +kernel
theorem dX0_end_31 : decode cX0_end 31 = .ok (.aload_n 0, 1) := by decide +kernel
theorem dX0_end_32 : decode cX0_end 32 = .ok (.invokevirtual 159, 3) := by decide +kernel
theorem dX0_end_35 : decode cX0_end 35 = .ok (.aload_n 0, 1) := by decide +kernel
theorem dX0_end_36 : decode cX0_end 36 = .ok (.iload_n 3, 1) := by decide +kernel
theorem dX0_end_37 : decode cX0_end 37 = .ok (.invokevirtual 213, 3) := by decide +kernel
theorem dX0_end_40 : decode cX0_end 40 = .ok (.iinc 3 1, 3) := by decide +kernel
theorem dX0_end_43 : decode cX0_end 43 = .ok (.goto (-31), 3) := by decide +kernel
theorem dX0_end_46 : decode cX0_end 46 = .ok (.return_, 1) := by decide +kernel
theorem dX0_handOver_0 : decode cX0_handOver 0 = .ok (.aconst_null, 1) := by decide +kernel
theorem dX0_handOver_1 : decode cX0_handOver 1 = .ok (.astore_n 2, 1) := by decide +kernel
theorem dX0_handOver_2 : decode cX0_handOver 2 = .ok (.iconst 0, 1) := by decide +kernel
theorem dX0_handOver_3 : decode cX0_handOver 3 = .ok (.istore_n 3, 1) := by decide +kernel
theorem dX0_handOver_4 : decode cX0_handOver 4 = .ok (.iload_n 3, 1) := by decide +kernel
theorem dX0_handOver_5 : decode cX0_handOver 5 = .ok (.aload_n 0, 1) := by decide +kernel
theorem dX0_handOver_6 : decode cX0_handOver 6 = .ok (.getfield 43, 3) := by decide +kernel
theorem dX0_handOver_9 : decode cX0_handOver 9 = .ok (.if_icmp .ge 55, 3) := by decide +kernel
theorem dX0_handOver_12 : decode cX0_handOver 12 = .ok (.aload_n 0, 1) := by decide +kernel
theorem dX0_handOver_13 : decode cX0_handOver 13 = .ok (.getfield 11, 3) := by decide +kernel
theorem dX0_handOver_16 : decode cX0_handOver 16 = .ok (.iload_n 3, 1) := by decide +kernel
theorem dX0_handOver_17 : decode cX0_handOver 17 = .ok (.aaload, 1) := by decide +kernel
theorem dX0_handOver_18 : decode cX0_handOver 18 = .ok (.astore 4, 2) := by decide +kernel
theorem dX0_handOver_20 : decode cX0_handOver 20 = .ok (.aload 4, 2) := by decide +kernel
theorem dX0_handOver_22 : decode cX0_handOver 22 = .ok (.getfield 93, 3) := by decide +kernel
theorem dX0_handOver_25 : decode cX0_handOver 25 = .ok (.iconst 1, 1) := by decide +kernel
theorem dX0_handOver_26 : decode cX0_handOver 26 = .ok (.if_icmp .ne 32, 3) := by decide +kernel
theorem dX0_handOver_29 : decode cX0_handOver 29 = .ok (.aload 4, 2) := by decide +kernel
theorem dX0_handOver_31 : decode cX0_handOver 31 = .ok (.getfield 115, 3) := by decide +kernel
theorem dX0_handOver_34 : decode cX0_handOver 34 = .ok (.iload_n 1, 1) := by decide +kernel
theorem dX0_handOver_35 : decode cX0_handOver 35 = .ok (.if_icmp .ne 23, 3) := by decide +kernel
theorem dX0_handOver_38 : decode cX0_handOver 38 = .ok (.aload_n 2, 1) := by decide +kernel
theorem dX0_handOver_39 : decode cX0_handOver 39 = .ok (.ifnull 16, 3) := by decide +kernel
theorem dX0_handOver_42 : decode cX0_handOver 42 = .ok (.aload 4, 2) := by decide +kernel
theorem dX0_handOver_44 : decode cX0_handOver 44 = .ok (.getfield 168, 3) := by decide +kernel
theorem dX0_handOver_47 : decode cX0_handOver 47 = .ok (.aload_n 2, 1) := by decide +kernel
theorem dX0_handOver_48 : decode cX0_handOver 48 = .ok (.getfield 168, 3) := by decide +kernel
theorem dX0_handOver_51 : decode cX0_handOver 51 = .ok (.lcmp, 1) := by decide +kernel
theorem dX0_handOver_52 : decode cX0_handOver 52 = .ok (.ifCond .ge 6, 3) := by decide +kernel
theorem dX0_handOver_55 : decode cX0_handOver 55 = .ok (.aload 4, 2) := by decide +kernel
theorem dX0_handOver_57 : decode cX0_handOver 57 = .ok (.astore_n 2, 1) := by decide +kernel
theorem dX0_handOver_58 : decode cX0_handOver 58 = .ok (.iinc 3 1, 3) := by decide +kernel
theorem dX0_handOver_61 : decode cX0_handOver 61 = .ok (.goto (-57), 3) := by decide +kernel
theorem dX0_handOver_64 : decode cX0_handOver 64 = .ok (.aload_n 2, 1) := by decide +kernel
theorem dX0_handOver_65 : decode cX0_handOver 65 = .ok (.ifnonnull 11, 3) := by decide +kernel
theorem dX0_handOver_68 : decode cX0_handOver 68 = .ok (.aload_n 0, 1) := by decide +kernel
theorem dX0_handOver_69 : decode cX0_handOver 69 = .ok (.getfield 30, 3) := by decide +kernel
theorem dX0_handOver_72 : decode cX0_handOver 72 = .ok (.iload_n 1, 1) := by decide +kernel
theorem dX0_handOver_73 : decode cX0_handOver 73 = .ok (.iconst (-1), 1) := by decide +kernel
theorem dX0_handOver_74 : decode cX0_handOver 74 = .ok (.iastore, 1) := by decide +kernel
theorem dX0_handOver_75 : decode cX0_handOver 75 = .ok (.return_, 1) := by decide +kernel
theorem dX0_handOver_76 : decode cX0_handOver 76 = .ok (.aload_n 0, 1) := by decide +kernel
theorem dX0_handOver_77 : decode cX0_handOver 77 = .ok (.getfield 30, 3) := by decide +kernel
theorem dX0_handOver_80 : decode cX0_handOver 80 = .ok (.iload_n 1, 1) := by decide +kernel
theorem dX0_handOver_81 : decode cX0_handOver 81 = .ok (.aload_n 2, 1) := by decide +kernel
theorem dX0_handOver_82 : decode cX0_handOver 82 = .ok (.getfield 108, 3) := by decide +kernel
theorem dX0_handOver_85 : decode cX0_handOver 85 = .ok (.iastore, 1) := by decide +kernel
theorem dX0_handOver_86 : decode cX0_handOver 86 = .ok (.aload_n 2, 1) := by decide +kernel
theorem dX0_handOver_87 : decode cX0_handOver 87 = .ok (.invokevirtual 118, 3) := by decide +kernel
theorem dX0_handOver_90 : decode cX0_handOver 90 = .ok (.aload_n 0, 1) := by decide +kernel
theorem dX0_handOver_91 : decode cX0_handOver 91 = .ok (.getfield 40, 3) := by decide +kernel
theorem dX0_handOver_94 : decode cX0_handOver 94 = .ok (.aload_n 2, 1) := by decide +kernel
theorem dX0_handOver_95 : decode cX0_handOver 95 = .ok (.getfield 204, 3) := by decide +kernel
theorem dX0_handOver_98 : decode cX0_handOver 98 = .ok (.iconst 4, 1) := by decide +kernel
theorem dX0_handOver_99 : decode cX0_handOver 99 = .ok (.if_icmp .ne 8, 3) := by decide +kernel
theorem dX0_handOver_102 : decode cX0_handOver 102 = .ok (.bipush 11, 2) := by decide +kernel
theorem dX0_handOver_104 : decode cX0_handOver 104 = .ok (.goto 5, 3) := by decide +kernel
theorem dX0_handOver_107 : decode cX0_handOver 107 = .ok (.bipush 10, 2) := by decide +kernel
theorem dX0_handOver_109 : decode cX0_handOver 109 = .ok (.dup2, 1) := by decide +kernel
theorem dX0_handOver_110 : decode cX0_handOver 110 = .ok (.iaload, 1) := by decide +kernel
theorem dX0_handOver_111 : decode cX0_handOver 111 = .ok (.iconst 1, 1) := by decide +kernel
theorem dX0_handOver_112 : decode cX0_handOver 112 = .ok (.iadd, 1) := by decide +kernel
theorem dX0_handOver_113 : decode cX0_handOver 113 = .ok (.iastore, 1) := by decide +kernel
theorem dX0_handOver_114 : decode cX0_handOver 114 = .ok (.return_, 1) := by decide +kernel
theorem dX0_act_0 : decode cX0_act 0 = .ok (.aload_n 1, 1) := by decide +kernel
theorem dX0_act_1 : decode cX0_act 1 = .ok (.getfield 216, 3) := by decide +kernel
theorem dX0_act_4 : decode cX0_act 4 = .ok (.ifCond .le 16, 3) := by decide +kernel
theorem dX0_act_7 : decode cX0_act 7 = .ok (.aload_n 1, 1) := by decide +kernel
theorem dX0_act_8 : decode cX0_act 8 = .ok (.dup, 1) := by decide +kernel
theorem dX0_act_9 : decode cX0_act 9 = .ok (.getfield 216, 3) := by decide +kernel
theorem dX0_act_12 : decode cX0_act 12 = .ok (.iconst 1, 1) := by decide +kernel
theorem dX0_act_13 : decode cX0_act 13 = .ok (.isub, 1) := by decide +kernel
theorem dX0_act_14 : decode cX0_act 14 = .ok (.putfield 216, 3) := by decide +kernel
theorem dX0_act_17 : decode cX0_act 17 = .ok (.bipush (-2), 2) := by decide +kernel
theorem dX0_act_19 : decode cX0_act 19 = .ok (.ireturn, 1) := by decide +kernel
theorem dX0_act_20 : decode cX0_act 20 = .ok (.aload_n 0, 1) := by decide +kernel
theorem dX0_act_21 : decode cX0_act 21 = .ok (.aload_n 1, 1) := by decide +kernel
theorem dX0_act_22 : decode cX0_act 22 = .ok (.getfield 219, 3) := by decide +kernel
theorem dX0_act_25 : decode cX0_act 25 = .ok (.invokevirtual 222, 3) := by decide +kernel
theorem dX0_act_28 : decode cX0_act 28 = .ok (.astore_n 2, 1) := by decide +kernel
theorem dX0_act_29 : decode cX0_act 29 = .ok (.aload_n 0, 1) := by decide +kernel
theorem dX0_act_30 : decode cX0_act 30 = .ok (.aload_n 2, 1) := by decide +kernel
theorem dX0_act_31 : decode cX0_act 31 = .ok (.aload_n 1, 1) := by decide +kernel
theorem dX0_act_32 : decode cX0_act 32 = .ok (.getfield 226, 3) := by decide +kernel
theorem dX0_act_35 : decode cX0_act 35 = .ok (.invokevirtual 229, 3) := by decide +kernel
theorem dX0_act_38 : decode cX0_act 38 = .ok (.istore_n 3, 1) := by decide +kernel
theorem dX0_act_39 : decode cX0_act 39 = .ok (.aload_n 2, 1) := by decide +kernel
theorem dX0_act_40 : decode cX0_act 40 = .ok (.ifnull 8, 3) := by decide +kernel
theorem dX0_act_43 : decode cX0_act 43 = .ok (.iload_n 3, 1) := by decide +kernel
theorem dX0_act_44 : decode cX0_act 44 = .ok (.iconst (-1), 1) := by decide +kernel
theorem dX0_act_45 : decode cX0_act 45 = .ok (.if_icmp .eq 5, 3) := by decide +kernel
theorem dX0_act_48 : decode cX0_act 48 = .ok (.iload_n 3, 1) := by decide +kernel
theorem dX0_act_49 : decode cX0_act 49 = .ok (.ireturn, 1) := by decide +kernel
theorem dX0_act_50 : decode cX0_act 50 = .ok (.aload_n 2, 1) := by decide +kernel
theorem dX0_act_51 : decode cX0_act 51 = .ok (.aload_n 1, 1) := by decide +kernel
theorem dX0_act_52 : decode cX0_act 52 = .ok (.getfield 226, 3) := by decide +kernel
theorem dX0_act_55 : decode cX0_act 55 = .ok (.iconst 1, 1) := by decide +kernel
theorem dX0_act_56 : decode cX0_act 56 = .ok (.iadd, 1) := by decide +kernel
theorem dX0_act_57 : decode cX0_act 57 = .ok (.invokevirtual 233, 3) := by decide +kernel
theorem dX0_act_60 : decode cX0_act 60 = .ok (.istore 4, 2) := by decide +kernel
theorem dX0_act_62 : decode cX0_act 62 = .ok (.aload_n 2, 1) := by decide +kernel
theorem dX0_act_63 : decode cX0_act 63 = .ok (.aload_n 1, 1) := by decide +kernel
theorem dX0_act_64 : decode cX0_act 64 = .ok (.getfield 226, 3) := by decide +kernel
theorem dX0_act_67 : decode cX0_act 67 = .ok (.invokevirtual 233, 3) := by decide +kernel
theorem dX0_act_70 : decode cX0_act 70 = .ok (.tableswitch 179 1 11 #[58, 71, 82, 93, 104, 114, 125, 136, 147, 158, 169], 58) := by decide +kernel
theorem dX0_act_128 : decode cX0_act 128 = .ok (.aload_n 1, 1) := by decide +kernel
theorem dX0_act_129 : decode cX0_act 129 = .ok (.iconst 0, 1) := by decide +kernel
theorem dX0_act_130 : decode cX0_act 130 = .ok (.iload 4, 2) := by decide +kernel
theorem dX0_act_132 : decode cX0_act 132 = .ok (.invokestatic 236, 3) := by decide +kernel
theorem dX0_act_135 : decode cX0_act 135 = .ok (.putfield 216, 3) := by decide +kernel
theorem dX0_act_138 : decode cX0_act 138 = .ok (.goto 119, 3) := by decide +kernel
theorem dX0_act_141 : decode cX0_act 141 = .ok (.aload_n 0, 1) := by decide +kernel
theorem dX0_act_142 : decode cX0_act 142 = .ok (.aload_n 1, 1) := by decide +kernel
theorem dX0_act_143 : decode cX0_act 143 = .ok (.iload 4, 2) := by decide +kernel
theorem dX0_act_145 : decode cX0_act 145 = .ok (.invokevirtual 239, 3) := by decide +kernel
theorem dX0_act_148 : decode cX0_act 148 = .ok (.istore_n 3, 1) := by decide +kernel
theorem dX0_act_149 : decode cX0_act 149 = .ok (.goto 108, 3) := by decide +kernel
theorem dX0_act_152 : decode cX0_act 152 = .ok (.aload_n 0, 1) := by decide +kernel
theorem dX0_act_153 : decode cX0_act 153 = .ok (.aload_n 1, 1) := by decide +kernel
theorem dX0_act_154 : decode cX0_act 154 = .ok (.iload 4, 2) := by decide +kernel
theorem dX0_act_156 : decode cX0_act 156 = .ok (.invokevirtual 243, 3) := by decide +kernel
theorem dX0_act_159 : decode cX0_act 159 = .ok (.istore_n 3, 1) := by decide +kernel
theorem dX0_act_160 : decode cX0_act 160 = .ok (.goto 97, 3) := by decide +kernel
theorem dX0_act_163 : decode cX0_act 163 = .ok (.aload_n 0, 1) := by decide +kernel
theorem dX0_act_164 : decode cX0_act 164 = .ok (.aload_n 1, 1) := by decide +kernel
theorem dX0_act_165 : decode cX0_act 165 = .ok (.iload 4, 2) := by decide +kernel
theorem dX0_act_167 : decode cX0_act 167 = .ok (.invokevirtual 246, 3) := by decide +kernel
theorem dX0_act_170 : decode cX0_act 170 = .ok (.istore_n 3, 1) := by decide +kernel
theorem dX0_act_171 : decode cX0_act 171 = .ok (.goto 86, 3) := by decide +kernel
theorem dX0_act_174 : decode cX0_act 174 = .ok (.aload_n 0, 1) := by decide +kernel
theorem dX0_act_175 : decode cX0_act 175 = .ok (.iload 4, 2) := by decide +kernel
theorem dX0_act_177 : decode cX0_act 177 = .ok (.invokevirtual 249, 3) := by decide +kernel
theorem dX0_act_180 : decode cX0_act 180 = .ok (.istore_n 3, 1) := by decide +kernel
theorem dX0_act_181 : decode cX0_act 181 = .ok (.goto 76, 3) := by decide +kernel
theorem dX0_act_184 : decode cX0_act 184 = .ok (.aload_n 0, 1) := by decide +kernel
theorem dX0_act_185 : decode cX0_act 185 = .ok (.aload_n 1, 1) := by decide +kernel
theorem dX0_act_186 : decode cX0_act 186 = .ok (.iload 4, 2) := by decide +kernel
theorem dX0_act_188 : decode cX0_act 188 = .ok (.invokevirtual 252, 3) := by decide +kernel
theorem dX0_act_191 : decode cX0_act 191 = .ok (.istore_n 3, 1) := by decide +kernel
theorem dX0_act_192 : decode cX0_act 192 = .ok (.goto 65, 3) := by decide +kernel
theorem dX0_act_195 : decode cX0_act 195 = .ok (.aload_n 0, 1) := by decide +kernel
theorem dX0_act_196 : decode cX0_act 196 = .ok (.aload_n 1, 1) := by decide +kernel
theorem dX0_act_197 : decode cX0_act 197 = .ok (.iload 4, 2) := by decide +kernel
theorem dX0_act_199 : decode cX0_act 199 = .ok (.invokevirtual 255, 3) := by decide +kernel
theorem dX0_act_202 : decode cX0_act 202 = .ok (.istore_n 3, 1) := by decide +kernel
theorem dX0_act_203 : decode cX0_act 203 = .ok (.goto 54, 3) := by decide +kernel
theorem dX0_act_206 : decode cX0_act 206 = .ok (.aload_n 0, 1) := by decide +kernel
theorem dX0_act_207 : decode cX0_act 207 = .ok (.aload_n 1, 1) := by decide +kernel
theorem dX0_act_208 : decode cX0_act 208 = .ok (.iload 4, 2) := by decide +kernel
theorem dX0_act_210 : decode cX0_act 210 = .ok (.invokevirtual 258, 3) := by decide +kernel
theorem dX0_act_213 : decode cX0_act 213 = .ok (.istore_n 3, 1) := by decide +kernel
theorem dX0_act_214 : decode cX0_act 214 = .ok (.goto 43, 3) := by decide +kernel
theorem dX0_act_217 : decode cX0_act 217 = .ok (.aload_n 0, 1) := by decide +kernel
theorem dX0_act_218 : decode cX0_act 218 = .ok (.aload_n 1, 1) := by decide +kernel
theorem dX0_act_219 : decode cX0_act 219 = .ok (.iload 4, 2) := by decide +kernel
theorem dX0_act_221 : decode cX0_act 221 = .ok (.invokevirtual 261, 3) := by decide +kernel
theorem dX0_act_224 : decode cX0_act 224 = .ok (.istore_n 3, 1) := by decide +kernel
theorem dX0_act_225 : decode cX0_act 225 = .ok (.goto 32, 3) := by decide +kernel
theorem dX0_act_228 : decode cX0_act 228 = .ok (.aload_n 0, 1) := by decide +kernel
theorem dX0_act_229 : decode cX0_act 229 = .ok (.aload_n 1, 1) := by decide +kernel
theorem dX0_act_230 : decode cX0_act 230 = .ok (.iload 4, 2) := by decide +kernel
theorem dX0_act_232 : decode cX0_act 232 = .ok (.invokevirtual 264, 3) := by decide +kernel
theorem dX0_act_235 : decode cX0_act 235 = .ok (.istore_n 3, 1) := by decide +kernel
theorem dX0_act_236 : decode cX0_act 236 = .ok (.goto 21, 3) := by decide +kernel
theorem dX0_act_239 : decode cX0_act 239 = .ok (.aload_n 0, 1) := by decide +kernel
theorem dX0_act_240 : decode cX0_act 240 = .ok (.iload 4, 2) := by decide +kernel
theorem dX0_act_242 : decode cX0_act 242 = .ok (.invokevirtual 267, 3) := by decide +kernel
theorem dX0_act_245 : decode cX0_act 245 = .ok (.istore_n 3, 1) := by decide +kernel
theorem dX0_act_246 : decode cX0_act 246 = .ok (.goto 11, 3) := by decide +kernel
theorem dX0_act_249 : decode cX0_act 249 = .ok (.aload_n 0, 1) := by decide +kernel
theorem dX0_act_250 : decode cX0_act 250 = .ok (.aload_n 1, 1) := by decide +kernel
theorem dX0_act_251 : decode cX0_act 251 = .ok (.iload 4, 2) := by decide +kernel
theorem dX0_act_253 : decode cX0_act 253 = .ok (.invokevirtual 270, 3) := by decide +kernel
theorem dX0_act_256 : decode cX0_act 256 = .ok (.istore_n 3, 1) := by decide +kernel
theorem dX0_act_257 : decode cX0_act 257 = .ok (.aload_n 1, 1) := by decide +kernel
theorem dX0_act_258 : decode cX0_act 258 = .ok (.dup, 1) := by decide +kernel
theorem dX0_act_259 : decode cX0_act 259 = .ok (.getfield 226, 3) := by decide +kernel
theorem dX0_act_262 : decode cX0_act 262 = .ok (.iload_n 3, 1) := by decide +kernel
theorem dX0_act_263 : decode cX0_act 263 = .ok (.ifCond .ge 7, 3) := by decide +kernel
theorem dX0_act_266 : decode cX0_act 266 = .ok (.iconst 2, 1) := by decide +kernel
theorem dX0_act_267 : decode cX0_act 267 = .ok (.goto 4, 3) := by decide +kernel
theorem dX0_act_270 : decode cX0_act 270 = .ok (.iconst 0, 1) := by decide +kernel
theorem dX0_act_271 : decode cX0_act 271 = .ok (.iadd, 1) := by decide +kernel
theorem dX0_act_272 : decode cX0_act 272 = .ok (.putfield 226, 3) := by decide +kernel
theorem dX0_act_275 : decode cX0_act 275 = .ok (.iload_n 3, 1) := by decide +kernel
theorem dX0_act_276 : decode cX0_act 276 = .ok (.ireturn, 1) := by decide +kernel
theorem dX0_readable_0 : decode cX0_readable 0 = .ok (.aload_n 1, 1) := by decide +kernel
theorem dX0_readable_1 : decode cX0_readable 1 = .ok (.ifnull 10, 3) := by decide +kernel
theorem dX0_readable_4 : decode cX0_readable 4 = .ok (.aload_n 1, 1) := by decide +kernel
theorem dX0_readable_5 : decode cX0_readable 5 = .ok (.getfield 69, 3) := by decide +kernel
theorem dX0_readable_8 : decode cX0_readable 8 = .ok (.ifCond .ge 5, 3) := by decide +kernel
theorem dX0_readable_11 : decode cX0_readable 11 = .ok (.iconst 1, 1) := by decide +kernel
theorem dX0_readable_12 : decode cX0_readable 12 = .ok (.ireturn, 1) := by decide +kernel
theorem dX0_readable_13 : decode cX0_readable 13 = .ok (.iload_n 2, 1) := by decide +kernel
theorem dX0_readable_14 : decode cX0_readable 14 = .ok (.aload_n 1, 1) := by decide +kernel
theorem dX0_readable_15 : decode cX0_readable 15 = .ok (.getfield 69, 3) := by decide +kernel
theorem dX0_readable_18 : decode cX0_readable 18 = .ok (.if_icmp .lt 5, 3) := by decide +kernel
theorem dX0_readable_21 : decode cX0_readable 21 = .ok (.iconst 2, 1) := by decide +kernel
theorem dX0_readable_22 : decode cX0_readable 22 = .ok (.ireturn, 1) := by decide +kernel
theorem dX0_readable_23 : decode cX0_readable 23 = .ok (.aload_n 1, 1) := by decide +kernel
theorem dX0_readable_24 : decode cX0_readable 24 = .ok (.iload_n 2, 1) := by decide +kernel
theorem dX0_readable_25 : decode cX0_readable 25 = .ok (.invokevirtual 233, 3) := by decide +kernel
theorem dX0_readable_28 : decode cX0_readable 28 = .ok (.istore_n 3, 1) := by decide +kernel
theorem dX0_readable_29 : decode cX0_readable 29 = .ok (.iload_n 3, 1) := by decide +kernel
theorem dX0_readable_30 : decode cX0_readable 30 = .ok (.ifCond .lt 9, 3) := by decide +kernel
theorem dX0_readable_33 : decode cX0_readable 33 = .ok (.iload_n 3, 1) := by decide +kernel
theorem dX0_readable_34 : decode cX0_readable 34 = .ok (.bipush 12, 2) := by decide +kernel
theorem dX0_readable_36 : decode cX0_readable 36 = .ok (.if_icmp .le 6, 3) := by decide +kernel
theorem dX0_readable_39 : decode cX0_readable 39 = .ok (.bipush 10, 2) := by decide +kernel
theorem dX0_readable_41 : decode cX0_readable 41 = .ok (.ireturn, 1) := by decide +kernel
theorem dX0_readable_42 : decode cX0_readable 42 = .ok (.iload_n 3, 1) := by decide +kernel
theorem dX0_readable_43 : decode cX0_readable 43 = .ok (.ifCond .ne 5, 3) := by decide +kernel
theorem dX0_readable_46 : decode cX0_readable 46 = .ok (.iconst 0, 1) := by decide +kernel
theorem dX0_readable_47 : decode cX0_readable 47 = .ok (.ireturn, 1) := by decide +kernel
theorem dX0_readable_48 : decode cX0_readable 48 = .ok (.iload_n 2, 1) := by decide +kernel
theorem dX0_readable_49 : decode cX0_readable 49 = .ok (.iconst 1, 1) := by decide +kernel
theorem dX0_readable_50 : decode cX0_readable 50 = .ok (.iadd, 1) := by decide +kernel
theorem dX0_readable_51 : decode cX0_readable 51 = .ok (.aload_n 1, 1) := by decide +kernel
theorem dX0_readable_52 : decode cX0_readable 52 = .ok (.getfield 69, 3) := by decide +kernel
theorem dX0_readable_55 : decode cX0_readable 55 = .ok (.if_icmp .ge 7, 3) := by decide +kernel
theorem dX0_readable_58 : decode cX0_readable 58 = .ok (.iconst (-1), 1) := by decide +kernel
theorem dX0_readable_59 : decode cX0_readable 59 = .ok (.goto 4, 3) := by decide +kernel
theorem dX0_readable_62 : decode cX0_readable 62 = .ok (.iconst 2, 1) := by decide +kernel
theorem dX0_readable_63 : decode cX0_readable 63 = .ok (.ireturn, 1) := by decide +kernel
theorem dX0_take_0 : decode cX0_take 0 = .ok (.aload_n 0, 1) := by decide +kernel
theorem dX0_take_1 : decode cX0_take 1 = .ok (.iload_n 2, 1) := by decide +kernel
theorem dX0_take_2 : decode cX0_take 2 = .ok (.invokevirtual 273, 3) := by decide +kernel
theorem dX0_take_5 : decode cX0_take 5 = .ok (.istore_n 3, 1) := by decide +kernel
theorem dX0_take_6 : decode cX0_take 6 = .ok (.iload_n 3, 1) := by decide +kernel
theorem dX0_take_7 : decode cX0_take 7 = .ok (.bipush (-2), 2) := by decide +kernel
theorem dX0_take_9 : decode cX0_take 9 = .ok (.if_icmp .ne 6, 3) := by decide +kernel
theorem dX0_take_12 : decode cX0_take 12 = .ok (.bipush 7, 2) := by decide +kernel
theorem dX0_take_14 : decode cX0_take 14 = .ok (.ireturn, 1) := by decide +kernel
theorem dX0_take_15 : decode cX0_take 15 = .ok (.iload_n 3, 1) := by decide +kernel
theorem dX0_take_16 : decode cX0_take 16 = .ok (.aload_n 1, 1) := by decide +kernel
theorem dX0_take_17 : decode cX0_take 17 = .ok (.getfield 108, 3) := by decide +kernel
theorem dX0_take_20 : decode cX0_take 20 = .ok (.if_icmp .ne 6, 3) := by decide +kernel
theorem dX0_take_23 : decode cX0_take 23 = .ok (.bipush 11, 2) := by decide +kernel
theorem dX0_take_25 : decode cX0_take 25 = .ok (.ireturn, 1) := by decide +kernel
theorem dX0_take_26 : decode cX0_take 26 = .ok (.iload_n 3, 1) := by decide +kernel
theorem dX0_take_27 : decode cX0_take 27 = .ok (.iconst (-1), 1) := by decide +kernel
theorem dX0_take_28 : decode cX0_take 28 = .ok (.if_icmp .ne 15, 3) := by decide +kernel
theorem dX0_take_31 : decode cX0_take 31 = .ok (.aload_n 0, 1) := by decide +kernel
theorem dX0_take_32 : decode cX0_take 32 = .ok (.getfield 30, 3) := by decide +kernel
theorem dX0_take_35 : decode cX0_take 35 = .ok (.iload_n 2, 1) := by decide +kernel
theorem dX0_take_36 : decode cX0_take 36 = .ok (.aload_n 1, 1) := by decide +kernel
theorem dX0_take_37 : decode cX0_take 37 = .ok (.getfield 108, 3) := by decide +kernel
theorem dX0_take_40 : decode cX0_take 40 = .ok (.iastore, 1) := by decide +kernel
theorem dX0_take_41 : decode cX0_take 41 = .ok (.iconst (-1), 1) := by decide +kernel
theorem dX0_take_42 : decode cX0_take 42 = .ok (.ireturn, 1) := by decide +kernel
theorem dX0_take_43 : decode cX0_take 43 = .ok (.aload_n 0, 1) := by decide +kernel
theorem dX0_take_44 : decode cX0_take 44 = .ok (.iload_n 3, 1) := by decide +kernel
theorem dX0_take_45 : decode cX0_take 45 = .ok (.aload_n 1, 1) := by decide +kernel
theorem dX0_take_46 : decode cX0_take 46 = .ok (.invokevirtual 276, 3) := by decide +kernel
theorem dX0_take_49 : decode cX0_take 49 = .ok (.ifCond .eq 12, 3) := by decide +kernel
theorem dX0_take_52 : decode cX0_take 52 = .ok (.aload_n 0, 1) := by decide +kernel
theorem dX0_take_53 : decode cX0_take 53 = .ok (.aload_n 1, 1) := by decide +kernel
theorem dX0_take_54 : decode cX0_take 54 = .ok (.iload_n 3, 1) := by decide +kernel
theorem dX0_take_55 : decode cX0_take 55 = .ok (.invokevirtual 280, 3) := by decide +kernel
theorem dX0_take_58 : decode cX0_take 58 = .ok (.bipush 12, 2) := by decide +kernel
theorem dX0_take_60 : decode cX0_take 60 = .ok (.ireturn, 1) := by decide +kernel
theorem dX0_take_61 : decode cX0_take 61 = .ok (.aload_n 0, 1) := by decide +kernel
theorem dX0_take_62 : decode cX0_take 62 = .ok (.aload_n 1, 1) := by decide +kernel
theorem dX0_take_63 : decode cX0_take 63 = .ok (.iconst 1, 1) := by decide +kernel
theorem dX0_take_64 : decode cX0_take 64 = .ok (.invokevirtual 283, 3) := by decide +kernel
theorem dX0_take_67 : decode cX0_take 67 = .ok (.aload_n 1, 1) := by decide +kernel
theorem dX0_take_68 : decode cX0_take 68 = .ok (.iload_n 2, 1) := by decide +kernel
theorem dX0_take_69 : decode cX0_take 69 = .ok (.putfield 115, 3) := by decide +kernel
theorem dX0_take_72 : decode cX0_take 72 = .ok (.bipush (-2), 2) := by decide +kernel
theorem dX0_take_74 : decode cX0_take 74 = .ok (.ireturn, 1) := by decide +kernel
theorem dX0_leadsTo_0 : decode cX0_leadsTo 0 = .ok (.aload_n 0, 1) := by decide +kernel
theorem dX0_leadsTo_1 : decode cX0_leadsTo 1 = .ok (.iload_n 1, 1) := by decide +kernel
theorem dX0_leadsTo_2 : decode cX0_leadsTo 2 = .ok (.invokevirtual 89, 3) := by decide +kernel
theorem dX0_leadsTo_5 : decode cX0_leadsTo 5 = .ok (.astore_n 3, 1) := by decide +kernel
theorem dX0_leadsTo_6 : decode cX0_leadsTo 6 = .ok (.iconst 0, 1) := by decide +kernel
theorem dX0_leadsTo_7 : decode cX0_leadsTo 7 = .ok (.istore 4, 2) := by decide +kernel
theorem dX0_leadsTo_9 : decode cX0_leadsTo 9 = .ok (.iload 4, 2) := by decide +kernel
theorem dX0_leadsTo_11 : decode cX0_leadsTo 11 = .ok (.sipush 200, 3) := by decide +kernel
theorem dX0_leadsTo_14 : decode cX0_leadsTo 14 = .ok (.if_icmp .ge 24, 3) := by decide +kernel
theorem dX0_leadsTo_17 : decode cX0_leadsTo 17 = .ok (.aload_n 3, 1) := by decide +kernel
theorem dX0_leadsTo_18 : decode cX0_leadsTo 18 = .ok (.ifnull 20, 3) := by decide +kernel
theorem dX0_leadsTo_21 : decode cX0_leadsTo 21 = .ok (.aload_n 3, 1) := by decide +kernel
theorem dX0_leadsTo_22 : decode cX0_leadsTo 22 = .ok (.aload_n 2, 1) := by decide +kernel
theorem dX0_leadsTo_23 : decode cX0_leadsTo 23 = .ok (.if_acmp .eq 15, 3) := by decide +kernel
theorem dX0_leadsTo_26 : decode cX0_leadsTo 26 = .ok (.aload_n 0, 1) := by decide +kernel
theorem dX0_leadsTo_27 : decode cX0_leadsTo 27 = .ok (.aload_n 3, 1) := by decide +kernel
theorem dX0_leadsTo_28 : decode cX0_leadsTo 28 = .ok (.invokevirtual 186, 3) := by decide +kernel
theorem dX0_leadsTo_31 : decode cX0_leadsTo 31 = .ok (.astore_n 3, 1) := by decide +kernel
theorem dX0_leadsTo_32 : decode cX0_leadsTo 32 = .ok (.iinc 4 1, 3) := by decide +kernel
theorem dX0_leadsTo_35 : decode cX0_leadsTo 35 = .ok (.goto (-26), 3) := by decide +kernel
theorem dX0_leadsTo_38 : decode cX0_leadsTo 38 = .ok (.aload_n 3, 1) := by decide +kernel
theorem dX0_leadsTo_39 : decode cX0_leadsTo 39 = .ok (.aload_n 2, 1) := by decide +kernel
theorem dX0_leadsTo_40 : decode cX0_leadsTo 40 = .ok (.if_acmp .ne 7, 3) := by decide +kernel
theorem dX0_leadsTo_43 : decode cX0_leadsTo 43 = .ok (.iconst 1, 1) := by decide +kernel
theorem dX0_leadsTo_44 : decode cX0_leadsTo 44 = .ok (.goto 4, 3) := by decide +kernel
theorem dX0_leadsTo_47 : decode cX0_leadsTo 47 = .ok (.iconst 0, 1) := by decide +kernel
theorem dX0_leadsTo_48 : decode cX0_leadsTo 48 = .ok (.ireturn, 1) := by decide +kernel
theorem dX0_keepRing_0 : decode cX0_keepRing 0 = .ok (.aload_n 0, 1) := by decide +kernel
theorem dX0_keepRing_1 : decode cX0_keepRing 1 = .ok (.dup, 1) := by decide +kernel
theorem dX0_keepRing_2 : decode cX0_keepRing 2 = .ok (.getfield 56, 3) := by decide +kernel
theorem dX0_keepRing_5 : decode cX0_keepRing 5 = .ok (.iconst 1, 1) := by decide +kernel
theorem dX0_keepRing_6 : decode cX0_keepRing 6 = .ok (.iadd, 1) := by decide +kernel
theorem dX0_keepRing_7 : decode cX0_keepRing 7 = .ok (.putfield 56, 3) := by decide +kernel
theorem dX0_keepRing_10 : decode cX0_keepRing 10 = .ok (.aload_n 0, 1) := by decide +kernel
theorem dX0_keepRing_11 : decode cX0_keepRing 11 = .ok (.getfield 37, 3) := by decide +kernel
theorem dX0_keepRing_14 : decode cX0_keepRing 14 = .ok (.iconst 0, 1) := by decide +kernel
theorem dX0_keepRing_15 : decode cX0_keepRing 15 = .ok (.aload_n 1, 1) := by decide +kernel
theorem dX0_keepRing_16 : decode cX0_keepRing 16 = .ok (.getfield 108, 3) := by decide +kernel
theorem dX0_keepRing_19 : decode cX0_keepRing 19 = .ok (.iastore, 1) := by decide +kernel
theorem dX0_keepRing_20 : decode cX0_keepRing 20 = .ok (.aload_n 0, 1) := by decide +kernel
theorem dX0_keepRing_21 : decode cX0_keepRing 21 = .ok (.iconst 1, 1) := by decide +kernel
theorem dX0_keepRing_22 : decode cX0_keepRing 22 = .ok (.putfield 53, 3) := by decide +kernel
theorem dX0_keepRing_25 : decode cX0_keepRing 25 = .ok (.aload_n 0, 1) := by decide +kernel
theorem dX0_keepRing_26 : decode cX0_keepRing 26 = .ok (.iload_n 2, 1) := by decide +kernel
theorem dX0_keepRing_27 : decode cX0_keepRing 27 = .ok (.invokevirtual 89, 3) := by decide +kernel
theorem dX0_keepRing_30 : decode cX0_keepRing 30 = .ok (.astore_n 3, 1) := by decide +kernel
theorem dX0_keepRing_31 : decode cX0_keepRing 31 = .ok (.iconst 1, 1) := by decide +kernel
theorem dX0_keepRing_32 : decode cX0_keepRing 32 = .ok (.istore 4, 2) := by decide +kernel
theorem dX0_keepRing_34 : decode cX0_keepRing 34 = .ok (.iload 4, 2) := by decide +kernel
theorem dX0_keepRing_36 : decode cX0_keepRing 36 = .ok (.sipush 200, 3) := by decide +kernel
theorem dX0_keepRing_39 : decode cX0_keepRing 39 = .ok (.if_icmp .ge 43, 3) := by decide +kernel
theorem dX0_keepRing_42 : decode cX0_keepRing 42 = .ok (.aload_n 3, 1) := by decide +kernel
theorem dX0_keepRing_43 : decode cX0_keepRing 43 = .ok (.ifnull 39, 3) := by decide +kernel
theorem dX0_keepRing_46 : decode cX0_keepRing 46 = .ok (.aload_n 3, 1) := by decide +kernel
theorem dX0_keepRing_47 : decode cX0_keepRing 47 = .ok (.aload_n 1, 1) := by decide +kernel
theorem dX0_keepRing_48 : decode cX0_keepRing 48 = .ok (.if_acmp .eq 34, 3) := by decide +kernel
theorem dX0_keepRing_51 : decode cX0_keepRing 51 = .ok (.aload_n 0, 1) := by decide +kernel
theorem dX0_keepRing_52 : decode cX0_keepRing 52 = .ok (.getfield 37, 3) := by decide +kernel
theorem dX0_keepRing_55 : decode cX0_keepRing 55 = .ok (.iload 4, 2) := by decide +kernel
theorem dX0_keepRing_57 : decode cX0_keepRing 57 = .ok (.aload_n 3, 1) := by decide +kernel
theorem dX0_keepRing_58 : decode cX0_keepRing 58 = .ok (.getfield 108, 3) := by decide +kernel
theorem dX0_keepRing_61 : decode cX0_keepRing 61 = .ok (.iastore, 1) := by decide +kernel
theorem dX0_keepRing_62 : decode cX0_keepRing 62 = .ok (.aload_n 0, 1) := by decide +kernel
theorem dX0_keepRing_63 : decode cX0_keepRing 63 = .ok (.iload 4, 2) := by decide +kernel
theorem dX0_keepRing_65 : decode cX0_keepRing 65 = .ok (.iconst 1, 1) := by decide +kernel
theorem dX0_keepRing_66 : decode cX0_keepRing 66 = .ok (.iadd, 1) := by decide +kernel
theorem dX0_keepRing_67 : decode cX0_keepRing 67 = .ok (.putfield 53, 3) := by decide +kernel
theorem dX0_keepRing_70 : decode cX0_keepRing 70 = .ok (.aload_n 0, 1) := by decide +kernel
theorem dX0_keepRing_71 : decode cX0_keepRing 71 = .ok (.aload_n 3, 1) := by decide +kernel
theorem dX0_keepRing_72 : decode cX0_keepRing 72 = .ok (.invokevirtual 186, 3) := by decide +kernel
theorem dX0_keepRing_75 : decode cX0_keepRing 75 = .ok (.astore_n 3, 1) := by decide +kernel
theorem dX0_keepRing_76 : decode cX0_keepRing 76 = .ok (.iinc 4 1, 3) := by decide +kernel
theorem dX0_keepRing_79 : decode cX0_keepRing 79 = .ok (.goto (-45), 3) := by decide +kernel
theorem dX0_keepRing_82 : decode cX0_keepRing 82 = .ok (.return_, 1) := by decide +kernel
theorem dX0_give_0 : decode cX0_give 0 = .ok (.aload_n 0, 1) := by decide +kernel
theorem dX0_give_1 : decode cX0_give 1 = .ok (.iload_n 2, 1) := by decide +kernel
theorem dX0_give_2 : decode cX0_give 2 = .ok (.invokevirtual 273, 3) := by decide +kernel
theorem dX0_give_5 : decode cX0_give 5 = .ok (.istore_n 3, 1) := by decide +kernel
theorem dX0_give_6 : decode cX0_give 6 = .ok (.iload_n 3, 1) := by decide +kernel
theorem dX0_give_7 : decode cX0_give 7 = .ok (.bipush (-2), 2) := by decide +kernel
theorem dX0_give_9 : decode cX0_give 9 = .ok (.if_icmp .ne 6, 3) := by decide +kernel
theorem dX0_give_12 : decode cX0_give 12 = .ok (.bipush 7, 2) := by decide +kernel
theorem dX0_give_14 : decode cX0_give 14 = .ok (.ireturn, 1) := by decide +kernel
theorem dX0_give_15 : decode cX0_give 15 = .ok (.iload_n 3, 1) := by decide +kernel
theorem dX0_give_16 : decode cX0_give 16 = .ok (.aload_n 1, 1) := by decide +kernel
theorem dX0_give_17 : decode cX0_give 17 = .ok (.getfield 108, 3) := by decide +kernel
theorem dX0_give_20 : decode cX0_give 20 = .ok (.if_icmp .eq 6, 3) := by decide +kernel
theorem dX0_give_23 : decode cX0_give 23 = .ok (.bipush 11, 2) := by decide +kernel
theorem dX0_give_25 : decode cX0_give 25 = .ok (.ireturn, 1) := by decide +kernel
theorem dX0_give_26 : decode cX0_give 26 = .ok (.aload_n 0, 1) := by decide +kernel
theorem dX0_give_27 : decode cX0_give 27 = .ok (.invokevirtual 159, 3) := by decide +kernel
theorem dX0_give_30 : decode cX0_give 30 = .ok (.aload_n 0, 1) := by decide +kernel
theorem dX0_give_31 : decode cX0_give 31 = .ok (.iload_n 2, 1) := by decide +kernel
theorem dX0_give_32 : decode cX0_give 32 = .ok (.invokevirtual 213, 3) := by decide +kernel
theorem dX0_give_35 : decode cX0_give 35 = .ok (.iconst (-1), 1) := by decide +kernel
theorem dX0_give_36 : decode cX0_give 36 = .ok (.ireturn, 1) := by decide +kernel
theorem dX0_waitForBell_0 : decode cX0_waitForBell 0 = .ok (.iload_n 2, 1) := by decide +kernel
theorem dX0_waitForBell_1 : decode cX0_waitForBell 1 = .ok (.ifCond .lt 9, 3) := by decide +kernel
theorem dX0_waitForBell_4 : decode cX0_waitForBell 4 = .ok (.iload_n 2, 1) := by decide +kernel
theorem dX0_waitForBell_5 : decode cX0_waitForBell 5 = .ok (.bipush 16, 2) := by decide +kernel
theorem dX0_waitForBell_7 : decode cX0_waitForBell 7 = .ok (.if_icmp .lt 6, 3) := by decide +kernel
theorem dX0_waitForBell_10 : decode cX0_waitForBell 10 = .ok (.bipush 10, 2) := by decide +kernel
theorem dX0_waitForBell_12 : decode cX0_waitForBell 12 = .ok (.ireturn, 1) := by decide +kernel
theorem dX0_waitForBell_13 : decode cX0_waitForBell 13 = .ok (.aload_n 0, 1) := by decide +kernel
theorem dX0_waitForBell_14 : decode cX0_waitForBell 14 = .ok (.aload_n 1, 1) := by decide +kernel
theorem dX0_waitForBell_15 : decode cX0_waitForBell 15 = .ok (.iconst 2, 1) := by decide +kernel
theorem dX0_waitForBell_16 : decode cX0_waitForBell 16 = .ok (.invokevirtual 283, 3) := by decide +kernel
theorem dX0_waitForBell_19 : decode cX0_waitForBell 19 = .ok (.aload_n 1, 1) := by decide +kernel
theorem dX0_waitForBell_20 : decode cX0_waitForBell 20 = .ok (.iload_n 2, 1) := by decide +kernel
theorem dX0_waitForBell_21 : decode cX0_waitForBell 21 = .ok (.putfield 115, 3) := by decide +kernel
theorem dX0_waitForBell_24 : decode cX0_waitForBell 24 = .ok (.bipush (-2), 2) := by decide +kernel
theorem dX0_waitForBell_26 : decode cX0_waitForBell 26 = .ok (.ireturn, 1) := by decide +kernel
theorem dX0_ringFrom_0 : decode cX0_ringFrom 0 = .ok (.iload_n 1, 1) := by decide +kernel
theorem dX0_ringFrom_1 : decode cX0_ringFrom 1 = .ok (.ifCond .lt 9, 3) := by decide +kernel
theorem dX0_ringFrom_4 : decode cX0_ringFrom 4 = .ok (.iload_n 1, 1) := by decide +kernel
theorem dX0_ringFrom_5 : decode cX0_ringFrom 5 = .ok (.bipush 16, 2) := by decide +kernel
theorem dX0_ringFrom_7 : decode cX0_ringFrom 7 = .ok (.if_icmp .lt 6, 3) := by decide +kernel
theorem dX0_ringFrom_10 : decode cX0_ringFrom 10 = .ok (.bipush 10, 2) := by decide +kernel
theorem dX0_ringFrom_12 : decode cX0_ringFrom 12 = .ok (.ireturn, 1) := by decide +kernel
theorem dX0_ringFrom_13 : decode cX0_ringFrom 13 = .ok (.aload_n 0, 1) := by decide +kernel
theorem dX0_ringFrom_14 : decode cX0_ringFrom 14 = .ok (.iload_n 1, 1) := by decide +kernel
theorem dX0_ringFrom_15 : decode cX0_ringFrom 15 = .ok (.invokevirtual 286, 3) := by decide +kernel
theorem dX0_ringFrom_18 : decode cX0_ringFrom 18 = .ok (.pop, 1) := by decide +kernel
theorem dX0_ringFrom_19 : decode cX0_ringFrom 19 = .ok (.iconst (-1), 1) := by decide +kernel
theorem dX0_ringFrom_20 : decode cX0_ringFrom 20 = .ok (.ireturn, 1) := by decide +kernel
theorem dX0_sleep_0 : decode cX0_sleep 0 = .ok (.iload_n 2, 1) := by decide +kernel
theorem dX0_sleep_1 : decode cX0_sleep 1 = .ok (.ifCond .gt 5, 3) := by decide +kernel
theorem dX0_sleep_4 : decode cX0_sleep 4 = .ok (.iconst (-1), 1) := by decide +kernel
theorem dX0_sleep_5 : decode cX0_sleep 5 = .ok (.ireturn, 1) := by decide +kernel
theorem dX0_sleep_6 : decode cX0_sleep 6 = .ok (.aload_n 0, 1) := by decide +kernel
theorem dX0_sleep_7 : decode cX0_sleep 7 = .ok (.aload_n 1, 1) := by decide +kernel
theorem dX0_sleep_8 : decode cX0_sleep 8 = .ok (.iconst 3, 1) := by decide +kernel
theorem dX0_sleep_9 : decode cX0_sleep 9 = .ok (.invokevirtual 283, 3) := by decide +kernel
theorem dX0_sleep_12 : decode cX0_sleep 12 = .ok (.aload_n 1, 1) := by decide +kernel
theorem dX0_sleep_13 : decode cX0_sleep 13 = .ok (.aload_n 0, 1) := by decide +kernel
theorem dX0_sleep_14 : decode cX0_sleep 14 = .ok (.getfield 47, 3) := by decide +kernel
theorem dX0_sleep_17 : decode cX0_sleep 17 = .ok (.iload_n 2, 1) := by decide +kernel
theorem dX0_sleep_18 : decode cX0_sleep 18 = .ok (.iadd, 1) := by decide +kernel
theorem dX0_sleep_19 : decode cX0_sleep 19 = .ok (.putfield 138, 3) := by decide +kernel
theorem dX0_sleep_22 : decode cX0_sleep 22 = .ok (.bipush (-2), 2) := by decide +kernel
theorem dX0_sleep_24 : decode cX0_sleep 24 = .ok (.ireturn, 1) := by decide +kernel
theorem dX0_beginWait_0 : decode cX0_beginWait 0 = .ok (.aload_n 1, 1) := by decide +kernel
theorem dX0_beginWait_1 : decode cX0_beginWait 1 = .ok (.iload_n 2, 1) := by decide +kernel
theorem dX0_beginWait_2 : decode cX0_beginWait 2 = .ok (.putfield 93, 3) := by decide +kernel
theorem dX0_beginWait_5 : decode cX0_beginWait 5 = .ok (.aload_n 1, 1) := by decide +kernel
theorem dX0_beginWait_6 : decode cX0_beginWait 6 = .ok (.getfield 204, 3) := by decide +kernel
theorem dX0_beginWait_9 : decode cX0_beginWait 9 = .ok (.iconst 3, 1) := by decide +kernel
theorem dX0_beginWait_10 : decode cX0_beginWait 10 = .ok (.if_icmp .eq 11, 3) := by decide +kernel
theorem dX0_beginWait_13 : decode cX0_beginWait 13 = .ok (.aload_n 1, 1) := by decide +kernel
theorem dX0_beginWait_14 : decode cX0_beginWait 14 = .ok (.getfield 204, 3) := by decide +kernel
theorem dX0_beginWait_17 : decode cX0_beginWait 17 = .ok (.iconst 4, 1) := by decide +kernel
theorem dX0_beginWait_18 : decode cX0_beginWait 18 = .ok (.if_icmp .ne 13, 3) := by decide +kernel
theorem dX0_beginWait_21 : decode cX0_beginWait 21 = .ok (.aload_n 0, 1) := by decide +kernel
theorem dX0_beginWait_22 : decode cX0_beginWait 22 = .ok (.getfield 40, 3) := by decide +kernel
theorem dX0_beginWait_25 : decode cX0_beginWait 25 = .ok (.iconst 4, 1) := by decide +kernel
theorem dX0_beginWait_26 : decode cX0_beginWait 26 = .ok (.dup2, 1) := by decide +kernel
theorem dX0_beginWait_27 : decode cX0_beginWait 27 = .ok (.iaload, 1) := by decide +kernel
theorem dX0_beginWait_28 : decode cX0_beginWait 28 = .ok (.iconst 1, 1) := by decide +kernel
theorem dX0_beginWait_29 : decode cX0_beginWait 29 = .ok (.iadd, 1) := by decide +kernel
theorem dX0_beginWait_30 : decode cX0_beginWait 30 = .ok (.iastore, 1) := by decide +kernel
theorem dX0_beginWait_31 : decode cX0_beginWait 31 = .ok (.aload_n 1, 1) := by decide +kernel
theorem dX0_beginWait_32 : decode cX0_beginWait 32 = .ok (.getfield 204, 3) := by decide +kernel
theorem dX0_beginWait_35 : decode cX0_beginWait 35 = .ok (.iconst 2, 1) := by decide +kernel
theorem dX0_beginWait_36 : decode cX0_beginWait 36 = .ok (.if_icmp .ne 13, 3) := by decide +kernel
theorem dX0_beginWait_39 : decode cX0_beginWait 39 = .ok (.aload_n 0, 1) := by decide +kernel
theorem dX0_beginWait_40 : decode cX0_beginWait 40 = .ok (.getfield 40, 3) := by decide +kernel
theorem dX0_beginWait_43 : decode cX0_beginWait 43 = .ok (.iconst 5, 1) := by decide +kernel
theorem dX0_beginWait_44 : decode cX0_beginWait 44 = .ok (.dup2, 1) := by decide +kernel
theorem dX0_beginWait_45 : decode cX0_beginWait 45 = .ok (.iaload, 1) := by decide +kernel
theorem dX0_beginWait_46 : decode cX0_beginWait 46 = .ok (.iconst 1, 1) := by decide +kernel
theorem dX0_beginWait_47 : decode cX0_beginWait 47 = .ok (.iadd, 1) := by decide +kernel
theorem dX0_beginWait_48 : decode cX0_beginWait 48 = .ok (.iastore, 1) := by decide +kernel
theorem dX0_beginWait_49 : decode cX0_beginWait 49 = .ok (.aload_n 0, 1) := by decide +kernel
theorem dX0_beginWait_50 : decode cX0_beginWait 50 = .ok (.getfield 40, 3) := by decide +kernel
theorem dX0_beginWait_53 : decode cX0_beginWait 53 = .ok (.iconst 3, 1) := by decide +kernel
theorem dX0_beginWait_54 : decode cX0_beginWait 54 = .ok (.dup2, 1) := by decide +kernel
theorem dX0_beginWait_55 : decode cX0_beginWait 55 = .ok (.iaload, 1) := by decide +kernel
theorem dX0_beginWait_56 : decode cX0_beginWait 56 = .ok (.iconst 1, 1) := by decide +kernel
theorem dX0_beginWait_57 : decode cX0_beginWait 57 = .ok (.iadd, 1) := by decide +kernel
theorem dX0_beginWait_58 : decode cX0_beginWait 58 = .ok (.iastore, 1) := by decide +kernel
theorem dX0_beginWait_59 : decode cX0_beginWait 59 = .ok (.return_, 1) := by decide +kernel
theorem dX0_spawn_0 : decode cX0_spawn 0 = .ok (.iload_n 2, 1) := by decide +kernel
theorem dX0_spawn_1 : decode cX0_spawn 1 = .ok (.ifCond .lt 9, 3) := by decide +kernel
theorem dX0_spawn_4 : decode cX0_spawn 4 = .ok (.iload_n 2, 1) := by decide +kernel
theorem dX0_spawn_5 : decode cX0_spawn 5 = .ok (.bipush 32, 2) := by decide +kernel
theorem dX0_spawn_7 : decode cX0_spawn 7 = .ok (.if_icmp .lt 6, 3) := by decide +kernel
theorem dX0_spawn_10 : decode cX0_spawn 10 = .ok (.bipush 10, 2) := by decide +kernel
theorem dX0_spawn_12 : decode cX0_spawn 12 = .ok (.ireturn, 1) := by decide +kernel
theorem dX0_spawn_13 : decode cX0_spawn 13 = .ok (.aload_n 0, 1) := by decide +kernel
theorem dX0_spawn_14 : decode cX0_spawn 14 = .ok (.aload_n 0, 1) := by decide +kernel
theorem dX0_spawn_15 : decode cX0_spawn 15 = .ok (.aload_n 1, 1) := by decide +kernel
theorem dX0_spawn_16 : decode cX0_spawn 16 = .ok (.getfield 204, 3) := by decide +kernel
theorem dX0_spawn_19 : decode cX0_spawn 19 = .ok (.iload_n 2, 1) := by decide +kernel
theorem dX0_spawn_20 : decode cX0_spawn 20 = .ok (.aload_n 1, 1) := by decide +kernel
theorem dX0_spawn_21 : decode cX0_spawn 21 = .ok (.getfield 289, 3) := by decide +kernel
theorem dX0_spawn_24 : decode cX0_spawn 24 = .ok (.invokevirtual 292, 3) := by decide +kernel
theorem dX0_spawn_27 : decode cX0_spawn 27 = .ok (.invokevirtual 89, 3) := by decide +kernel
theorem dX0_spawn_30 : decode cX0_spawn 30 = .ok (.astore_n 3, 1) := by decide +kernel
theorem dX0_spawn_31 : decode cX0_spawn 31 = .ok (.aload_n 3, 1) := by decide +kernel
theorem dX0_spawn_32 : decode cX0_spawn 32 = .ok (.ifnonnull 6, 3) := by decide +kernel
theorem dX0_spawn_35 : decode cX0_spawn 35 = .ok (.bipush 11, 2) := by decide +kernel
theorem dX0_spawn_37 : decode cX0_spawn 37 = .ok (.ireturn, 1) := by decide +kernel
theorem dX0_spawn_38 : decode cX0_spawn 38 = .ok (.aload_n 3, 1) := by decide +kernel
theorem dX0_spawn_39 : decode cX0_spawn 39 = .ok (.aload_n 1, 1) := by decide +kernel
theorem dX0_spawn_40 : decode cX0_spawn 40 = .ok (.getfield 153, 3) := by decide +kernel
theorem dX0_spawn_43 : decode cX0_spawn 43 = .ok (.aload_n 1, 1) := by decide +kernel
theorem dX0_spawn_44 : decode cX0_spawn 44 = .ok (.getfield 156, 3) := by decide +kernel
theorem dX0_spawn_47 : decode cX0_spawn 47 = .ok (.aload_n 0, 1) := by decide +kernel
theorem dX0_spawn_48 : decode cX0_spawn 48 = .ok (.getfield 47, 3) := by decide +kernel
theorem dX0_spawn_51 : decode cX0_spawn 51 = .ok (.invokevirtual 104, 3) := by decide +kernel
theorem dX0_spawn_54 : decode cX0_spawn 54 = .ok (.iconst (-1), 1) := by decide +kernel
theorem dX0_spawn_55 : decode cX0_spawn 55 = .ok (.ireturn, 1) := by decide +kernel
theorem dX0_getShorts_0 : decode cX0_getShorts 0 = .ok (.aload_n 1, 1) := by decide +kernel
theorem dX0_getShorts_1 : decode cX0_getShorts 1 = .ok (.getfield 296, 3) := by decide +kernel
theorem dX0_getShorts_4 : decode cX0_getShorts 4 = .ok (.ifCond .lt 6, 3) := by decide +kernel
theorem dX0_getShorts_7 : decode cX0_getShorts 7 = .ok (.bipush 11, 2) := by decide +kernel
theorem dX0_getShorts_9 : decode cX0_getShorts 9 = .ok (.ireturn, 1) := by decide +kernel
theorem dX0_getShorts_10 : decode cX0_getShorts 10 = .ok (.iload_n 2, 1) := by decide +kernel
theorem dX0_getShorts_11 : decode cX0_getShorts 11 = .ok (.ifCond .ge 5, 3) := by decide +kernel
theorem dX0_getShorts_14 : decode cX0_getShorts 14 = .ok (.iconst 4, 1) := by decide +kernel
theorem dX0_getShorts_15 : decode cX0_getShorts 15 = .ok (.ireturn, 1) := by decide +kernel
theorem dX0_getShorts_16 : decode cX0_getShorts 16 = .ok (.aload_n 1, 1) := by decide +kernel
theorem dX0_getShorts_17 : decode cX0_getShorts 17 = .ok (.iload_n 2, 1) := by decide +kernel
theorem dX0_getShorts_18 : decode cX0_getShorts 18 = .ok (.invokevirtual 299, 3) := by decide +kernel
theorem dX0_getShorts_21 : decode cX0_getShorts 21 = .ok (.iconst (-1), 1) := by decide +kernel
theorem dX0_getShorts_22 : decode cX0_getShorts 22 = .ok (.ireturn, 1) := by decide +kernel
theorem dX0_findShort_0 : decode cX0_findShort 0 = .ok (.aload_n 1, 1) := by decide +kernel
theorem dX0_findShort_1 : decode cX0_findShort 1 = .ok (.getfield 296, 3) := by decide +kernel
theorem dX0_findShort_4 : decode cX0_findShort 4 = .ok (.ifCond .ge 6, 3) := by decide +kernel
theorem dX0_findShort_7 : decode cX0_findShort 7 = .ok (.bipush 8, 2) := by decide +kernel
theorem dX0_findShort_9 : decode cX0_findShort 9 = .ok (.ireturn, 1) := by decide +kernel
theorem dX0_findShort_10 : decode cX0_findShort 10 = .ok (.aload_n 1, 1) := by decide +kernel
theorem dX0_findShort_11 : decode cX0_findShort 11 = .ok (.iload_n 2, 1) := by decide +kernel
theorem dX0_findShort_12 : decode cX0_findShort 12 = .ok (.invokevirtual 302, 3) := by decide +kernel
theorem dX0_findShort_15 : decode cX0_findShort 15 = .ok (.ifCond .eq 7, 3) := by decide +kernel
theorem dX0_findShort_18 : decode cX0_findShort 18 = .ok (.iconst (-1), 1) := by decide +kernel
theorem dX0_findShort_19 : decode cX0_findShort 19 = .ok (.goto 5, 3) := by decide +kernel
theorem dX0_findShort_22 : decode cX0_findShort 22 = .ok (.bipush 9, 2) := by decide +kernel
theorem dX0_findShort_24 : decode cX0_findShort 24 = .ok (.ireturn, 1) := by decide +kernel
theorem dX0_stamp_0 : decode cX0_stamp 0 = .ok (.aload_n 1, 1) := by decide +kernel
theorem dX0_stamp_1 : decode cX0_stamp 1 = .ok (.iload_n 2, 1) := by decide +kernel
theorem dX0_stamp_2 : decode cX0_stamp 2 = .ok (.aload_n 0, 1) := by decide +kernel
theorem dX0_stamp_3 : decode cX0_stamp 3 = .ok (.getfield 47, 3) := by decide +kernel
theorem dX0_stamp_6 : decode cX0_stamp 6 = .ok (.invokevirtual 306, 3) := by decide +kernel
theorem dX0_stamp_9 : decode cX0_stamp 9 = .ok (.aload_n 0, 1) := by decide +kernel
theorem dX0_stamp_10 : decode cX0_stamp 10 = .ok (.aload_n 1, 1) := by decide +kernel
theorem dX0_stamp_11 : decode cX0_stamp 11 = .ok (.iload_n 2, 1) := by decide +kernel
theorem dX0_stamp_12 : decode cX0_stamp 12 = .ok (.invokevirtual 310, 3) := by decide +kernel
theorem dX0_stamp_15 : decode cX0_stamp 15 = .ok (.ireturn, 1) := by decide +kernel
theorem dX0_workByShort_0 : decode cX0_workByShort 0 = .ok (.aload_n 1, 1) := by decide +kernel
theorem dX0_workByShort_1 : decode cX0_workByShort 1 = .ok (.iconst 0, 1) := by decide +kernel
theorem dX0_workByShort_2 : decode cX0_workByShort 2 = .ok (.aload_n 1, 1) := by decide +kernel
theorem dX0_workByShort_3 : decode cX0_workByShort 3 = .ok (.iload_n 2, 1) := by decide +kernel
theorem dX0_workByShort_4 : decode cX0_workByShort 4 = .ok (.invokevirtual 313, 3) := by decide +kernel
theorem dX0_workByShort_7 : decode cX0_workByShort 7 = .ok (.invokestatic 236, 3) := by decide +kernel
theorem dX0_workByShort_10 : decode cX0_workByShort 10 = .ok (.putfield 216, 3) := by decide +kernel
theorem dX0_workByShort_13 : decode cX0_workByShort 13 = .ok (.aload_n 0, 1) := by decide +kernel
theorem dX0_workByShort_14 : decode cX0_workByShort 14 = .ok (.aload_n 1, 1) := by decide +kernel
theorem dX0_workByShort_15 : decode cX0_workByShort 15 = .ok (.iload_n 2, 1) := by decide +kernel
theorem dX0_workByShort_16 : decode cX0_workByShort 16 = .ok (.invokevirtual 310, 3) := by decide +kernel
theorem dX0_workByShort_19 : decode cX0_workByShort 19 = .ok (.ireturn, 1) := by decide +kernel
theorem dX0_claim_0 : decode cX0_claim 0 = .ok (.iload_n 2, 1) := by decide +kernel
theorem dX0_claim_1 : decode cX0_claim 1 = .ok (.ifCond .lt 8, 3) := by decide +kernel
theorem dX0_claim_4 : decode cX0_claim 4 = .ok (.iload_n 2, 1) := by decide +kernel
theorem dX0_claim_5 : decode cX0_claim 5 = .ok (.iconst 4, 1) := by decide +kernel
theorem dX0_claim_6 : decode cX0_claim 6 = .ok (.if_icmp .le 6, 3) := by decide +kernel
theorem dX0_claim_9 : decode cX0_claim 9 = .ok (.bipush 10, 2) := by decide +kernel
theorem dX0_claim_11 : decode cX0_claim 11 = .ok (.ireturn, 1) := by decide +kernel
theorem dX0_claim_12 : decode cX0_claim 12 = .ok (.aload_n 1, 1) := by decide +kernel
theorem dX0_claim_13 : decode cX0_claim 13 = .ok (.iload_n 2, 1) := by decide +kernel
theorem dX0_claim_14 : decode cX0_claim 14 = .ok (.invokevirtual 316, 3) := by decide +kernel
theorem dX0_claim_17 : decode cX0_claim 17 = .ok (.ifCond .ne 5, 3) := by decide +kernel
theorem dX0_claim_20 : decode cX0_claim 20 = .ok (.iconst 3, 1) := by decide +kernel
theorem dX0_claim_21 : decode cX0_claim 21 = .ok (.ireturn, 1) := by decide +kernel
theorem dX0_claim_22 : decode cX0_claim 22 = .ok (.aload_n 1, 1) := by decide +kernel
theorem dX0_claim_23 : decode cX0_claim 23 = .ok (.dup, 1) := by decide +kernel
theorem dX0_claim_24 : decode cX0_claim 24 = .ok (.getfield 201, 3) := by decide +kernel
theorem dX0_claim_27 : decode cX0_claim 27 = .ok (.iload_n 2, 1) := by decide +kernel
theorem dX0_claim_28 : decode cX0_claim 28 = .ok (.iconst 1, 1) := by decide +kernel
theorem dX0_claim_29 : decode cX0_claim 29 = .ok (.if_icmp .eq 8, 3) := by decide +kernel
theorem dX0_claim_32 : decode cX0_claim 32 = .ok (.iload_n 2, 1) := by decide +kernel
theorem dX0_claim_33 : decode cX0_claim 33 = .ok (.iconst 2, 1) := by decide +kernel
theorem dX0_claim_34 : decode cX0_claim 34 = .ok (.if_icmp .ne 7, 3) := by decide +kernel
theorem dX0_claim_37 : decode cX0_claim 37 = .ok (.iconst 1, 1) := by decide +kernel
theorem dX0_claim_38 : decode cX0_claim 38 = .ok (.goto 4, 3) := by decide +kernel
theorem dX0_claim_41 : decode cX0_claim 41 = .ok (.iconst 0, 1) := by decide +kernel
theorem dX0_claim_42 : decode cX0_claim 42 = .ok (.iadd, 1) := by decide +kernel
theorem dX0_claim_43 : decode cX0_claim 43 = .ok (.putfield 201, 3) := by decide +kernel
theorem dX0_claim_46 : decode cX0_claim 46 = .ok (.iconst (-1), 1) := by decide +kernel
theorem dX0_claim_47 : decode cX0_claim 47 = .ok (.ireturn, 1) := by decide +kernel
theorem dX0_fail_0 : decode cX0_fail 0 = .ok (.iload_n 1, 1) := by decide +kernel
theorem dX0_fail_1 : decode cX0_fail 1 = .ok (.tableswitch 36 0 3 #[31, 33, 33, 31], 31) := by decide +kernel
theorem dX0_fail_32 : decode cX0_fail 32 = .ok (.iconst 5, 1) := by decide +kernel
theorem dX0_fail_33 : decode cX0_fail 33 = .ok (.ireturn, 1) := by decide +kernel
theorem dX0_fail_34 : decode cX0_fail 34 = .ok (.bipush 6, 2) := by decide +kernel
theorem dX0_fail_36 : decode cX0_fail 36 = .ok (.ireturn, 1) := by decide +kernel
theorem dX0_fail_37 : decode cX0_fail 37 = .ok (.bipush 10, 2) := by decide +kernel
theorem dX0_fail_39 : decode cX0_fail 39 = .ok (.ireturn, 1) := by decide +kernel
theorem dX0_ticksUntilChosen_0 : decode cX0_ticksUntilChosen 0 = .ok (.aload_n 0, 1) := by decide +kernel
theorem dX0_ticksUntilChosen_1 : decode cX0_ticksUntilChosen 1 = .ok (.invokevirtual 159, 3) := by decide +kernel
theorem dX0_ticksUntilChosen_4 : decode cX0_ticksUntilChosen 4 = .ok (.iconst 0, 1) := by decide +kernel
theorem dX0_ticksUntilChosen_5 : decode cX0_ticksUntilChosen 5 = .ok (.istore_n 2, 1) := by decide +kernel
theorem dX0_ticksUntilChosen_6 : decode cX0_ticksUntilChosen 6 = .ok (.lconst 0, 1) := by decide +kernel
theorem dX0_ticksUntilChosen_7 : decode cX0_ticksUntilChosen 7 = .ok (.lstore_n 3, 1) := by decide +kernel
theorem dX0_ticksUntilChosen_8 : decode cX0_ticksUntilChosen 8 = .ok (.iconst 0, 1) := by decide +kernel
theorem dX0_ticksUntilChosen_9 : decode cX0_ticksUntilChosen 9 = .ok (.istore 5, 2) := by decide +kernel
theorem dX0_ticksUntilChosen_11 : decode cX0_ticksUntilChosen 11 = .ok (.iload 5, 2) := by decide +kernel
theorem dX0_ticksUntilChosen_13 : decode cX0_ticksUntilChosen 13 = .ok (.aload_n 0, 1) := by decide +kernel
theorem dX0_ticksUntilChosen_14 : decode cX0_ticksUntilChosen 14 = .ok (.getfield 43, 3) := by decide +kernel
theorem dX0_ticksUntilChosen_17 : decode cX0_ticksUntilChosen 17 = .ok (.if_icmp .ge 74, 3) := by decide +kernel
theorem dX0_ticksUntilChosen_20 : decode cX0_ticksUntilChosen 20 = .ok (.aload_n 0, 1) := by decide +kernel
theorem dX0_ticksUntilChosen_21 : decode cX0_ticksUntilChosen 21 = .ok (.getfield 11, 3) := by decide +kernel
theorem dX0_ticksUntilChosen_24 : decode cX0_ticksUntilChosen 24 = .ok (.iload 5, 2) := by decide +kernel
theorem dX0_ticksUntilChosen_26 : decode cX0_ticksUntilChosen 26 = .ok (.aaload, 1) := by decide +kernel
theorem dX0_ticksUntilChosen_27 : decode cX0_ticksUntilChosen 27 = .ok (.astore 6, 2) := by decide +kernel
theorem dX0_ticksUntilChosen_29 : decode cX0_ticksUntilChosen 29 = .ok (.aload 6, 2) := by decide +kernel
theorem dX0_ticksUntilChosen_31 : decode cX0_ticksUntilChosen 31 = .ok (.getfield 93, 3) := by decide +kernel
theorem dX0_ticksUntilChosen_34 : decode cX0_ticksUntilChosen 34 = .ok (.ifCond .ne 51, 3) := by decide +kernel
theorem dX0_ticksUntilChosen_37 : decode cX0_ticksUntilChosen 37 = .ok (.aload 6, 2) := by decide +kernel
theorem dX0_ticksUntilChosen_39 : decode cX0_ticksUntilChosen 39 = .ok (.getfield 168, 3) := by decide +kernel
theorem dX0_ticksUntilChosen_42 : decode cX0_ticksUntilChosen 42 = .ok (.aload_n 1, 1) := by decide +kernel
theorem dX0_ticksUntilChosen_43 : decode cX0_ticksUntilChosen 43 = .ok (.getfield 168, 3) := by decide +kernel
theorem dX0_ticksUntilChosen_46 : decode cX0_ticksUntilChosen 46 = .ok (.lcmp, 1) := by decide +kernel
theorem dX0_ticksUntilChosen_47 : decode cX0_ticksUntilChosen 47 = .ok (.ifCond .ge 38, 3) := by decide +kernel
theorem dX0_ticksUntilChosen_50 : decode cX0_ticksUntilChosen 50 = .ok (.aload 6, 2) := by decide +kernel
theorem dX0_ticksUntilChosen_52 : decode cX0_ticksUntilChosen 52 = .ok (.getfield 168, 3) := by decide +kernel
theorem dX0_ticksUntilChosen_55 : decode cX0_ticksUntilChosen 55 = .ok (.invokestatic 319, 3) := by decide +kernel
theorem dX0_ticksUntilChosen_58 : decode cX0_ticksUntilChosen 58 = .ok (.aload 6, 2) := by decide +kernel
theorem dX0_ticksUntilChosen_60 : decode cX0_ticksUntilChosen 60 = .ok (.getfield 108, 3) := by decide +kernel
theorem dX0_ticksUntilChosen_63 : decode cX0_ticksUntilChosen 63 = .ok (.if_icmp .ne 19, 3) := by decide +kernel
theorem dX0_ticksUntilChosen_66 : decode cX0_ticksUntilChosen 66 = .ok (.lload_n 3, 1) := by decide +kernel
theorem dX0_ticksUntilChosen_67 : decode cX0_ticksUntilChosen 67 = .ok (.aload_n 0, 1) := by decide +kernel
theorem dX0_ticksUntilChosen_68 : decode cX0_ticksUntilChosen 68 = .ok (.aload 6, 2) := by decide +kernel
theorem dX0_ticksUntilChosen_70 : decode cX0_ticksUntilChosen 70 = .ok (.aload_n 1, 1) := by decide +kernel
theorem dX0_ticksUntilChosen_71 : decode cX0_ticksUntilChosen 71 = .ok (.getfield 168, 3) := by decide +kernel
theorem dX0_ticksUntilChosen_74 : decode cX0_ticksUntilChosen 74 = .ok (.invokevirtual 322, 3) := by decide +kernel
theorem dX0_ticksUntilChosen_77 : decode cX0_ticksUntilChosen 77 = .ok (.ladd, 1) := by decide +kernel
theorem dX0_ticksUntilChosen_78 : decode cX0_ticksUntilChosen 78 = .ok (.lstore_n 3, 1) := by decide +kernel
theorem dX0_ticksUntilChosen_79 : decode cX0_ticksUntilChosen 79 = .ok (.goto 6, 3) := by decide +kernel
theorem dX0_ticksUntilChosen_82 : decode cX0_ticksUntilChosen 82 = .ok (.iinc 2 1, 3) := by decide +kernel
theorem dX0_ticksUntilChosen_85 : decode cX0_ticksUntilChosen 85 = .ok (.iinc 5 1, 3) := by decide +kernel
theorem dX0_ticksUntilChosen_88 : decode cX0_ticksUntilChosen 88 = .ok (.goto (-77), 3) := by decide +kernel
theorem dX0_ticksUntilChosen_91 : decode cX0_ticksUntilChosen 91 = .ok (.aload_n 0, 1) := by decide +kernel
theorem dX0_ticksUntilChosen_92 : decode cX0_ticksUntilChosen 92 = .ok (.getfield 50, 3) := by decide +kernel
theorem dX0_ticksUntilChosen_95 : decode cX0_ticksUntilChosen 95 = .ok (.iload_n 2, 1) := by decide +kernel
theorem dX0_ticksUntilChosen_96 : decode cX0_ticksUntilChosen 96 = .ok (.isub, 1) := by decide +kernel
theorem dX0_ticksUntilChosen_97 : decode cX0_ticksUntilChosen 97 = .ok (.istore 5, 2) := by decide +kernel
theorem dX0_ticksUntilChosen_99 : decode cX0_ticksUntilChosen 99 = .ok (.iload 5, 2) := by decide +kernel
theorem dX0_ticksUntilChosen_101 : decode cX0_ticksUntilChosen 101 = .ok (.ifCond .le 13, 3) := by decide +kernel
theorem dX0_ticksUntilChosen_104 : decode cX0_ticksUntilChosen 104 = .ok (.lload_n 3, 1) := by decide +kernel
theorem dX0_ticksUntilChosen_105 : decode cX0_ticksUntilChosen 105 = .ok (.iload 5, 2) := by decide +kernel
theorem dX0_ticksUntilChosen_107 : decode cX0_ticksUntilChosen 107 = .ok (.i2l, 1) := by decide +kernel
theorem dX0_ticksUntilChosen_108 : decode cX0_ticksUntilChosen 108 = .ok (.ldiv, 1) := by decide +kernel
theorem dX0_ticksUntilChosen_109 : decode cX0_ticksUntilChosen 109 = .ok (.lconst 1, 1) := by decide +kernel
theorem dX0_ticksUntilChosen_110 : decode cX0_ticksUntilChosen 110 = .ok (.ladd, 1) := by decide +kernel
theorem dX0_ticksUntilChosen_111 : decode cX0_ticksUntilChosen 111 = .ok (.goto 6, 3) := by decide +kernel
theorem dX0_ticksUntilChosen_114 : decode cX0_ticksUntilChosen 114 = .ok (.ldc2_w 162, 3) := by decide +kernel
theorem dX0_ticksUntilChosen_117 : decode cX0_ticksUntilChosen 117 = .ok (.lreturn, 1) := by decide +kernel
theorem dX0_turnsAhead_0 : decode cX0_turnsAhead 0 = .ok (.lload_n 2, 1) := by decide +kernel
theorem dX0_turnsAhead_1 : decode cX0_turnsAhead 1 = .ok (.invokestatic 171, 3) := by decide +kernel
theorem dX0_turnsAhead_4 : decode cX0_turnsAhead 4 = .ok (.ifCond .ne 9, 3) := by decide +kernel
theorem dX0_turnsAhead_7 : decode cX0_turnsAhead 7 = .ok (.aload_n 1, 1) := by decide +kernel
theorem dX0_turnsAhead_8 : decode cX0_turnsAhead 8 = .ok (.getfield 201, 3) := by decide +kernel
theorem dX0_turnsAhead_11 : decode cX0_turnsAhead 11 = .ok (.i2l, 1) := by decide +kernel
theorem dX0_turnsAhead_12 : decode cX0_turnsAhead 12 = .ok (.lreturn, 1) := by decide +kernel
theorem dX0_turnsAhead_13 : decode cX0_turnsAhead 13 = .ok (.aload_n 1, 1) := by decide +kernel
theorem dX0_turnsAhead_14 : decode cX0_turnsAhead 14 = .ok (.lload_n 2, 1) := by decide +kernel
theorem dX0_turnsAhead_15 : decode cX0_turnsAhead 15 = .ok (.invokevirtual 326, 3) := by decide +kernel
theorem dX0_turnsAhead_18 : decode cX0_turnsAhead 18 = .ok (.lstore 4, 2) := by decide +kernel
theorem dX0_turnsAhead_20 : decode cX0_turnsAhead 20 = .ok (.aload_n 1, 1) := by decide +kernel
theorem dX0_turnsAhead_21 : decode cX0_turnsAhead 21 = .ok (.getfield 204, 3) := by decide +kernel
theorem dX0_turnsAhead_24 : decode cX0_turnsAhead 24 = .ok (.tableswitch 61 1 4 #[32, 41, 61, 52], 32) := by decide +kernel
theorem dX0_turnsAhead_56 : decode cX0_turnsAhead 56 = .ok (.aload_n 1, 1) := by decide +kernel
theorem dX0_turnsAhead_57 : decode cX0_turnsAhead 57 = .ok (.getfield 201, 3) := by decide +kernel
theorem dX0_turnsAhead_60 : decode cX0_turnsAhead 60 = .ok (.i2l, 1) := by decide +kernel
theorem dX0_turnsAhead_61 : decode cX0_turnsAhead 61 = .ok (.lload 4, 2) := by decide +kernel
theorem dX0_turnsAhead_63 : decode cX0_turnsAhead 63 = .ok (.ladd, 1) := by decide +kernel
theorem dX0_turnsAhead_64 : decode cX0_turnsAhead 64 = .ok (.lreturn, 1) := by decide +kernel
theorem dX0_turnsAhead_65 : decode cX0_turnsAhead 65 = .ok (.aload_n 1, 1) := by decide +kernel
theorem dX0_turnsAhead_66 : decode cX0_turnsAhead 66 = .ok (.getfield 201, 3) := by decide +kernel
theorem dX0_turnsAhead_69 : decode cX0_turnsAhead 69 = .ok (.i2l, 1) := by decide +kernel
theorem dX0_turnsAhead_70 : decode cX0_turnsAhead 70 = .ok (.lload 4, 2) := by decide +kernel
theorem dX0_turnsAhead_72 : decode cX0_turnsAhead 72 = .ok (.invokestatic 329, 3) := by decide +kernel
theorem dX0_turnsAhead_75 : decode cX0_turnsAhead 75 = .ok (.lreturn, 1) := by decide +kernel
theorem dX0_turnsAhead_76 : decode cX0_turnsAhead 76 = .ok (.lload 4, 2) := by decide +kernel
theorem dX0_turnsAhead_78 : decode cX0_turnsAhead 78 = .ok (.lconst 1, 1) := by decide +kernel
theorem dX0_turnsAhead_79 : decode cX0_turnsAhead 79 = .ok (.ladd, 1) := by decide +kernel
theorem dX0_turnsAhead_80 : decode cX0_turnsAhead 80 = .ok (.ldc2_w 332, 3) := by decide +kernel
theorem dX0_turnsAhead_83 : decode cX0_turnsAhead 83 = .ok (.ldiv, 1) := by decide +kernel
theorem dX0_turnsAhead_84 : decode cX0_turnsAhead 84 = .ok (.lreturn, 1) := by decide +kernel
theorem dX0_turnsAhead_85 : decode cX0_turnsAhead 85 = .ok (.lload 4, 2) := by decide +kernel
theorem dX0_turnsAhead_87 : decode cX0_turnsAhead 87 = .ok (.lreturn, 1) := by decide +kernel
theorem dX0_summed_0 : decode cX0_summed 0 = .ok (.ldc2_w 334, 3) := by decide +kernel
theorem dX0_summed_3 : decode cX0_summed 3 = .ok (.lstore_n 1, 1) := by decide +kernel
theorem dX0_summed_4 : decode cX0_summed 4 = .ok (.lload_n 1, 1) := by decide +kernel
theorem dX0_summed_5 : decode cX0_summed 5 = .ok (.ldc2_w 336, 3) := by decide +kernel
theorem dX0_summed_8 : decode cX0_summed 8 = .ok (.lmul, 1) := by decide +kernel
theorem dX0_summed_9 : decode cX0_summed 9 = .ok (.aload_n 0, 1) := by decide +kernel
theorem dX0_summed_10 : decode cX0_summed 10 = .ok (.getfield 47, 3) := by decide +kernel
theorem dX0_summed_13 : decode cX0_summed 13 = .ok (.i2l, 1) := by decide +kernel
theorem dX0_summed_14 : decode cX0_summed 14 = .ok (.ladd, 1) := by decide +kernel
theorem dX0_summed_15 : decode cX0_summed 15 = .ok (.lstore_n 1, 1) := by decide +kernel
theorem dX0_summed_16 : decode cX0_summed 16 = .ok (.lload_n 1, 1) := by decide +kernel
theorem dX0_summed_17 : decode cX0_summed 17 = .ok (.ldc2_w 336, 3) := by decide +kernel
theorem dX0_summed_20 : decode cX0_summed 20 = .ok (.lmul, 1) := by decide +kernel
theorem dX0_summed_21 : decode cX0_summed 21 = .ok (.aload_n 0, 1) := by decide +kernel
theorem dX0_summed_22 : decode cX0_summed 22 = .ok (.getfield 43, 3) := by decide +kernel
theorem dX0_summed_25 : decode cX0_summed 25 = .ok (.i2l, 1) := by decide +kernel
theorem dX0_summed_26 : decode cX0_summed 26 = .ok (.ladd, 1) := by decide +kernel
theorem dX0_summed_27 : decode cX0_summed 27 = .ok (.lstore_n 1, 1) := by decide +kernel
theorem dX0_summed_28 : decode cX0_summed 28 = .ok (.lload_n 1, 1) := by decide +kernel
theorem dX0_summed_29 : decode cX0_summed 29 = .ok (.ldc2_w 336, 3) := by decide +kernel
theorem dX0_summed_32 : decode cX0_summed 32 = .ok (.lmul, 1) := by decide +kernel
theorem dX0_summed_33 : decode cX0_summed 33 = .ok (.aload_n 0, 1) := by decide +kernel
theorem dX0_summed_34 : decode cX0_summed 34 = .ok (.getfield 50, 3) := by decide +kernel
theorem dX0_summed_37 : decode cX0_summed 37 = .ok (.i2l, 1) := by decide +kernel
theorem dX0_summed_38 : decode cX0_summed 38 = .ok (.ladd, 1) := by decide +kernel
theorem dX0_summed_39 : decode cX0_summed 39 = .ok (.lstore_n 1, 1) := by decide +kernel
theorem dX0_summed_40 : decode cX0_summed 40 = .ok (.iconst 0, 1) := by decide +kernel
theorem dX0_summed_41 : decode cX0_summed 41 = .ok (.istore_n 3, 1) := by decide +kernel
theorem dX0_summed_42 : decode cX0_summed 42 = .ok (.iload_n 3, 1) := by decide +kernel
theorem dX0_summed_43 : decode cX0_summed 43 = .ok (.aload_n 0, 1) := by decide +kernel
theorem dX0_summed_44 : decode cX0_summed 44 = .ok (.getfield 43, 3) := by decide +kernel
theorem dX0_summed_47 : decode cX0_summed 47 = .ok (.if_icmp .ge 94, 3) := by decide +kernel
theorem dX0_summed_50 : decode cX0_summed 50 = .ok (.aload_n 0, 1) := by decide +kernel
theorem dX0_summed_51 : decode cX0_summed 51 = .ok (.getfield 11, 3) := by decide +kernel
theorem dX0_summed_54 : decode cX0_summed 54 = .ok (.iload_n 3, 1) := by decide +kernel
theorem dX0_summed_55 : decode cX0_summed 55 = .ok (.aaload, 1) := by decide +kernel
theorem dX0_summed_56 : decode cX0_summed 56 = .ok (.astore 4, 2) := by decide +kernel
theorem dX0_summed_58 : decode cX0_summed 58 = .ok (.iconst 0, 1) := by decide +kernel
theorem dX0_summed_59 : decode cX0_summed 59 = .ok (.istore 5, 2) := by decide +kernel
theorem dX0_summed_61 : decode cX0_summed 61 = .ok (.iload 5, 2) := by decide +kernel
theorem dX0_summed_63 : decode cX0_summed 63 = .ok (.bipush 14, 2) := by decide +kernel
theorem dX0_summed_65 : decode cX0_summed 65 = .ok (.if_icmp .gt 24, 3) := by decide +kernel
theorem dX0_summed_68 : decode cX0_summed 68 = .ok (.lload_n 1, 1) := by decide +kernel
theorem dX0_summed_69 : decode cX0_summed 69 = .ok (.ldc2_w 336, 3) := by decide +kernel
theorem dX0_summed_72 : decode cX0_summed 72 = .ok (.lmul, 1) := by decide +kernel
theorem dX0_summed_73 : decode cX0_summed 73 = .ok (.aload 4, 2) := by decide +kernel
theorem dX0_summed_75 : decode cX0_summed 75 = .ok (.iload 5, 2) := by decide +kernel
theorem dX0_summed_77 : decode cX0_summed 77 = .ok (.invokevirtual 338, 3) := by decide +kernel
theorem dX0_summed_80 : decode cX0_summed 80 = .ok (.i2l, 1) := by decide +kernel
theorem dX0_summed_81 : decode cX0_summed 81 = .ok (.ladd, 1) := by decide +kernel
theorem dX0_summed_82 : decode cX0_summed 82 = .ok (.lstore_n 1, 1) := by decide +kernel
theorem dX0_summed_83 : decode cX0_summed 83 = .ok (.iinc 5 1, 3) := by decide +kernel
theorem dX0_summed_86 : decode cX0_summed 86 = .ok (.goto (-25), 3) := by decide +kernel
theorem dX0_summed_89 : decode cX0_summed 89 = .ok (.lload_n 1, 1) := by decide +kernel
theorem dX0_summed_90 : decode cX0_summed 90 = .ok (.ldc2_w 336, 3) := by decide +kernel
theorem dX0_summed_93 : decode cX0_summed 93 = .ok (.lmul, 1) := by decide +kernel
theorem dX0_summed_94 : decode cX0_summed 94 = .ok (.aload 4, 2) := by decide +kernel
theorem dX0_summed_96 : decode cX0_summed 96 = .ok (.getfield 111, 3) := by decide +kernel
theorem dX0_summed_99 : decode cX0_summed 99 = .ok (.ladd, 1) := by decide +kernel
theorem dX0_summed_100 : decode cX0_summed 100 = .ok (.lstore_n 1, 1) := by decide +kernel
theorem dX0_summed_101 : decode cX0_summed 101 = .ok (.iconst 0, 1) := by decide +kernel
theorem dX0_summed_102 : decode cX0_summed 102 = .ok (.istore 5, 2) := by decide +kernel
theorem dX0_summed_104 : decode cX0_summed 104 = .ok (.iload 5, 2) := by decide +kernel
theorem dX0_summed_106 : decode cX0_summed 106 = .ok (.aload 4, 2) := by decide +kernel
theorem dX0_summed_108 : decode cX0_summed 108 = .ok (.getfield 296, 3) := by decide +kernel
theorem dX0_summed_111 : decode cX0_summed 111 = .ok (.if_icmp .ge 24, 3) := by decide +kernel
theorem dX0_summed_114 : decode cX0_summed 114 = .ok (.lload_n 1, 1) := by decide +kernel
theorem dX0_summed_115 : decode cX0_summed 115 = .ok (.ldc2_w 336, 3) := by decide +kernel
theorem dX0_summed_118 : decode cX0_summed 118 = .ok (.lmul, 1) := by decide +kernel
theorem dX0_summed_119 : decode cX0_summed 119 = .ok (.aload 4, 2) := by decide +kernel
theorem dX0_summed_121 : decode cX0_summed 121 = .ok (.iload 5, 2) := by decide +kernel
theorem dX0_summed_123 : decode cX0_summed 123 = .ok (.invokevirtual 313, 3) := by decide +kernel
theorem dX0_summed_126 : decode cX0_summed 126 = .ok (.i2l, 1) := by decide +kernel
theorem dX0_summed_127 : decode cX0_summed 127 = .ok (.ladd, 1) := by decide +kernel
theorem dX0_summed_128 : decode cX0_summed 128 = .ok (.lstore_n 1, 1) := by decide +kernel
theorem dX0_summed_129 : decode cX0_summed 129 = .ok (.iinc 5 1, 3) := by decide +kernel
theorem dX0_summed_132 : decode cX0_summed 132 = .ok (.goto (-28), 3) := by decide +kernel
theorem dX0_summed_135 : decode cX0_summed 135 = .ok (.iinc 3 1, 3) := by decide +kernel
theorem dX0_summed_138 : decode cX0_summed 138 = .ok (.goto (-96), 3) := by decide +kernel
theorem dX0_summed_141 : decode cX0_summed 141 = .ok (.iconst 0, 1) := by decide +kernel
theorem dX0_summed_142 : decode cX0_summed 142 = .ok (.istore_n 3, 1) := by decide +kernel
theorem dX0_summed_143 : decode cX0_summed 143 = .ok (.iload_n 3, 1) := by decide +kernel
theorem dX0_summed_144 : decode cX0_summed 144 = .ok (.bipush 100, 2) := by decide +kernel
theorem dX0_summed_146 : decode cX0_summed 146 = .ok (.if_icmp .ge 23, 3) := by decide +kernel
theorem dX0_summed_149 : decode cX0_summed 149 = .ok (.lload_n 1, 1) := by decide +kernel
theorem dX0_summed_150 : decode cX0_summed 150 = .ok (.ldc2_w 336, 3) := by decide +kernel
theorem dX0_summed_153 : decode cX0_summed 153 = .ok (.lmul, 1) := by decide +kernel
theorem dX0_summed_154 : decode cX0_summed 154 = .ok (.aload_n 0, 1) := by decide +kernel
theorem dX0_summed_155 : decode cX0_summed 155 = .ok (.getfield 30, 3) := by decide +kernel
theorem dX0_summed_158 : decode cX0_summed 158 = .ok (.iload_n 3, 1) := by decide +kernel
theorem dX0_summed_159 : decode cX0_summed 159 = .ok (.iaload, 1) := by decide +kernel
theorem dX0_summed_160 : decode cX0_summed 160 = .ok (.i2l, 1) := by decide +kernel
theorem dX0_summed_161 : decode cX0_summed 161 = .ok (.ladd, 1) := by decide +kernel
theorem dX0_summed_162 : decode cX0_summed 162 = .ok (.lstore_n 1, 1) := by decide +kernel
theorem dX0_summed_163 : decode cX0_summed 163 = .ok (.iinc 3 1, 3) := by decide +kernel
theorem dX0_summed_166 : decode cX0_summed 166 = .ok (.goto (-23), 3) := by decide +kernel
theorem dX0_summed_169 : decode cX0_summed 169 = .ok (.aload_n 0, 1) := by decide +kernel
theorem dX0_summed_170 : decode cX0_summed 170 = .ok (.getfield 26, 3) := by decide +kernel
theorem dX0_summed_173 : decode cX0_summed 173 = .ok (.lload_n 1, 1) := by decide +kernel
theorem dX0_summed_174 : decode cX0_summed 174 = .ok (.invokevirtual 341, 3) := by decide +kernel
theorem dX0_summed_177 : decode cX0_summed 177 = .ok (.lstore_n 1, 1) := by decide +kernel
theorem dX0_summed_178 : decode cX0_summed 178 = .ok (.iconst 0, 1) := by decide +kernel
theorem dX0_summed_179 : decode cX0_summed 179 = .ok (.istore_n 3, 1) := by decide +kernel
theorem dX0_summed_180 : decode cX0_summed 180 = .ok (.iload_n 3, 1) := by decide +kernel
theorem dX0_summed_181 : decode cX0_summed 181 = .ok (.bipush 12, 2) := by decide +kernel
theorem dX0_summed_183 : decode cX0_summed 183 = .ok (.if_icmp .ge 23, 3) := by decide +kernel
theorem dX0_summed_186 : decode cX0_summed 186 = .ok (.lload_n 1, 1) := by decide +kernel
theorem dX0_summed_187 : decode cX0_summed 187 = .ok (.ldc2_w 336, 3) := by decide +kernel
theorem dX0_summed_190 : decode cX0_summed 190 = .ok (.lmul, 1) := by decide +kernel
theorem dX0_summed_191 : decode cX0_summed 191 = .ok (.aload_n 0, 1) := by decide +kernel
theorem dX0_summed_192 : decode cX0_summed 192 = .ok (.getfield 40, 3) := by decide +kernel
theorem dX0_summed_195 : decode cX0_summed 195 = .ok (.iload_n 3, 1) := by decide +kernel
theorem dX0_summed_196 : decode cX0_summed 196 = .ok (.iaload, 1) := by decide +kernel
theorem dX0_summed_197 : decode cX0_summed 197 = .ok (.i2l, 1) := by decide +kernel
theorem dX0_summed_198 : decode cX0_summed 198 = .ok (.ladd, 1) := by decide +kernel
theorem dX0_summed_199 : decode cX0_summed 199 = .ok (.lstore_n 1, 1) := by decide +kernel
theorem dX0_summed_200 : decode cX0_summed 200 = .ok (.iinc 3 1, 3) := by decide +kernel
theorem dX0_summed_203 : decode cX0_summed 203 = .ok (.goto (-23), 3) := by decide +kernel
theorem dX0_summed_206 : decode cX0_summed 206 = .ok (.lload_n 1, 1) := by decide +kernel
theorem dX0_summed_207 : decode cX0_summed 207 = .ok (.lreturn, 1) := by decide +kernel
end
section
theorem dX6_init_0 : decode cX6_init 0 = .ok (.aload_n 0, 1) := by decide +kernel
theorem dX6_init_1 : decode cX6_init 1 = .ok (.invokespecial 1, 3) := by decide +kernel
theorem dX6_init_4 : decode cX6_init 4 = .ok (.aload_n 0, 1) := by decide +kernel
theorem dX6_init_5 : decode cX6_init 5 = .ok (.ldc 7, 2) := by decide +kernel
theorem dX6_init_7 : decode cX6_init 7 = .ok (.newarray .int, 2) := by decide +kernel
theorem dX6_init_9 : decode cX6_init 9 = .ok (.putfield 8, 3) := by decide +kernel
theorem dX6_init_12 : decode cX6_init 12 = .ok (.aload_n 0, 1) := by decide +kernel
theorem dX6_init_13 : decode cX6_init 13 = .ok (.sipush 200, 3) := by decide +kernel
theorem dX6_init_16 : decode cX6_init 16 = .ok (.newarray .long, 2) := by decide +kernel
theorem dX6_init_18 : decode cX6_init 18 = .ok (.putfield 14, 3) := by decide +kernel
theorem dX6_init_21 : decode cX6_init 21 = .ok (.aload_n 0, 1) := by decide +kernel
theorem dX6_init_22 : decode cX6_init 22 = .ok (.ldc 7, 2) := by decide +kernel
theorem dX6_init_24 : decode cX6_init 24 = .ok (.newarray .int, 2) := by decide +kernel
theorem dX6_init_26 : decode cX6_init 26 = .ok (.putfield 18, 3) := by decide +kernel
theorem dX6_init_29 : decode cX6_init 29 = .ok (.aload_n 0, 1) := by decide +kernel
theorem dX6_init_30 : decode cX6_init 30 = .ok (.sipush 200, 3) := by decide +kernel
theorem dX6_init_33 : decode cX6_init 33 = .ok (.newarray .long, 2) := by decide +kernel
theorem dX6_init_35 : decode cX6_init 35 = .ok (.putfield 21, 3) := by decide +kernel
theorem dX6_init_38 : decode cX6_init 38 = .ok (.aload_n 0, 1) := by decide +kernel
theorem dX6_init_39 : decode cX6_init 39 = .ok (.iconst (-1), 1) := by decide +kernel
theorem dX6_init_40 : decode cX6_init 40 = .ok (.putfield 24, 3) := by decide +kernel
theorem dX6_init_43 : decode cX6_init 43 = .ok (.aload_n 0, 1) := by decide +kernel
theorem dX6_init_44 : decode cX6_init 44 = .ok (.sipush 200, 3) := by decide +kernel
theorem dX6_init_47 : decode cX6_init 47 = .ok (.newarray .boolean, 2) := by decide +kernel
theorem dX6_init_49 : decode cX6_init 49 = .ok (.putfield 28, 3) := by decide +kernel
theorem dX6_init_52 : decode cX6_init 52 = .ok (.aload_n 0, 1) := by decide +kernel
theorem dX6_init_53 : decode cX6_init 53 = .ok (.getfield 8, 3) := by decide +kernel
theorem dX6_init_56 : decode cX6_init 56 = .ok (.iconst 2, 1) := by decide +kernel
theorem dX6_init_57 : decode cX6_init 57 = .ok (.iconst 1, 1) := by decide +kernel
theorem dX6_init_58 : decode cX6_init 58 = .ok (.iastore, 1) := by decide +kernel
theorem dX6_init_59 : decode cX6_init 59 = .ok (.iconst 0, 1) := by decide +kernel
theorem dX6_init_60 : decode cX6_init 60 = .ok (.istore_n 1, 1) := by decide +kernel
theorem dX6_init_61 : decode cX6_init 61 = .ok (.iload_n 1, 1) := by decide +kernel
theorem dX6_init_62 : decode cX6_init 62 = .ok (.iconst 4, 1) := by decide +kernel
theorem dX6_init_63 : decode cX6_init 63 = .ok (.if_icmp .ge 19, 3) := by decide +kernel
theorem dX6_init_66 : decode cX6_init 66 = .ok (.aload_n 0, 1) := by decide +kernel
theorem dX6_init_67 : decode cX6_init 67 = .ok (.getfield 8, 3) := by decide +kernel
theorem dX6_init_70 : decode cX6_init 70 = .ok (.bipush 7, 2) := by decide +kernel
theorem dX6_init_72 : decode cX6_init 72 = .ok (.iload_n 1, 1) := by decide +kernel
theorem dX6_init_73 : decode cX6_init 73 = .ok (.iadd, 1) := by decide +kernel
theorem dX6_init_74 : decode cX6_init 74 = .ok (.iconst (-1), 1) := by decide +kernel
theorem dX6_init_75 : decode cX6_init 75 = .ok (.iastore, 1) := by decide +kernel
theorem dX6_init_76 : decode cX6_init 76 = .ok (.iinc 1 1, 3) := by decide +kernel
theorem dX6_init_79 : decode cX6_init 79 = .ok (.goto (-18), 3) := by decide +kernel
theorem dX6_init_82 : decode cX6_init 82 = .ok (.iconst 0, 1) := by decide +kernel
theorem dX6_init_83 : decode cX6_init 83 = .ok (.istore_n 1, 1) := by decide +kernel
theorem dX6_init_84 : decode cX6_init 84 = .ok (.iload_n 1, 1) := by decide +kernel
theorem dX6_init_85 : decode cX6_init 85 = .ok (.bipush 100, 2) := by decide +kernel
theorem dX6_init_87 : decode cX6_init 87 = .ok (.if_icmp .ge 21, 3) := by decide +kernel
theorem dX6_init_90 : decode cX6_init 90 = .ok (.aload_n 0, 1) := by decide +kernel
theorem dX6_init_91 : decode cX6_init 91 = .ok (.getfield 8, 3) := by decide +kernel
theorem dX6_init_94 : decode cX6_init 94 = .ok (.sipush 240, 3) := by decide +kernel
theorem dX6_init_97 : decode cX6_init 97 = .ok (.iload_n 1, 1) := by decide +kernel
theorem dX6_init_98 : decode cX6_init 98 = .ok (.iadd, 1) := by decide +kernel
theorem dX6_init_99 : decode cX6_init 99 = .ok (.bipush (-2), 2) := by decide +kernel
theorem dX6_init_101 : decode cX6_init 101 = .ok (.iastore, 1) := by decide +kernel
theorem dX6_init_102 : decode cX6_init 102 = .ok (.iinc 1 1, 3) := by decide +kernel
theorem dX6_init_105 : decode cX6_init 105 = .ok (.goto (-21), 3) := by decide +kernel
theorem dX6_init_108 : decode cX6_init 108 = .ok (.iconst 0, 1) := by decide +kernel
theorem dX6_init_109 : decode cX6_init 109 = .ok (.istore_n 1, 1) := by decide +kernel
theorem dX6_init_110 : decode cX6_init 110 = .ok (.iload_n 1, 1) := by decide +kernel
theorem dX6_init_111 : decode cX6_init 111 = .ok (.bipush 32, 2) := by decide +kernel
theorem dX6_init_113 : decode cX6_init 113 = .ok (.if_icmp .ge 20, 3) := by decide +kernel
theorem dX6_init_116 : decode cX6_init 116 = .ok (.aload_n 0, 1) := by decide +kernel
theorem dX6_init_117 : decode cX6_init 117 = .ok (.getfield 8, 3) := by decide +kernel
theorem dX6_init_120 : decode cX6_init 120 = .ok (.sipush 340, 3) := by decide +kernel
theorem dX6_init_123 : decode cX6_init 123 = .ok (.iload_n 1, 1) := by decide +kernel
theorem dX6_init_124 : decode cX6_init 124 = .ok (.iadd, 1) := by decide +kernel
theorem dX6_init_125 : decode cX6_init 125 = .ok (.iconst (-1), 1) := by decide +kernel
theorem dX6_init_126 : decode cX6_init 126 = .ok (.iastore, 1) := by decide +kernel
theorem dX6_init_127 : decode cX6_init 127 = .ok (.iinc 1 1, 3) := by decide +kernel
theorem dX6_init_130 : decode cX6_init 130 = .ok (.goto (-20), 3) := by decide +kernel
theorem dX6_init_133 : decode cX6_init 133 = .ok (.return_, 1) := by decide +kernel
theorem dX6_isIn_0 : decode cX6_isIn 0 = .ok (.lload_n 0, 1) := by decide +kernel
theorem dX6_isIn_1 : decode cX6_isIn 1 = .ok (.lload_n 2, 1) := by decide +kernel
theorem dX6_isIn_2 : decode cX6_isIn 2 = .ok (.lcmp, 1) := by decide +kernel
theorem dX6_isIn_3 : decode cX6_isIn 3 = .ok (.ifCond .lt 14, 3) := by decide +kernel
theorem dX6_isIn_6 : decode cX6_isIn 6 = .ok (.lload_n 0, 1) := by decide +kernel
theorem dX6_isIn_7 : decode cX6_isIn 7 = .ok (.lload 4, 2) := by decide +kernel
theorem dX6_isIn_9 : decode cX6_isIn 9 = .ok (.lcmp, 1) := by decide +kernel
theorem dX6_isIn_10 : decode cX6_isIn 10 = .ok (.ifCond .gt 7, 3) := by decide +kernel
theorem dX6_isIn_13 : decode cX6_isIn 13 = .ok (.iconst 1, 1) := by decide +kernel
theorem dX6_isIn_14 : decode cX6_isIn 14 = .ok (.goto 4, 3) := by decide +kernel
theorem dX6_isIn_17 : decode cX6_isIn 17 = .ok (.iconst 0, 1) := by decide +kernel
theorem dX6_isIn_18 : decode cX6_isIn 18 = .ok (.ireturn, 1) := by decide +kernel
theorem dX6_get_0 : decode cX6_get 0 = .ok (.aload_n 0, 1) := by decide +kernel
theorem dX6_get_1 : decode cX6_get 1 = .ok (.getfield 8, 3) := by decide +kernel
theorem dX6_get_4 : decode cX6_get 4 = .ok (.sipush 400, 3) := by decide +kernel
theorem dX6_get_7 : decode cX6_get 7 = .ok (.bipush 20, 2) := by decide +kernel
theorem dX6_get_9 : decode cX6_get 9 = .ok (.iload_n 1, 1) := by decide +kernel
theorem dX6_get_10 : decode cX6_get 10 = .ok (.imul, 1) := by decide +kernel
theorem dX6_get_11 : decode cX6_get 11 = .ok (.iadd, 1) := by decide +kernel
theorem dX6_get_12 : decode cX6_get 12 = .ok (.iload_n 2, 1) := by decide +kernel
theorem dX6_get_13 : decode cX6_get 13 = .ok (.iadd, 1) := by decide +kernel
theorem dX6_get_14 : decode cX6_get 14 = .ok (.iaload, 1) := by decide +kernel
theorem dX6_get_15 : decode cX6_get 15 = .ok (.ireturn, 1) := by decide +kernel
theorem dX6_set_0 : decode cX6_set 0 = .ok (.aload_n 0, 1) := by decide +kernel
theorem dX6_set_1 : decode cX6_set 1 = .ok (.getfield 8, 3) := by decide +kernel
theorem dX6_set_4 : decode cX6_set 4 = .ok (.sipush 400, 3) := by decide +kernel
theorem dX6_set_7 : decode cX6_set 7 = .ok (.bipush 20, 2) := by decide +kernel
theorem dX6_set_9 : decode cX6_set 9 = .ok (.iload_n 1, 1) := by decide +kernel
theorem dX6_set_10 : decode cX6_set 10 = .ok (.imul, 1) := by decide +kernel
theorem dX6_set_11 : decode cX6_set 11 = .ok (.iadd, 1) := by decide +kernel
theorem dX6_set_12 : decode cX6_set 12 = .ok (.iload_n 2, 1) := by decide +kernel
theorem dX6_set_13 : decode cX6_set 13 = .ok (.iadd, 1) := by decide +kernel
theorem dX6_set_14 : decode cX6_set 14 = .ok (.iload_n 3, 1) := by decide +kernel
theorem dX6_set_15 : decode cX6_set 15 = .ok (.iastore, 1) := by decide +kernel
theorem dX6_set_16 : decode cX6_set 16 = .ok (.return_, 1) := by decide +kernel
theorem dX6_isTask_0 : decode cX6_isTask 0 = .ok (.iload_n 1, 1) := by decide +kernel
theorem dX6_isTask_1 : decode cX6_isTask 1 = .ok (.i2l, 1) := by decide +kernel
theorem dX6_isTask_2 : decode cX6_isTask 2 = .ok (.lconst 0, 1) := by decide +kernel
theorem dX6_isTask_3 : decode cX6_isTask 3 = .ok (.aload_n 0, 1) := by decide +kernel
theorem dX6_isTask_4 : decode cX6_isTask 4 = .ok (.getfield 8, 3) := by decide +kernel
theorem dX6_isTask_7 : decode cX6_isTask 7 = .ok (.iconst 1, 1) := by decide +kernel
theorem dX6_isTask_8 : decode cX6_isTask 8 = .ok (.iaload, 1) := by decide +kernel
theorem dX6_isTask_9 : decode cX6_isTask 9 = .ok (.iconst 1, 1) := by decide +kernel
theorem dX6_isTask_10 : decode cX6_isTask 10 = .ok (.isub, 1) := by decide +kernel
theorem dX6_isTask_11 : decode cX6_isTask 11 = .ok (.i2l, 1) := by decide +kernel
theorem dX6_isTask_12 : decode cX6_isTask 12 = .ok (.invokestatic 32, 3) := by decide +kernel
theorem dX6_isTask_15 : decode cX6_isTask 15 = .ok (.ireturn, 1) := by decide +kernel
theorem dX6_isDue_0 : decode cX6_isDue 0 = .ok (.aload_n 0, 1) := by decide +kernel
theorem dX6_isDue_1 : decode cX6_isDue 1 = .ok (.iload_n 1, 1) := by decide +kernel
theorem dX6_isDue_2 : decode cX6_isDue 2 = .ok (.iconst 0, 1) := by decide +kernel
theorem dX6_isDue_3 : decode cX6_isDue 3 = .ok (.invokevirtual 36, 3) := by decide +kernel
theorem dX6_isDue_6 : decode cX6_isDue 6 = .ok (.iconst 1, 1) := by decide +kernel
theorem dX6_isDue_7 : decode cX6_isDue 7 = .ok (.if_icmp .eq 13, 3) := by decide +kernel
theorem dX6_isDue_10 : decode cX6_isDue 10 = .ok (.aload_n 0, 1) := by decide +kernel
theorem dX6_isDue_11 : decode cX6_isDue 11 = .ok (.iload_n 1, 1) := by decide +kernel
theorem dX6_isDue_12 : decode cX6_isDue 12 = .ok (.iconst 0, 1) := by decide +kernel
theorem dX6_isDue_13 : decode cX6_isDue 13 = .ok (.invokevirtual 36, 3) := by decide +kernel
theorem dX6_isDue_16 : decode cX6_isDue 16 = .ok (.iconst 2, 1) := by decide +kernel
theorem dX6_isDue_17 : decode cX6_isDue 17 = .ok (.if_icmp .ne 7, 3) := by decide +kernel
theorem dX6_isDue_20 : decode cX6_isDue 20 = .ok (.iconst 1, 1) := by decide +kernel
theorem dX6_isDue_21 : decode cX6_isDue 21 = .ok (.goto 4, 3) := by decide +kernel
theorem dX6_isDue_24 : decode cX6_isDue 24 = .ok (.iconst 0, 1) := by decide +kernel
theorem dX6_isDue_25 : decode cX6_isDue 25 = .ok (.ireturn, 1) := by decide +kernel
theorem dX6_body_0 : decode cX6_body 0 = .ok (.aload_n 0, 1) := by decide +kernel
theorem dX6_body_1 : decode cX6_body 1 = .ok (.getfield 8, 3) := by decide +kernel
theorem dX6_body_4 : decode cX6_body 4 = .ok (.sipush 220, 3) := by decide +kernel
theorem dX6_body_7 : decode cX6_body 7 = .ok (.iload_n 1, 1) := by decide +kernel
theorem dX6_body_8 : decode cX6_body 8 = .ok (.iadd, 1) := by decide +kernel
theorem dX6_body_9 : decode cX6_body 9 = .ok (.dup2, 1) := by decide +kernel
theorem dX6_body_10 : decode cX6_body 10 = .ok (.iaload, 1) := by decide +kernel
theorem dX6_body_11 : decode cX6_body 11 = .ok (.iconst 1, 1) := by decide +kernel
theorem dX6_body_12 : decode cX6_body 12 = .ok (.iadd, 1) := by decide +kernel
theorem dX6_body_13 : decode cX6_body 13 = .ok (.iastore, 1) := by decide +kernel
theorem dX6_body_14 : decode cX6_body 14 = .ok (.return_, 1) := by decide +kernel
theorem dX6_isRefused_0 : decode cX6_isRefused 0 = .ok (.aload_n 0, 1) := by decide +kernel
theorem dX6_isRefused_1 : decode cX6_isRefused 1 = .ok (.iload_n 1, 1) := by decide +kernel
theorem dX6_isRefused_2 : decode cX6_isRefused 2 = .ok (.ifCond .le 7, 3) := by decide +kernel
theorem dX6_isRefused_5 : decode cX6_isRefused 5 = .ok (.iload_n 1, 1) := by decide +kernel
theorem dX6_isRefused_6 : decode cX6_isRefused 6 = .ok (.goto 21, 3) := by decide +kernel
theorem dX6_isRefused_9 : decode cX6_isRefused 9 = .ok (.aload_n 0, 1) := by decide +kernel
theorem dX6_isRefused_10 : decode cX6_isRefused 10 = .ok (.getfield 8, 3) := by decide +kernel
theorem dX6_isRefused_13 : decode cX6_isRefused 13 = .ok (.bipush 6, 2) := by decide +kernel
theorem dX6_isRefused_15 : decode cX6_isRefused 15 = .ok (.iaload, 1) := by decide +kernel
theorem dX6_isRefused_16 : decode cX6_isRefused 16 = .ok (.sipush 1000, 3) := by decide +kernel
theorem dX6_isRefused_19 : decode cX6_isRefused 19 = .ok (.if_icmp .ne 7, 3) := by decide +kernel
theorem dX6_isRefused_22 : decode cX6_isRefused 22 = .ok (.iconst 5, 1) := by decide +kernel
theorem dX6_isRefused_23 : decode cX6_isRefused 23 = .ok (.goto 4, 3) := by decide +kernel
theorem dX6_isRefused_26 : decode cX6_isRefused 26 = .ok (.iconst 0, 1) := by decide +kernel
theorem dX6_isRefused_27 : decode cX6_isRefused 27 = .ok (.putfield 40, 3) := by decide +kernel
theorem dX6_isRefused_30 : decode cX6_isRefused 30 = .ok (.aload_n 0, 1) := by decide +kernel
theorem dX6_isRefused_31 : decode cX6_isRefused 31 = .ok (.getfield 40, 3) := by decide +kernel
theorem dX6_isRefused_34 : decode cX6_isRefused 34 = .ok (.ifCond .ne 14, 3) := by decide +kernel
theorem dX6_isRefused_37 : decode cX6_isRefused 37 = .ok (.aload_n 0, 1) := by decide +kernel
theorem dX6_isRefused_38 : decode cX6_isRefused 38 = .ok (.getfield 8, 3) := by decide +kernel
theorem dX6_isRefused_41 : decode cX6_isRefused 41 = .ok (.bipush 6, 2) := by decide +kernel
theorem dX6_isRefused_43 : decode cX6_isRefused 43 = .ok (.dup2, 1) := by decide +kernel
theorem dX6_isRefused_44 : decode cX6_isRefused 44 = .ok (.iaload, 1) := by decide +kernel
theorem dX6_isRefused_45 : decode cX6_isRefused 45 = .ok (.iconst 1, 1) := by decide +kernel
theorem dX6_isRefused_46 : decode cX6_isRefused 46 = .ok (.iadd, 1) := by decide +kernel
theorem dX6_isRefused_47 : decode cX6_isRefused 47 = .ok (.iastore, 1) := by decide +kernel
theorem dX6_isRefused_48 : decode cX6_isRefused 48 = .ok (.aload_n 0, 1) := by decide +kernel
theorem dX6_isRefused_49 : decode cX6_isRefused 49 = .ok (.getfield 40, 3) := by decide +kernel
theorem dX6_isRefused_52 : decode cX6_isRefused 52 = .ok (.ifCond .le 7, 3) := by decide +kernel
theorem dX6_isRefused_55 : decode cX6_isRefused 55 = .ok (.iconst 1, 1) := by decide +kernel
theorem dX6_isRefused_56 : decode cX6_isRefused 56 = .ok (.goto 4, 3) := by decide +kernel
theorem dX6_isRefused_59 : decode cX6_isRefused 59 = .ok (.iconst 0, 1) := by decide +kernel
theorem dX6_isRefused_60 : decode cX6_isRefused 60 = .ok (.ireturn, 1) := by decide +kernel
theorem dX6_classOf_0 : decode cX6_classOf 0 = .ok (.aload_n 0, 1) := by decide +kernel
theorem dX6_classOf_1 : decode cX6_classOf 1 = .ok (.iload_n 1, 1) := by decide +kernel
theorem dX6_classOf_2 : decode cX6_classOf 2 = .ok (.invokevirtual 43, 3) := by decide +kernel
theorem dX6_classOf_5 : decode cX6_classOf 5 = .ok (.ifCond .eq 17, 3) := by decide +kernel
theorem dX6_classOf_8 : decode cX6_classOf 8 = .ok (.aload_n 0, 1) := by decide +kernel
theorem dX6_classOf_9 : decode cX6_classOf 9 = .ok (.iload_n 1, 1) := by decide +kernel
theorem dX6_classOf_10 : decode cX6_classOf 10 = .ok (.bipush 13, 2) := by decide +kernel
theorem dX6_classOf_12 : decode cX6_classOf 12 = .ok (.invokevirtual 36, 3) := by decide +kernel
theorem dX6_classOf_15 : decode cX6_classOf 15 = .ok (.ifCond .le 7, 3) := by decide +kernel
theorem dX6_classOf_18 : decode cX6_classOf 18 = .ok (.iconst 0, 1) := by decide +kernel
theorem dX6_classOf_19 : decode cX6_classOf 19 = .ok (.goto 4, 3) := by decide +kernel
theorem dX6_classOf_22 : decode cX6_classOf 22 = .ok (.iconst 1, 1) := by decide +kernel
theorem dX6_classOf_23 : decode cX6_classOf 23 = .ok (.ireturn, 1) := by decide +kernel
theorem dX6_keyOf_0 : decode cX6_keyOf 0 = .ok (.aload_n 0, 1) := by decide +kernel
theorem dX6_keyOf_1 : decode cX6_keyOf 1 = .ok (.iload_n 1, 1) := by decide +kernel
theorem dX6_keyOf_2 : decode cX6_keyOf 2 = .ok (.invokevirtual 47, 3) := by decide +kernel
theorem dX6_keyOf_5 : decode cX6_keyOf 5 = .ok (.ifCond .ne 14, 3) := by decide +kernel
theorem dX6_keyOf_8 : decode cX6_keyOf 8 = .ok (.aload_n 0, 1) := by decide +kernel
theorem dX6_keyOf_9 : decode cX6_keyOf 9 = .ok (.iload_n 1, 1) := by decide +kernel
theorem dX6_keyOf_10 : decode cX6_keyOf 10 = .ok (.bipush 12, 2) := by decide +kernel
theorem dX6_keyOf_12 : decode cX6_keyOf 12 = .ok (.invokevirtual 36, 3) := by decide +kernel
theorem dX6_keyOf_15 : decode cX6_keyOf 15 = .ok (.i2l, 1) := by decide +kernel
theorem dX6_keyOf_16 : decode cX6_keyOf 16 = .ok (.goto 9, 3) := by decide +kernel
theorem dX6_keyOf_19 : decode cX6_keyOf 19 = .ok (.aload_n 0, 1) := by decide +kernel
theorem dX6_keyOf_20 : decode cX6_keyOf 20 = .ok (.getfield 14, 3) := by decide +kernel
theorem dX6_keyOf_23 : decode cX6_keyOf 23 = .ok (.iload_n 1, 1) := by decide +kernel
theorem dX6_keyOf_24 : decode cX6_keyOf 24 = .ok (.laload, 1) := by decide +kernel
theorem dX6_keyOf_25 : decode cX6_keyOf 25 = .ok (.lreturn, 1) := by decide +kernel
theorem dX6_isAhead_0 : decode cX6_isAhead 0 = .ok (.aload_n 0, 1) := by decide +kernel
theorem dX6_isAhead_1 : decode cX6_isAhead 1 = .ok (.iload_n 1, 1) := by decide +kernel
theorem dX6_isAhead_2 : decode cX6_isAhead 2 = .ok (.invokevirtual 47, 3) := by decide +kernel
theorem dX6_isAhead_5 : decode cX6_isAhead 5 = .ok (.aload_n 0, 1) := by decide +kernel
theorem dX6_isAhead_6 : decode cX6_isAhead 6 = .ok (.iload_n 2, 1) := by decide +kernel
theorem dX6_isAhead_7 : decode cX6_isAhead 7 = .ok (.invokevirtual 47, 3) := by decide +kernel
theorem dX6_isAhead_10 : decode cX6_isAhead 10 = .ok (.if_icmp .eq 22, 3) := by decide +kernel
theorem dX6_isAhead_13 : decode cX6_isAhead 13 = .ok (.aload_n 0, 1) := by decide +kernel
theorem dX6_isAhead_14 : decode cX6_isAhead 14 = .ok (.iload_n 1, 1) := by decide +kernel
theorem dX6_isAhead_15 : decode cX6_isAhead 15 = .ok (.invokevirtual 47, 3) := by decide +kernel
theorem dX6_isAhead_18 : decode cX6_isAhead 18 = .ok (.aload_n 0, 1) := by decide +kernel
theorem dX6_isAhead_19 : decode cX6_isAhead 19 = .ok (.iload_n 2, 1) := by decide +kernel
theorem dX6_isAhead_20 : decode cX6_isAhead 20 = .ok (.invokevirtual 47, 3) := by decide +kernel
theorem dX6_isAhead_23 : decode cX6_isAhead 23 = .ok (.if_icmp .ge 7, 3) := by decide +kernel
theorem dX6_isAhead_26 : decode cX6_isAhead 26 = .ok (.iconst 1, 1) := by decide +kernel
theorem dX6_isAhead_27 : decode cX6_isAhead 27 = .ok (.goto 4, 3) := by decide +kernel
theorem dX6_isAhead_30 : decode cX6_isAhead 30 = .ok (.iconst 0, 1) := by decide +kernel
theorem dX6_isAhead_31 : decode cX6_isAhead 31 = .ok (.ireturn, 1) := by decide +kernel
theorem dX6_isAhead_32 : decode cX6_isAhead 32 = .ok (.aload_n 0, 1) := by decide +kernel
theorem dX6_isAhead_33 : decode cX6_isAhead 33 = .ok (.iload_n 1, 1) := by decide +kernel
theorem dX6_isAhead_34 : decode cX6_isAhead 34 = .ok (.invokevirtual 51, 3) := by decide +kernel
theorem dX6_isAhead_37 : decode cX6_isAhead 37 = .ok (.aload_n 0, 1) := by decide +kernel
theorem dX6_isAhead_38 : decode cX6_isAhead 38 = .ok (.iload_n 2, 1) := by decide +kernel
theorem dX6_isAhead_39 : decode cX6_isAhead 39 = .ok (.invokevirtual 51, 3) := by decide +kernel
theorem dX6_isAhead_42 : decode cX6_isAhead 42 = .ok (.lcmp, 1) := by decide +kernel
theorem dX6_isAhead_43 : decode cX6_isAhead 43 = .ok (.ifCond .eq 25, 3) := by decide +kernel
theorem dX6_isAhead_46 : decode cX6_isAhead 46 = .ok (.aload_n 0, 1) := by decide +kernel
theorem dX6_isAhead_47 : decode cX6_isAhead 47 = .ok (.iload_n 1, 1) := by decide +kernel
theorem dX6_isAhead_48 : decode cX6_isAhead 48 = .ok (.invokevirtual 51, 3) := by decide +kernel
theorem dX6_isAhead_51 : decode cX6_isAhead 51 = .ok (.aload_n 0, 1) := by decide +kernel
theorem dX6_isAhead_52 : decode cX6_isAhead 52 = .ok (.iload_n 2, 1) := by decide +kernel
theorem dX6_isAhead_53 : decode cX6_isAhead 53 = .ok (.invokevirtual 51, 3) := by decide +kernel
theorem dX6_isAhead_56 : decode cX6_isAhead 56 = .ok (.lcmp, 1) := by decide +kernel
theorem dX6_isAhead_57 : decode cX6_isAhead 57 = .ok (.ifCond .ge 7, 3) := by decide +kernel
theorem dX6_isAhead_60 : decode cX6_isAhead 60 = .ok (.iconst 1, 1) := by decide +kernel
theorem dX6_isAhead_61 : decode cX6_isAhead 61 = .ok (.goto 17, 3) := by decide +kernel
theorem dX6_isAhead_64 : decode cX6_isAhead 64 = .ok (.iconst 0, 1) := by decide +kernel
theorem dX6_isAhead_65 : decode cX6_isAhead 65 = .ok (.goto 13, 3) := by decide +kernel
theorem dX6_isAhead_68 : decode cX6_isAhead 68 = .ok (.iload_n 1, 1) := by decide +kernel
theorem dX6_isAhead_69 : decode cX6_isAhead 69 = .ok (.iload_n 2, 1) := by decide +kernel
theorem dX6_isAhead_70 : decode cX6_isAhead 70 = .ok (.if_icmp .ge 7, 3) := by decide +kernel
theorem dX6_isAhead_73 : decode cX6_isAhead 73 = .ok (.iconst 1, 1) := by decide +kernel
theorem dX6_isAhead_74 : decode cX6_isAhead 74 = .ok (.goto 4, 3) := by decide +kernel
theorem dX6_isAhead_77 : decode cX6_isAhead 77 = .ok (.iconst 0, 1) := by decide +kernel
theorem dX6_isAhead_78 : decode cX6_isAhead 78 = .ok (.ireturn, 1) := by decide +kernel
theorem dX6_standingOf_0 : decode cX6_standingOf 0 = .ok (.iload_n 1, 1) := by decide +kernel
theorem dX6_standingOf_1 : decode cX6_standingOf 1 = .ok (.istore_n 2, 1) := by decide +kernel
theorem dX6_standingOf_2 : decode cX6_standingOf 2 = .ok (.iconst 0, 1) := by decide +kernel
theorem dX6_standingOf_3 : decode cX6_standingOf 3 = .ok (.istore_n 3, 1) := by decide +kernel
theorem dX6_standingOf_4 : decode cX6_standingOf 4 = .ok (.iload_n 3, 1) := by decide +kernel
theorem dX6_standingOf_5 : decode cX6_standingOf 5 = .ok (.aload_n 0, 1) := by decide +kernel
theorem dX6_standingOf_6 : decode cX6_standingOf 6 = .ok (.getfield 8, 3) := by decide +kernel
theorem dX6_standingOf_9 : decode cX6_standingOf 9 = .ok (.iconst 1, 1) := by decide +kernel
theorem dX6_standingOf_10 : decode cX6_standingOf 10 = .ok (.iaload, 1) := by decide +kernel
theorem dX6_standingOf_11 : decode cX6_standingOf 11 = .ok (.if_icmp .ge 95, 3) := by decide +kernel
theorem dX6_standingOf_14 : decode cX6_standingOf 14 = .ok (.iload_n 3, 1) := by decide +kernel
theorem dX6_standingOf_15 : decode cX6_standingOf 15 = .ok (.istore 4, 2) := by decide +kernel
theorem dX6_standingOf_17 : decode cX6_standingOf 17 = .ok (.iconst 0, 1) := by decide +kernel
theorem dX6_standingOf_18 : decode cX6_standingOf 18 = .ok (.istore 5, 2) := by decide +kernel
theorem dX6_standingOf_20 : decode cX6_standingOf 20 = .ok (.iload 5, 2) := by decide +kernel
theorem dX6_standingOf_22 : decode cX6_standingOf 22 = .ok (.aload_n 0, 1) := by decide +kernel
theorem dX6_standingOf_23 : decode cX6_standingOf 23 = .ok (.getfield 8, 3) := by decide +kernel
theorem dX6_standingOf_26 : decode cX6_standingOf 26 = .ok (.iconst 1, 1) := by decide +kernel
theorem dX6_standingOf_27 : decode cX6_standingOf 27 = .ok (.iaload, 1) := by decide +kernel
theorem dX6_standingOf_28 : decode cX6_standingOf 28 = .ok (.if_icmp .gt 55, 3) := by decide +kernel
theorem dX6_standingOf_31 : decode cX6_standingOf 31 = .ok (.iload 4, 2) := by decide +kernel
theorem dX6_standingOf_33 : decode cX6_standingOf 33 = .ok (.ifCond .lt 50, 3) := by decide +kernel
theorem dX6_standingOf_36 : decode cX6_standingOf 36 = .ok (.iload 4, 2) := by decide +kernel
theorem dX6_standingOf_38 : decode cX6_standingOf 38 = .ok (.iload_n 1, 1) := by decide +kernel
theorem dX6_standingOf_39 : decode cX6_standingOf 39 = .ok (.if_icmp .eq 44, 3) := by decide +kernel
theorem dX6_standingOf_42 : decode cX6_standingOf 42 = .ok (.aload_n 0, 1) := by decide +kernel
theorem dX6_standingOf_43 : decode cX6_standingOf 43 = .ok (.iload 4, 2) := by decide +kernel
theorem dX6_standingOf_45 : decode cX6_standingOf 45 = .ok (.bipush 6, 2) := by decide +kernel
theorem dX6_standingOf_47 : decode cX6_standingOf 47 = .ok (.invokevirtual 36, 3) := by decide +kernel
theorem dX6_standingOf_50 : decode cX6_standingOf 50 = .ok (.iconst 1, 1) := by decide +kernel
theorem dX6_standingOf_51 : decode cX6_standingOf 51 = .ok (.if_icmp .ne 23, 3) := by decide +kernel
theorem dX6_standingOf_54 : decode cX6_standingOf 54 = .ok (.aload_n 0, 1) := by decide +kernel
theorem dX6_standingOf_55 : decode cX6_standingOf 55 = .ok (.getfield 8, 3) := by decide +kernel
theorem dX6_standingOf_58 : decode cX6_standingOf 58 = .ok (.sipush 240, 3) := by decide +kernel
theorem dX6_standingOf_61 : decode cX6_standingOf 61 = .ok (.aload_n 0, 1) := by decide +kernel
theorem dX6_standingOf_62 : decode cX6_standingOf 62 = .ok (.iload 4, 2) := by decide +kernel
theorem dX6_standingOf_64 : decode cX6_standingOf 64 = .ok (.bipush 7, 2) := by decide +kernel
theorem dX6_standingOf_66 : decode cX6_standingOf 66 = .ok (.invokevirtual 36, 3) := by decide +kernel
theorem dX6_standingOf_69 : decode cX6_standingOf 69 = .ok (.iadd, 1) := by decide +kernel
theorem dX6_standingOf_70 : decode cX6_standingOf 70 = .ok (.iaload, 1) := by decide +kernel
theorem dX6_standingOf_71 : decode cX6_standingOf 71 = .ok (.goto 4, 3) := by decide +kernel
theorem dX6_standingOf_74 : decode cX6_standingOf 74 = .ok (.iconst (-1), 1) := by decide +kernel
theorem dX6_standingOf_75 : decode cX6_standingOf 75 = .ok (.istore 4, 2) := by decide +kernel
theorem dX6_standingOf_77 : decode cX6_standingOf 77 = .ok (.iinc 5 1, 3) := by decide +kernel
theorem dX6_standingOf_80 : decode cX6_standingOf 80 = .ok (.goto (-60), 3) := by decide +kernel
theorem dX6_standingOf_83 : decode cX6_standingOf 83 = .ok (.iload 4, 2) := by decide +kernel
theorem dX6_standingOf_85 : decode cX6_standingOf 85 = .ok (.iload_n 1, 1) := by decide +kernel
theorem dX6_standingOf_86 : decode cX6_standingOf 86 = .ok (.if_icmp .ne 14, 3) := by decide +kernel
theorem dX6_standingOf_89 : decode cX6_standingOf 89 = .ok (.aload_n 0, 1) := by decide +kernel
theorem dX6_standingOf_90 : decode cX6_standingOf 90 = .ok (.iload_n 3, 1) := by decide +kernel
theorem dX6_standingOf_91 : decode cX6_standingOf 91 = .ok (.iload_n 2, 1) := by decide +kernel
theorem dX6_standingOf_92 : decode cX6_standingOf 92 = .ok (.invokevirtual 55, 3) := by decide +kernel
theorem dX6_standingOf_95 : decode cX6_standingOf 95 = .ok (.ifCond .eq 5, 3) := by decide +kernel
theorem dX6_standingOf_98 : decode cX6_standingOf 98 = .ok (.iload_n 3, 1) := by decide +kernel
theorem dX6_standingOf_99 : decode cX6_standingOf 99 = .ok (.istore_n 2, 1) := by decide +kernel
theorem dX6_standingOf_100 : decode cX6_standingOf 100 = .ok (.iinc 3 1, 3) := by decide +kernel
theorem dX6_standingOf_103 : decode cX6_standingOf 103 = .ok (.goto (-99), 3) := by decide +kernel
theorem dX6_standingOf_106 : decode cX6_standingOf 106 = .ok (.iload_n 2, 1) := by decide +kernel
theorem dX6_standingOf_107 : decode cX6_standingOf 107 = .ok (.ireturn, 1) := by decide +kernel
theorem dX6_waits_0 : decode cX6_waits 0 = .ok (.aload_n 0, 1) := by decide +kernel
theorem dX6_waits_1 : decode cX6_waits 1 = .ok (.iload_n 1, 1) := by decide +kernel
theorem dX6_waits_2 : decode cX6_waits 2 = .ok (.bipush 6, 2) := by decide +kernel
theorem dX6_waits_4 : decode cX6_waits 4 = .ok (.iload_n 2, 1) := by decide +kernel
theorem dX6_waits_5 : decode cX6_waits 5 = .ok (.invokevirtual 59, 3) := by decide +kernel
theorem dX6_waits_8 : decode cX6_waits 8 = .ok (.aload_n 0, 1) := by decide +kernel
theorem dX6_waits_9 : decode cX6_waits 9 = .ok (.iload_n 1, 1) := by decide +kernel
theorem dX6_waits_10 : decode cX6_waits 10 = .ok (.bipush 7, 2) := by decide +kernel
theorem dX6_waits_12 : decode cX6_waits 12 = .ok (.iload_n 3, 1) := by decide +kernel
theorem dX6_waits_13 : decode cX6_waits 13 = .ok (.invokevirtual 59, 3) := by decide +kernel
theorem dX6_waits_16 : decode cX6_waits 16 = .ok (.aload_n 0, 1) := by decide +kernel
theorem dX6_waits_17 : decode cX6_waits 17 = .ok (.iload_n 1, 1) := by decide +kernel
theorem dX6_waits_18 : decode cX6_waits 18 = .ok (.bipush 8, 2) := by decide +kernel
theorem dX6_waits_20 : decode cX6_waits 20 = .ok (.iload 4, 2) := by decide +kernel
theorem dX6_waits_22 : decode cX6_waits 22 = .ok (.invokevirtual 59, 3) := by decide +kernel
theorem dX6_waits_25 : decode cX6_waits 25 = .ok (.aload_n 0, 1) := by decide +kernel
theorem dX6_waits_26 : decode cX6_waits 26 = .ok (.iload_n 1, 1) := by decide +kernel
theorem dX6_waits_27 : decode cX6_waits 27 = .ok (.iconst 0, 1) := by decide +kernel
theorem dX6_waits_28 : decode cX6_waits 28 = .ok (.invokevirtual 36, 3) := by decide +kernel
theorem dX6_waits_31 : decode cX6_waits 31 = .ok (.istore 5, 2) := by decide +kernel
theorem dX6_waits_33 : decode cX6_waits 33 = .ok (.iload 5, 2) := by decide +kernel
theorem dX6_waits_35 : decode cX6_waits 35 = .ok (.iconst 3, 1) := by decide +kernel
theorem dX6_waits_36 : decode cX6_waits 36 = .ok (.if_icmp .eq 9, 3) := by decide +kernel
theorem dX6_waits_39 : decode cX6_waits 39 = .ok (.iload 5, 2) := by decide +kernel
theorem dX6_waits_41 : decode cX6_waits 41 = .ok (.iconst 4, 1) := by decide +kernel
theorem dX6_waits_42 : decode cX6_waits 42 = .ok (.if_icmp .ne 8, 3) := by decide +kernel
theorem dX6_waits_45 : decode cX6_waits 45 = .ok (.aload_n 0, 1) := by decide +kernel
theorem dX6_waits_46 : decode cX6_waits 46 = .ok (.iconst 4, 1) := by decide +kernel
theorem dX6_waits_47 : decode cX6_waits 47 = .ok (.invokevirtual 63, 3) := by decide +kernel
theorem dX6_waits_50 : decode cX6_waits 50 = .ok (.iload 5, 2) := by decide +kernel
theorem dX6_waits_52 : decode cX6_waits 52 = .ok (.iconst 2, 1) := by decide +kernel
theorem dX6_waits_53 : decode cX6_waits 53 = .ok (.if_icmp .ne 8, 3) := by decide +kernel
theorem dX6_waits_56 : decode cX6_waits 56 = .ok (.aload_n 0, 1) := by decide +kernel
theorem dX6_waits_57 : decode cX6_waits 57 = .ok (.iconst 5, 1) := by decide +kernel
theorem dX6_waits_58 : decode cX6_waits 58 = .ok (.invokevirtual 63, 3) := by decide +kernel
theorem dX6_waits_61 : decode cX6_waits 61 = .ok (.aload_n 0, 1) := by decide +kernel
theorem dX6_waits_62 : decode cX6_waits 62 = .ok (.iconst 3, 1) := by decide +kernel
theorem dX6_waits_63 : decode cX6_waits 63 = .ok (.invokevirtual 63, 3) := by decide +kernel
theorem dX6_waits_66 : decode cX6_waits 66 = .ok (.return_, 1) := by decide +kernel
theorem dX6_isReadyNow_0 : decode cX6_isReadyNow 0 = .ok (.aload_n 0, 1) := by decide +kernel
theorem dX6_isReadyNow_1 : decode cX6_isReadyNow 1 = .ok (.iload_n 1, 1) := by decide +kernel
theorem dX6_isReadyNow_2 : decode cX6_isReadyNow 2 = .ok (.bipush 6, 2) := by decide +kernel
theorem dX6_isReadyNow_4 : decode cX6_isReadyNow 4 = .ok (.iconst 0, 1) := by decide +kernel
theorem dX6_isReadyNow_5 : decode cX6_isReadyNow 5 = .ok (.invokevirtual 59, 3) := by decide +kernel
theorem dX6_isReadyNow_8 : decode cX6_isReadyNow 8 = .ok (.aload_n 0, 1) := by decide +kernel
theorem dX6_isReadyNow_9 : decode cX6_isReadyNow 9 = .ok (.iload_n 1, 1) := by decide +kernel
theorem dX6_isReadyNow_10 : decode cX6_isReadyNow 10 = .ok (.bipush 7, 2) := by decide +kernel
theorem dX6_isReadyNow_12 : decode cX6_isReadyNow 12 = .ok (.iconst (-1), 1) := by decide +kernel
theorem dX6_isReadyNow_13 : decode cX6_isReadyNow 13 = .ok (.invokevirtual 59, 3) := by decide +kernel
theorem dX6_isReadyNow_16 : decode cX6_isReadyNow 16 = .ok (.aload_n 0, 1) := by decide +kernel
theorem dX6_isReadyNow_17 : decode cX6_isReadyNow 17 = .ok (.iload_n 1, 1) := by decide +kernel
theorem dX6_isReadyNow_18 : decode cX6_isReadyNow 18 = .ok (.bipush 8, 2) := by decide +kernel
theorem dX6_isReadyNow_20 : decode cX6_isReadyNow 20 = .ok (.iconst (-1), 1) := by decide +kernel
theorem dX6_isReadyNow_21 : decode cX6_isReadyNow 21 = .ok (.invokevirtual 59, 3) := by decide +kernel
theorem dX6_isReadyNow_24 : decode cX6_isReadyNow 24 = .ok (.return_, 1) := by decide +kernel
theorem dX6_passes_0 : decode cX6_passes 0 = .ok (.iconst (-1), 1) := by decide +kernel
theorem dX6_passes_1 : decode cX6_passes 1 = .ok (.istore_n 2, 1) := by decide +kernel
theorem dX6_passes_2 : decode cX6_passes 2 = .ok (.iconst (-1), 1) := by decide +kernel
theorem dX6_passes_3 : decode cX6_passes 3 = .ok (.istore_n 3, 1) := by decide +kernel
theorem dX6_passes_4 : decode cX6_passes 4 = .ok (.iconst 0, 1) := by decide +kernel
theorem dX6_passes_5 : decode cX6_passes 5 = .ok (.istore 4, 2) := by decide +kernel
theorem dX6_passes_7 : decode cX6_passes 7 = .ok (.iload 4, 2) := by decide +kernel
theorem dX6_passes_9 : decode cX6_passes 9 = .ok (.aload_n 0, 1) := by decide +kernel
theorem dX6_passes_10 : decode cX6_passes 10 = .ok (.getfield 8, 3) := by decide +kernel
theorem dX6_passes_13 : decode cX6_passes 13 = .ok (.iconst 1, 1) := by decide +kernel
theorem dX6_passes_14 : decode cX6_passes 14 = .ok (.iaload, 1) := by decide +kernel
theorem dX6_passes_15 : decode cX6_passes 15 = .ok (.if_icmp .ge 64, 3) := by decide +kernel
theorem dX6_passes_18 : decode cX6_passes 18 = .ok (.aload_n 0, 1) := by decide +kernel
theorem dX6_passes_19 : decode cX6_passes 19 = .ok (.iload 4, 2) := by decide +kernel
theorem dX6_passes_21 : decode cX6_passes 21 = .ok (.bipush 6, 2) := by decide +kernel
theorem dX6_passes_23 : decode cX6_passes 23 = .ok (.invokevirtual 36, 3) := by decide +kernel
theorem dX6_passes_26 : decode cX6_passes 26 = .ok (.iconst 1, 1) := by decide +kernel
theorem dX6_passes_27 : decode cX6_passes 27 = .ok (.if_icmp .ne 46, 3) := by decide +kernel
theorem dX6_passes_30 : decode cX6_passes 30 = .ok (.aload_n 0, 1) := by decide +kernel
theorem dX6_passes_31 : decode cX6_passes 31 = .ok (.iload 4, 2) := by decide +kernel
theorem dX6_passes_33 : decode cX6_passes 33 = .ok (.bipush 7, 2) := by decide +kernel
theorem dX6_passes_35 : decode cX6_passes 35 = .ok (.invokevirtual 36, 3) := by decide +kernel
theorem dX6_passes_38 : decode cX6_passes 38 = .ok (.iload_n 1, 1) := by decide +kernel
theorem dX6_passes_39 : decode cX6_passes 39 = .ok (.if_icmp .eq 6, 3) := by decide +kernel
theorem dX6_passes_42 : decode cX6_passes 42 = .ok (.goto 31, 3) := by decide +kernel
theorem dX6_passes_45 : decode cX6_passes 45 = .ok (.aload_n 0, 1) := by decide +kernel
theorem dX6_passes_46 : decode cX6_passes 46 = .ok (.iload 4, 2) := by decide +kernel
theorem dX6_passes_48 : decode cX6_passes 48 = .ok (.invokevirtual 67, 3) := by decide +kernel
theorem dX6_passes_51 : decode cX6_passes 51 = .ok (.istore 5, 2) := by decide +kernel
theorem dX6_passes_53 : decode cX6_passes 53 = .ok (.iload_n 2, 1) := by decide +kernel
theorem dX6_passes_54 : decode cX6_passes 54 = .ok (.ifCond .lt 13, 3) := by decide +kernel
theorem dX6_passes_57 : decode cX6_passes 57 = .ok (.aload_n 0, 1) := by decide +kernel
theorem dX6_passes_58 : decode cX6_passes 58 = .ok (.iload 5, 2) := by decide +kernel
theorem dX6_passes_60 : decode cX6_passes 60 = .ok (.iload_n 3, 1) := by decide +kernel
theorem dX6_passes_61 : decode cX6_passes 61 = .ok (.invokevirtual 55, 3) := by decide +kernel
theorem dX6_passes_64 : decode cX6_passes 64 = .ok (.ifCond .eq 9, 3) := by decide +kernel
theorem dX6_passes_67 : decode cX6_passes 67 = .ok (.iload 4, 2) := by decide +kernel
theorem dX6_passes_69 : decode cX6_passes 69 = .ok (.istore_n 2, 1) := by decide +kernel
theorem dX6_passes_70 : decode cX6_passes 70 = .ok (.iload 5, 2) := by decide +kernel
theorem dX6_passes_72 : decode cX6_passes 72 = .ok (.istore_n 3, 1) := by decide +kernel
theorem dX6_passes_73 : decode cX6_passes 73 = .ok (.iinc 4 1, 3) := by decide +kernel
theorem dX6_passes_76 : decode cX6_passes 76 = .ok (.goto (-69), 3) := by decide +kernel
theorem dX6_passes_79 : decode cX6_passes 79 = .ok (.aload_n 0, 1) := by decide +kernel
theorem dX6_passes_80 : decode cX6_passes 80 = .ok (.getfield 8, 3) := by decide +kernel
theorem dX6_passes_83 : decode cX6_passes 83 = .ok (.sipush 240, 3) := by decide +kernel
theorem dX6_passes_86 : decode cX6_passes 86 = .ok (.iload_n 1, 1) := by decide +kernel
theorem dX6_passes_87 : decode cX6_passes 87 = .ok (.iadd, 1) := by decide +kernel
theorem dX6_passes_88 : decode cX6_passes 88 = .ok (.iload_n 2, 1) := by decide +kernel
theorem dX6_passes_89 : decode cX6_passes 89 = .ok (.iastore, 1) := by decide +kernel
theorem dX6_passes_90 : decode cX6_passes 90 = .ok (.iload_n 2, 1) := by decide +kernel
theorem dX6_passes_91 : decode cX6_passes 91 = .ok (.ifCond .ge 4, 3) := by decide +kernel
theorem dX6_passes_94 : decode cX6_passes 94 = .ok (.return_, 1) := by decide +kernel
theorem dX6_passes_95 : decode cX6_passes 95 = .ok (.aload_n 0, 1) := by decide +kernel
theorem dX6_passes_96 : decode cX6_passes 96 = .ok (.iload_n 2, 1) := by decide +kernel
theorem dX6_passes_97 : decode cX6_passes 97 = .ok (.invokevirtual 70, 3) := by decide +kernel
theorem dX6_passes_100 : decode cX6_passes 100 = .ok (.aload_n 0, 1) := by decide +kernel
theorem dX6_passes_101 : decode cX6_passes 101 = .ok (.aload_n 0, 1) := by decide +kernel
theorem dX6_passes_102 : decode cX6_passes 102 = .ok (.iload_n 2, 1) := by decide +kernel
theorem dX6_passes_103 : decode cX6_passes 103 = .ok (.iconst 0, 1) := by decide +kernel
theorem dX6_passes_104 : decode cX6_passes 104 = .ok (.invokevirtual 36, 3) := by decide +kernel
theorem dX6_passes_107 : decode cX6_passes 107 = .ok (.iconst 4, 1) := by decide +kernel
theorem dX6_passes_108 : decode cX6_passes 108 = .ok (.if_icmp .ne 8, 3) := by decide +kernel
theorem dX6_passes_111 : decode cX6_passes 111 = .ok (.bipush 11, 2) := by decide +kernel
theorem dX6_passes_113 : decode cX6_passes 113 = .ok (.goto 5, 3) := by decide +kernel
theorem dX6_passes_116 : decode cX6_passes 116 = .ok (.bipush 10, 2) := by decide +kernel
theorem dX6_passes_118 : decode cX6_passes 118 = .ok (.invokevirtual 63, 3) := by decide +kernel
theorem dX6_passes_121 : decode cX6_passes 121 = .ok (.return_, 1) := by decide +kernel
theorem dX6_ends_0 : decode cX6_ends 0 = .ok (.aload_n 0, 1) := by decide +kernel
theorem dX6_ends_1 : decode cX6_ends 1 = .ok (.iload_n 1, 1) := by decide +kernel
theorem dX6_ends_2 : decode cX6_ends 2 = .ok (.invokevirtual 70, 3) := by decide +kernel
theorem dX6_ends_5 : decode cX6_ends 5 = .ok (.aload_n 0, 1) := by decide +kernel
theorem dX6_ends_6 : decode cX6_ends 6 = .ok (.iload_n 1, 1) := by decide +kernel
theorem dX6_ends_7 : decode cX6_ends 7 = .ok (.bipush 6, 2) := by decide +kernel
theorem dX6_ends_9 : decode cX6_ends 9 = .ok (.iconst 4, 1) := by decide +kernel
theorem dX6_ends_10 : decode cX6_ends 10 = .ok (.invokevirtual 59, 3) := by decide +kernel
theorem dX6_ends_13 : decode cX6_ends 13 = .ok (.aload_n 0, 1) := by decide +kernel
theorem dX6_ends_14 : decode cX6_ends 14 = .ok (.iload_n 1, 1) := by decide +kernel
theorem dX6_ends_15 : decode cX6_ends 15 = .ok (.bipush 9, 2) := by decide +kernel
theorem dX6_ends_17 : decode cX6_ends 17 = .ok (.iload_n 2, 1) := by decide +kernel
theorem dX6_ends_18 : decode cX6_ends 18 = .ok (.invokevirtual 59, 3) := by decide +kernel
theorem dX6_ends_21 : decode cX6_ends 21 = .ok (.iconst 0, 1) := by decide +kernel
theorem dX6_ends_22 : decode cX6_ends 22 = .ok (.istore_n 3, 1) := by decide +kernel
theorem dX6_ends_23 : decode cX6_ends 23 = .ok (.iload_n 3, 1) := by decide +kernel
theorem dX6_ends_24 : decode cX6_ends 24 = .ok (.bipush 100, 2) := by decide +kernel
theorem dX6_ends_26 : decode cX6_ends 26 = .ok (.if_icmp .ge 42, 3) := by decide +kernel
theorem dX6_ends_29 : decode cX6_ends 29 = .ok (.aload_n 0, 1) := by decide +kernel
theorem dX6_ends_30 : decode cX6_ends 30 = .ok (.getfield 8, 3) := by decide +kernel
theorem dX6_ends_33 : decode cX6_ends 33 = .ok (.sipush 240, 3) := by decide +kernel
theorem dX6_ends_36 : decode cX6_ends 36 = .ok (.iload_n 3, 1) := by decide +kernel
theorem dX6_ends_37 : decode cX6_ends 37 = .ok (.iadd, 1) := by decide +kernel
theorem dX6_ends_38 : decode cX6_ends 38 = .ok (.iaload, 1) := by decide +kernel
theorem dX6_ends_39 : decode cX6_ends 39 = .ok (.iload_n 1, 1) := by decide +kernel
theorem dX6_ends_40 : decode cX6_ends 40 = .ok (.if_icmp .eq 6, 3) := by decide +kernel
theorem dX6_ends_43 : decode cX6_ends 43 = .ok (.goto 19, 3) := by decide +kernel
theorem dX6_ends_46 : decode cX6_ends 46 = .ok (.aload_n 0, 1) := by decide +kernel
theorem dX6_ends_47 : decode cX6_ends 47 = .ok (.getfield 8, 3) := by decide +kernel
theorem dX6_ends_50 : decode cX6_ends 50 = .ok (.sipush 240, 3) := by decide +kernel
theorem dX6_ends_53 : decode cX6_ends 53 = .ok (.iload_n 3, 1) := by decide +kernel
theorem dX6_ends_54 : decode cX6_ends 54 = .ok (.iadd, 1) := by decide +kernel
theorem dX6_ends_55 : decode cX6_ends 55 = .ok (.iconst (-1), 1) := by decide +kernel
theorem dX6_ends_56 : decode cX6_ends 56 = .ok (.iastore, 1) := by decide +kernel
theorem dX6_ends_57 : decode cX6_ends 57 = .ok (.aload_n 0, 1) := by decide +kernel
theorem dX6_ends_58 : decode cX6_ends 58 = .ok (.iload_n 3, 1) := by decide +kernel
theorem dX6_ends_59 : decode cX6_ends 59 = .ok (.invokevirtual 73, 3) := by decide +kernel
theorem dX6_ends_62 : decode cX6_ends 62 = .ok (.iinc 3 1, 3) := by decide +kernel
theorem dX6_ends_65 : decode cX6_ends 65 = .ok (.goto (-42), 3) := by decide +kernel
theorem dX6_ends_68 : decode cX6_ends 68 = .ok (.return_, 1) := by decide +kernel
theorem dX6_ringBell_0 : decode cX6_ringBell 0 = .ok (.iconst 0, 1) := by decide +kernel
theorem dX6_ringBell_1 : decode cX6_ringBell 1 = .ok (.istore_n 2, 1) := by decide +kernel
theorem dX6_ringBell_2 : decode cX6_ringBell 2 = .ok (.iconst 0, 1) := by decide +kernel
theorem dX6_ringBell_3 : decode cX6_ringBell 3 = .ok (.istore_n 3, 1) := by decide +kernel
theorem dX6_ringBell_4 : decode cX6_ringBell 4 = .ok (.iload_n 3, 1) := by decide +kernel
theorem dX6_ringBell_5 : decode cX6_ringBell 5 = .ok (.aload_n 0, 1) := by decide +kernel
theorem dX6_ringBell_6 : decode cX6_ringBell 6 = .ok (.getfield 8, 3) := by decide +kernel
theorem dX6_ringBell_9 : decode cX6_ringBell 9 = .ok (.iconst 1, 1) := by decide +kernel
theorem dX6_ringBell_10 : decode cX6_ringBell 10 = .ok (.iaload, 1) := by decide +kernel
theorem dX6_ringBell_11 : decode cX6_ringBell 11 = .ok (.if_icmp .ge 42, 3) := by decide +kernel
theorem dX6_ringBell_14 : decode cX6_ringBell 14 = .ok (.aload_n 0, 1) := by decide +kernel
theorem dX6_ringBell_15 : decode cX6_ringBell 15 = .ok (.iload_n 3, 1) := by decide +kernel
theorem dX6_ringBell_16 : decode cX6_ringBell 16 = .ok (.bipush 6, 2) := by decide +kernel
theorem dX6_ringBell_18 : decode cX6_ringBell 18 = .ok (.invokevirtual 36, 3) := by decide +kernel
theorem dX6_ringBell_21 : decode cX6_ringBell 21 = .ok (.iconst 2, 1) := by decide +kernel
theorem dX6_ringBell_22 : decode cX6_ringBell 22 = .ok (.if_icmp .ne 25, 3) := by decide +kernel
theorem dX6_ringBell_25 : decode cX6_ringBell 25 = .ok (.aload_n 0, 1) := by decide +kernel
theorem dX6_ringBell_26 : decode cX6_ringBell 26 = .ok (.iload_n 3, 1) := by decide +kernel
theorem dX6_ringBell_27 : decode cX6_ringBell 27 = .ok (.bipush 7, 2) := by decide +kernel
theorem dX6_ringBell_29 : decode cX6_ringBell 29 = .ok (.invokevirtual 36, 3) := by decide +kernel
theorem dX6_ringBell_32 : decode cX6_ringBell 32 = .ok (.iload_n 1, 1) := by decide +kernel
theorem dX6_ringBell_33 : decode cX6_ringBell 33 = .ok (.if_icmp .eq 6, 3) := by decide +kernel
theorem dX6_ringBell_36 : decode cX6_ringBell 36 = .ok (.goto 11, 3) := by decide +kernel
theorem dX6_ringBell_39 : decode cX6_ringBell 39 = .ok (.aload_n 0, 1) := by decide +kernel
theorem dX6_ringBell_40 : decode cX6_ringBell 40 = .ok (.iload_n 3, 1) := by decide +kernel
theorem dX6_ringBell_41 : decode cX6_ringBell 41 = .ok (.invokevirtual 70, 3) := by decide +kernel
theorem dX6_ringBell_44 : decode cX6_ringBell 44 = .ok (.iinc 2 1, 3) := by decide +kernel
theorem dX6_ringBell_47 : decode cX6_ringBell 47 = .ok (.iinc 3 1, 3) := by decide +kernel
theorem dX6_ringBell_50 : decode cX6_ringBell 50 = .ok (.goto (-46), 3) := by decide +kernel
theorem dX6_ringBell_53 : decode cX6_ringBell 53 = .ok (.iload_n 2, 1) := by decide +kernel
theorem dX6_ringBell_54 : decode cX6_ringBell 54 = .ok (.ireturn, 1) := by decide +kernel
theorem dX6_added_0 : decode cX6_added 0 = .ok (.aload_n 0, 1) := by decide +kernel
theorem dX6_added_1 : decode cX6_added 1 = .ok (.getfield 8, 3) := by decide +kernel
theorem dX6_added_4 : decode cX6_added 4 = .ok (.iconst 1, 1) := by decide +kernel
theorem dX6_added_5 : decode cX6_added 5 = .ok (.iaload, 1) := by decide +kernel
theorem dX6_added_6 : decode cX6_added 6 = .ok (.istore 6, 2) := by decide +kernel
theorem dX6_added_8 : decode cX6_added 8 = .ok (.lconst 0, 1) := by decide +kernel
theorem dX6_added_9 : decode cX6_added 9 = .ok (.lstore 7, 2) := by decide +kernel
theorem dX6_added_11 : decode cX6_added 11 = .ok (.iconst 0, 1) := by decide +kernel
theorem dX6_added_12 : decode cX6_added 12 = .ok (.istore 9, 2) := by decide +kernel
theorem dX6_added_14 : decode cX6_added 14 = .ok (.iconst 0, 1) := by decide +kernel
theorem dX6_added_15 : decode cX6_added 15 = .ok (.istore 10, 2) := by decide +kernel
theorem dX6_added_17 : decode cX6_added 17 = .ok (.iload 10, 2) := by decide +kernel
theorem dX6_added_19 : decode cX6_added 19 = .ok (.iload 6, 2) := by decide +kernel
theorem dX6_added_21 : decode cX6_added 21 = .ok (.if_icmp .ge 54, 3) := by decide +kernel
theorem dX6_added_24 : decode cX6_added 24 = .ok (.aload_n 0, 1) := by decide +kernel
theorem dX6_added_25 : decode cX6_added 25 = .ok (.iload 10, 2) := by decide +kernel
theorem dX6_added_27 : decode cX6_added 27 = .ok (.bipush 6, 2) := by decide +kernel
theorem dX6_added_29 : decode cX6_added 29 = .ok (.invokevirtual 36, 3) := by decide +kernel
theorem dX6_added_32 : decode cX6_added 32 = .ok (.iconst 4, 1) := by decide +kernel
theorem dX6_added_33 : decode cX6_added 33 = .ok (.if_icmp .eq 36, 3) := by decide +kernel
theorem dX6_added_36 : decode cX6_added 36 = .ok (.iload 9, 2) := by decide +kernel
theorem dX6_added_38 : decode cX6_added 38 = .ok (.ifCond .eq 19, 3) := by decide +kernel
theorem dX6_added_41 : decode cX6_added 41 = .ok (.aload_n 0, 1) := by decide +kernel
theorem dX6_added_42 : decode cX6_added 42 = .ok (.getfield 14, 3) := by decide +kernel
theorem dX6_added_45 : decode cX6_added 45 = .ok (.iload 10, 2) := by decide +kernel
theorem dX6_added_47 : decode cX6_added 47 = .ok (.laload, 1) := by decide +kernel
theorem dX6_added_48 : decode cX6_added 48 = .ok (.lload 7, 2) := by decide +kernel
theorem dX6_added_50 : decode cX6_added 50 = .ok (.lcmp, 1) := by decide +kernel
theorem dX6_added_51 : decode cX6_added 51 = .ok (.ifCond .lt 6, 3) := by decide +kernel
theorem dX6_added_54 : decode cX6_added 54 = .ok (.goto 15, 3) := by decide +kernel
theorem dX6_added_57 : decode cX6_added 57 = .ok (.aload_n 0, 1) := by decide +kernel
theorem dX6_added_58 : decode cX6_added 58 = .ok (.getfield 14, 3) := by decide +kernel
theorem dX6_added_61 : decode cX6_added 61 = .ok (.iload 10, 2) := by decide +kernel
theorem dX6_added_63 : decode cX6_added 63 = .ok (.laload, 1) := by decide +kernel
theorem dX6_added_64 : decode cX6_added 64 = .ok (.lstore 7, 2) := by decide +kernel
theorem dX6_added_66 : decode cX6_added 66 = .ok (.iconst 1, 1) := by decide +kernel
theorem dX6_added_67 : decode cX6_added 67 = .ok (.istore 9, 2) := by decide +kernel
theorem dX6_added_69 : decode cX6_added 69 = .ok (.iinc 10 1, 3) := by decide +kernel
theorem dX6_added_72 : decode cX6_added 72 = .ok (.goto (-55), 3) := by decide +kernel
theorem dX6_added_75 : decode cX6_added 75 = .ok (.aload_n 0, 1) := by decide +kernel
theorem dX6_added_76 : decode cX6_added 76 = .ok (.getfield 8, 3) := by decide +kernel
theorem dX6_added_79 : decode cX6_added 79 = .ok (.iconst 1, 1) := by decide +kernel
theorem dX6_added_80 : decode cX6_added 80 = .ok (.dup2, 1) := by decide +kernel
theorem dX6_added_81 : decode cX6_added 81 = .ok (.iaload, 1) := by decide +kernel
theorem dX6_added_82 : decode cX6_added 82 = .ok (.iconst 1, 1) := by decide +kernel
theorem dX6_added_83 : decode cX6_added 83 = .ok (.iadd, 1) := by decide +kernel
theorem dX6_added_84 : decode cX6_added 84 = .ok (.iastore, 1) := by decide +kernel
theorem dX6_added_85 : decode cX6_added 85 = .ok (.iconst 0, 1) := by decide +kernel
theorem dX6_added_86 : decode cX6_added 86 = .ok (.istore 10, 2) := by decide +kernel
theorem dX6_added_88 : decode cX6_added 88 = .ok (.iload 10, 2) := by decide +kernel
theorem dX6_added_90 : decode cX6_added 90 = .ok (.bipush 20, 2) := by decide +kernel
theorem dX6_added_92 : decode cX6_added 92 = .ok (.if_icmp .ge 18, 3) := by decide +kernel
theorem dX6_added_95 : decode cX6_added 95 = .ok (.aload_n 0, 1) := by decide +kernel
theorem dX6_added_96 : decode cX6_added 96 = .ok (.iload 6, 2) := by decide +kernel
theorem dX6_added_98 : decode cX6_added 98 = .ok (.iload 10, 2) := by decide +kernel
theorem dX6_added_100 : decode cX6_added 100 = .ok (.iconst 0, 1) := by decide +kernel
theorem dX6_added_101 : decode cX6_added 101 = .ok (.invokevirtual 59, 3) := by decide +kernel
theorem dX6_added_104 : decode cX6_added 104 = .ok (.iinc 10 1, 3) := by decide +kernel
theorem dX6_added_107 : decode cX6_added 107 = .ok (.goto (-19), 3) := by decide +kernel
theorem dX6_added_110 : decode cX6_added 110 = .ok (.aload_n 0, 1) := by decide +kernel
theorem dX6_added_111 : decode cX6_added 111 = .ok (.getfield 14, 3) := by decide +kernel
theorem dX6_added_114 : decode cX6_added 114 = .ok (.iload 6, 2) := by decide +kernel
theorem dX6_added_116 : decode cX6_added 116 = .ok (.lload 7, 2) := by decide +kernel
theorem dX6_added_118 : decode cX6_added 118 = .ok (.lastore, 1) := by decide +kernel
theorem dX6_added_119 : decode cX6_added 119 = .ok (.aload_n 0, 1) := by decide +kernel
theorem dX6_added_120 : decode cX6_added 120 = .ok (.iload 6, 2) := by decide +kernel
theorem dX6_added_122 : decode cX6_added 122 = .ok (.iconst 0, 1) := by decide +kernel
theorem dX6_added_123 : decode cX6_added 123 = .ok (.iload_n 1, 1) := by decide +kernel
theorem dX6_added_124 : decode cX6_added 124 = .ok (.invokevirtual 59, 3) := by decide +kernel
theorem dX6_added_127 : decode cX6_added 127 = .ok (.aload_n 0, 1) := by decide +kernel
theorem dX6_added_128 : decode cX6_added 128 = .ok (.iload 6, 2) := by decide +kernel
theorem dX6_added_130 : decode cX6_added 130 = .ok (.iconst 1, 1) := by decide +kernel
theorem dX6_added_131 : decode cX6_added 131 = .ok (.iload_n 2, 1) := by decide +kernel
theorem dX6_added_132 : decode cX6_added 132 = .ok (.invokevirtual 59, 3) := by decide +kernel
theorem dX6_added_135 : decode cX6_added 135 = .ok (.aload_n 0, 1) := by decide +kernel
theorem dX6_added_136 : decode cX6_added 136 = .ok (.iload 6, 2) := by decide +kernel
theorem dX6_added_138 : decode cX6_added 138 = .ok (.iconst 2, 1) := by decide +kernel
theorem dX6_added_139 : decode cX6_added 139 = .ok (.iload_n 3, 1) := by decide +kernel
theorem dX6_added_140 : decode cX6_added 140 = .ok (.invokevirtual 59, 3) := by decide +kernel
theorem dX6_added_143 : decode cX6_added 143 = .ok (.aload_n 0, 1) := by decide +kernel
theorem dX6_added_144 : decode cX6_added 144 = .ok (.iload 6, 2) := by decide +kernel
theorem dX6_added_146 : decode cX6_added 146 = .ok (.bipush 7, 2) := by decide +kernel
theorem dX6_added_148 : decode cX6_added 148 = .ok (.iconst (-1), 1) := by decide +kernel
theorem dX6_added_149 : decode cX6_added 149 = .ok (.invokevirtual 59, 3) := by decide +kernel
theorem dX6_added_152 : decode cX6_added 152 = .ok (.aload_n 0, 1) := by decide +kernel
theorem dX6_added_153 : decode cX6_added 153 = .ok (.iload 6, 2) := by decide +kernel
theorem dX6_added_155 : decode cX6_added 155 = .ok (.bipush 8, 2) := by decide +kernel
theorem dX6_added_157 : decode cX6_added 157 = .ok (.iconst (-1), 1) := by decide +kernel
theorem dX6_added_158 : decode cX6_added 158 = .ok (.invokevirtual 59, 3) := by decide +kernel
theorem dX6_added_161 : decode cX6_added 161 = .ok (.aload_n 0, 1) := by decide +kernel
theorem dX6_added_162 : decode cX6_added 162 = .ok (.iload 6, 2) := by decide +kernel
theorem dX6_added_164 : decode cX6_added 164 = .ok (.bipush 14, 2) := by decide +kernel
theorem dX6_added_166 : decode cX6_added 166 = .ok (.iconst (-1), 1) := by decide +kernel
theorem dX6_added_167 : decode cX6_added 167 = .ok (.invokevirtual 59, 3) := by decide +kernel
theorem dX6_added_170 : decode cX6_added 170 = .ok (.aload_n 0, 1) := by decide +kernel
theorem dX6_added_171 : decode cX6_added 171 = .ok (.iload 6, 2) := by decide +kernel
theorem dX6_added_173 : decode cX6_added 173 = .ok (.bipush 10, 2) := by decide +kernel
theorem dX6_added_175 : decode cX6_added 175 = .ok (.iload 4, 2) := by decide +kernel
theorem dX6_added_177 : decode cX6_added 177 = .ok (.invokevirtual 59, 3) := by decide +kernel
theorem dX6_added_180 : decode cX6_added 180 = .ok (.aload_n 0, 1) := by decide +kernel
theorem dX6_added_181 : decode cX6_added 181 = .ok (.iload 6, 2) := by decide +kernel
theorem dX6_added_183 : decode cX6_added 183 = .ok (.bipush 11, 2) := by decide +kernel
theorem dX6_added_185 : decode cX6_added 185 = .ok (.iload 5, 2) := by decide +kernel
theorem dX6_added_187 : decode cX6_added 187 = .ok (.invokevirtual 59, 3) := by decide +kernel
theorem dX6_added_190 : decode cX6_added 190 = .ok (.aload_n 0, 1) := by decide +kernel
theorem dX6_added_191 : decode cX6_added 191 = .ok (.iload 6, 2) := by decide +kernel
theorem dX6_added_193 : decode cX6_added 193 = .ok (.bipush 12, 2) := by decide +kernel
theorem dX6_added_195 : decode cX6_added 195 = .ok (.aload_n 0, 1) := by decide +kernel
theorem dX6_added_196 : decode cX6_added 196 = .ok (.getfield 8, 3) := by decide +kernel
theorem dX6_added_199 : decode cX6_added 199 = .ok (.iconst 0, 1) := by decide +kernel
theorem dX6_added_200 : decode cX6_added 200 = .ok (.iaload, 1) := by decide +kernel
theorem dX6_added_201 : decode cX6_added 201 = .ok (.iload 4, 2) := by decide +kernel
theorem dX6_added_203 : decode cX6_added 203 = .ok (.iadd, 1) := by decide +kernel
theorem dX6_added_204 : decode cX6_added 204 = .ok (.invokevirtual 59, 3) := by decide +kernel
theorem dX6_added_207 : decode cX6_added 207 = .ok (.aload_n 0, 1) := by decide +kernel
theorem dX6_added_208 : decode cX6_added 208 = .ok (.iload 6, 2) := by decide +kernel
theorem dX6_added_210 : decode cX6_added 210 = .ok (.bipush 13, 2) := by decide +kernel
theorem dX6_added_212 : decode cX6_added 212 = .ok (.iload 5, 2) := by decide +kernel
theorem dX6_added_214 : decode cX6_added 214 = .ok (.invokevirtual 59, 3) := by decide +kernel
theorem dX6_added_217 : decode cX6_added 217 = .ok (.iload 6, 2) := by decide +kernel
theorem dX6_added_219 : decode cX6_added 219 = .ok (.ireturn, 1) := by decide +kernel
theorem dX6_isOf_0 : decode cX6_isOf 0 = .ok (.iload_n 1, 1) := by decide +kernel
theorem dX6_isOf_1 : decode cX6_isOf 1 = .ok (.ifCond .eq 28, 3) := by decide +kernel
theorem dX6_isOf_4 : decode cX6_isOf 4 = .ok (.iload_n 1, 1) := by decide +kernel
theorem dX6_isOf_5 : decode cX6_isOf 5 = .ok (.iload_n 0, 1) := by decide +kernel
theorem dX6_isOf_6 : decode cX6_isOf 6 = .ok (.if_icmp .eq 23, 3) := by decide +kernel
theorem dX6_isOf_9 : decode cX6_isOf 9 = .ok (.iload_n 1, 1) := by decide +kernel
theorem dX6_isOf_10 : decode cX6_isOf 10 = .ok (.iconst 1, 1) := by decide +kernel
theorem dX6_isOf_11 : decode cX6_isOf 11 = .ok (.if_icmp .ne 8, 3) := by decide +kernel
theorem dX6_isOf_14 : decode cX6_isOf 14 = .ok (.iload_n 0, 1) := by decide +kernel
theorem dX6_isOf_15 : decode cX6_isOf 15 = .ok (.iconst 2, 1) := by decide +kernel
theorem dX6_isOf_16 : decode cX6_isOf 16 = .ok (.if_icmp .eq 13, 3) := by decide +kernel
theorem dX6_isOf_19 : decode cX6_isOf 19 = .ok (.iload_n 1, 1) := by decide +kernel
theorem dX6_isOf_20 : decode cX6_isOf 20 = .ok (.iconst 3, 1) := by decide +kernel
theorem dX6_isOf_21 : decode cX6_isOf 21 = .ok (.if_icmp .ne 12, 3) := by decide +kernel
theorem dX6_isOf_24 : decode cX6_isOf 24 = .ok (.iload_n 0, 1) := by decide +kernel
theorem dX6_isOf_25 : decode cX6_isOf 25 = .ok (.iconst 4, 1) := by decide +kernel
theorem dX6_isOf_26 : decode cX6_isOf 26 = .ok (.if_icmp .ne 7, 3) := by decide +kernel
theorem dX6_isOf_29 : decode cX6_isOf 29 = .ok (.iconst 1, 1) := by decide +kernel
theorem dX6_isOf_30 : decode cX6_isOf 30 = .ok (.goto 4, 3) := by decide +kernel
theorem dX6_isOf_33 : decode cX6_isOf 33 = .ok (.iconst 0, 1) := by decide +kernel
theorem dX6_isOf_34 : decode cX6_isOf 34 = .ok (.ireturn, 1) := by decide +kernel
theorem dX6_pay_0 : decode cX6_pay 0 = .ok (.sipush 1000, 3) := by decide +kernel
theorem dX6_pay_3 : decode cX6_pay 3 = .ok (.aload_n 0, 1) := by decide +kernel
theorem dX6_pay_4 : decode cX6_pay 4 = .ok (.iload_n 1, 1) := by decide +kernel
theorem dX6_pay_5 : decode cX6_pay 5 = .ok (.iconst 3, 1) := by decide +kernel
theorem dX6_pay_6 : decode cX6_pay 6 = .ok (.invokevirtual 36, 3) := by decide +kernel
theorem dX6_pay_9 : decode cX6_pay 9 = .ok (.iadd, 1) := by decide +kernel
theorem dX6_pay_10 : decode cX6_pay 10 = .ok (.istore_n 2, 1) := by decide +kernel
theorem dX6_pay_11 : decode cX6_pay 11 = .ok (.aload_n 0, 1) := by decide +kernel
theorem dX6_pay_12 : decode cX6_pay 12 = .ok (.getfield 14, 3) := by decide +kernel
theorem dX6_pay_15 : decode cX6_pay 15 = .ok (.iload_n 1, 1) := by decide +kernel
theorem dX6_pay_16 : decode cX6_pay 16 = .ok (.dup2, 1) := by decide +kernel
theorem dX6_pay_17 : decode cX6_pay 17 = .ok (.laload, 1) := by decide +kernel
theorem dX6_pay_18 : decode cX6_pay 18 = .ok (.iload_n 2, 1) := by decide +kernel
theorem dX6_pay_19 : decode cX6_pay 19 = .ok (.aload_n 0, 1) := by decide +kernel
theorem dX6_pay_20 : decode cX6_pay 20 = .ok (.iload_n 1, 1) := by decide +kernel
theorem dX6_pay_21 : decode cX6_pay 21 = .ok (.iconst 2, 1) := by decide +kernel
theorem dX6_pay_22 : decode cX6_pay 22 = .ok (.invokevirtual 36, 3) := by decide +kernel
theorem dX6_pay_25 : decode cX6_pay 25 = .ok (.idiv, 1) := by decide +kernel
theorem dX6_pay_26 : decode cX6_pay 26 = .ok (.i2l, 1) := by decide +kernel
theorem dX6_pay_27 : decode cX6_pay 27 = .ok (.ladd, 1) := by decide +kernel
theorem dX6_pay_28 : decode cX6_pay 28 = .ok (.lastore, 1) := by decide +kernel
theorem dX6_pay_29 : decode cX6_pay 29 = .ok (.aload_n 0, 1) := by decide +kernel
theorem dX6_pay_30 : decode cX6_pay 30 = .ok (.iload_n 1, 1) := by decide +kernel
theorem dX6_pay_31 : decode cX6_pay 31 = .ok (.iconst 3, 1) := by decide +kernel
theorem dX6_pay_32 : decode cX6_pay 32 = .ok (.iload_n 2, 1) := by decide +kernel
theorem dX6_pay_33 : decode cX6_pay 33 = .ok (.aload_n 0, 1) := by decide +kernel
theorem dX6_pay_34 : decode cX6_pay 34 = .ok (.iload_n 1, 1) := by decide +kernel
theorem dX6_pay_35 : decode cX6_pay 35 = .ok (.iconst 2, 1) := by decide +kernel
theorem dX6_pay_36 : decode cX6_pay 36 = .ok (.invokevirtual 36, 3) := by decide +kernel
theorem dX6_pay_39 : decode cX6_pay 39 = .ok (.irem, 1) := by decide +kernel
theorem dX6_pay_40 : decode cX6_pay 40 = .ok (.invokevirtual 59, 3) := by decide +kernel
theorem dX6_pay_43 : decode cX6_pay 43 = .ok (.aload_n 0, 1) := by decide +kernel
theorem dX6_pay_44 : decode cX6_pay 44 = .ok (.iconst 0, 1) := by decide +kernel
theorem dX6_pay_45 : decode cX6_pay 45 = .ok (.invokevirtual 63, 3) := by decide +kernel
theorem dX6_pay_48 : decode cX6_pay 48 = .ok (.iconst 0, 1) := by decide +kernel
theorem dX6_pay_49 : decode cX6_pay 49 = .ok (.ireturn, 1) := by decide +kernel
theorem dX6_pays_0 : decode cX6_pays 0 = .ok (.aload_n 0, 1) := by decide +kernel
theorem dX6_pays_1 : decode cX6_pays 1 = .ok (.iload_n 1, 1) := by decide +kernel
theorem dX6_pays_2 : decode cX6_pays 2 = .ok (.iconst 0, 1) := by decide +kernel
theorem dX6_pays_3 : decode cX6_pays 3 = .ok (.invokevirtual 36, 3) := by decide +kernel
theorem dX6_pays_6 : decode cX6_pays 6 = .ok (.istore_n 2, 1) := by decide +kernel
theorem dX6_pays_7 : decode cX6_pays 7 = .ok (.aload_n 0, 1) := by decide +kernel
theorem dX6_pays_8 : decode cX6_pays 8 = .ok (.iload_n 1, 1) := by decide +kernel
theorem dX6_pays_9 : decode cX6_pays 9 = .ok (.invokevirtual 43, 3) := by decide +kernel
theorem dX6_pays_12 : decode cX6_pays 12 = .ok (.istore_n 3, 1) := by decide +kernel
theorem dX6_pays_13 : decode cX6_pays 13 = .ok (.aload_n 0, 1) := by decide +kernel
theorem dX6_pays_14 : decode cX6_pays 14 = .ok (.iload_n 3, 1) := by decide +kernel
theorem dX6_pays_15 : decode cX6_pays 15 = .ok (.ifCond .eq 8, 3) := by decide +kernel
theorem dX6_pays_18 : decode cX6_pays 18 = .ok (.bipush 7, 2) := by decide +kernel
theorem dX6_pays_20 : decode cX6_pays 20 = .ok (.goto 5, 3) := by decide +kernel
theorem dX6_pays_23 : decode cX6_pays 23 = .ok (.bipush 6, 2) := by decide +kernel
theorem dX6_pays_25 : decode cX6_pays 25 = .ok (.invokevirtual 63, 3) := by decide +kernel
theorem dX6_pays_28 : decode cX6_pays 28 = .ok (.iload_n 3, 1) := by decide +kernel
theorem dX6_pays_29 : decode cX6_pays 29 = .ok (.ifCond .eq 17, 3) := by decide +kernel
theorem dX6_pays_32 : decode cX6_pays 32 = .ok (.aload_n 0, 1) := by decide +kernel
theorem dX6_pays_33 : decode cX6_pays 33 = .ok (.iload_n 1, 1) := by decide +kernel
theorem dX6_pays_34 : decode cX6_pays 34 = .ok (.bipush 13, 2) := by decide +kernel
theorem dX6_pays_36 : decode cX6_pays 36 = .ok (.invokevirtual 36, 3) := by decide +kernel
theorem dX6_pays_39 : decode cX6_pays 39 = .ok (.ifCond .le 7, 3) := by decide +kernel
theorem dX6_pays_42 : decode cX6_pays 42 = .ok (.iconst 1, 1) := by decide +kernel
theorem dX6_pays_43 : decode cX6_pays 43 = .ok (.goto 4, 3) := by decide +kernel
theorem dX6_pays_46 : decode cX6_pays 46 = .ok (.iconst 0, 1) := by decide +kernel
theorem dX6_pays_47 : decode cX6_pays 47 = .ok (.istore 4, 2) := by decide +kernel
theorem dX6_pays_49 : decode cX6_pays 49 = .ok (.iload 4, 2) := by decide +kernel
theorem dX6_pays_51 : decode cX6_pays 51 = .ok (.ifCond .eq 19, 3) := by decide +kernel
theorem dX6_pays_54 : decode cX6_pays 54 = .ok (.aload_n 0, 1) := by decide +kernel
theorem dX6_pays_55 : decode cX6_pays 55 = .ok (.iload_n 1, 1) := by decide +kernel
theorem dX6_pays_56 : decode cX6_pays 56 = .ok (.bipush 13, 2) := by decide +kernel
theorem dX6_pays_58 : decode cX6_pays 58 = .ok (.aload_n 0, 1) := by decide +kernel
theorem dX6_pays_59 : decode cX6_pays 59 = .ok (.iload_n 1, 1) := by decide +kernel
theorem dX6_pays_60 : decode cX6_pays 60 = .ok (.bipush 13, 2) := by decide +kernel
theorem dX6_pays_62 : decode cX6_pays 62 = .ok (.invokevirtual 36, 3) := by decide +kernel
theorem dX6_pays_65 : decode cX6_pays 65 = .ok (.iconst 1, 1) := by decide +kernel
theorem dX6_pays_66 : decode cX6_pays 66 = .ok (.isub, 1) := by decide +kernel
theorem dX6_pays_67 : decode cX6_pays 67 = .ok (.invokevirtual 59, 3) := by decide +kernel
theorem dX6_pays_70 : decode cX6_pays 70 = .ok (.iload 4, 2) := by decide +kernel
theorem dX6_pays_72 : decode cX6_pays 72 = .ok (.ifCond .eq 9, 3) := by decide +kernel
theorem dX6_pays_75 : decode cX6_pays 75 = .ok (.iload_n 2, 1) := by decide +kernel
theorem dX6_pays_76 : decode cX6_pays 76 = .ok (.iconst 1, 1) := by decide +kernel
theorem dX6_pays_77 : decode cX6_pays 77 = .ok (.if_icmp .ne 4, 3) := by decide +kernel
theorem dX6_pays_80 : decode cX6_pays 80 = .ok (.return_, 1) := by decide +kernel
theorem dX6_pays_81 : decode cX6_pays 81 = .ok (.iload_n 2, 1) := by decide +kernel
theorem dX6_pays_82 : decode cX6_pays 82 = .ok (.iconst 2, 1) := by decide +kernel
theorem dX6_pays_83 : decode cX6_pays 83 = .ok (.if_icmp .ne 8, 3) := by decide +kernel
theorem dX6_pays_86 : decode cX6_pays 86 = .ok (.aload_n 0, 1) := by decide +kernel
theorem dX6_pays_87 : decode cX6_pays 87 = .ok (.iconst 1, 1) := by decide +kernel
theorem dX6_pays_88 : decode cX6_pays 88 = .ok (.invokevirtual 63, 3) := by decide +kernel
theorem dX6_pays_91 : decode cX6_pays 91 = .ok (.iload_n 2, 1) := by decide +kernel
theorem dX6_pays_92 : decode cX6_pays 92 = .ok (.iconst 4, 1) := by decide +kernel
theorem dX6_pays_93 : decode cX6_pays 93 = .ok (.if_icmp .ne 8, 3) := by decide +kernel
theorem dX6_pays_96 : decode cX6_pays 96 = .ok (.aload_n 0, 1) := by decide +kernel
theorem dX6_pays_97 : decode cX6_pays 97 = .ok (.iconst 2, 1) := by decide +kernel
theorem dX6_pays_98 : decode cX6_pays 98 = .ok (.invokevirtual 63, 3) := by decide +kernel
theorem dX6_pays_101 : decode cX6_pays 101 = .ok (.aload_n 0, 1) := by decide +kernel
theorem dX6_pays_102 : decode cX6_pays 102 = .ok (.iload_n 1, 1) := by decide +kernel
theorem dX6_pays_103 : decode cX6_pays 103 = .ok (.invokevirtual 76, 3) := by decide +kernel
theorem dX6_pays_106 : decode cX6_pays 106 = .ok (.istore 5, 2) := by decide +kernel
theorem dX6_pays_108 : decode cX6_pays 108 = .ok (.iload_n 2, 1) := by decide +kernel
theorem dX6_pays_109 : decode cX6_pays 109 = .ok (.iconst 4, 1) := by decide +kernel
theorem dX6_pays_110 : decode cX6_pays 110 = .ok (.if_icmp .ne 10, 3) := by decide +kernel
theorem dX6_pays_113 : decode cX6_pays 113 = .ok (.aload_n 0, 1) := by decide +kernel
theorem dX6_pays_114 : decode cX6_pays 114 = .ok (.iload_n 1, 1) := by decide +kernel
theorem dX6_pays_115 : decode cX6_pays 115 = .ok (.invokevirtual 76, 3) := by decide +kernel
theorem dX6_pays_118 : decode cX6_pays 118 = .ok (.istore 5, 2) := by decide +kernel
theorem dX6_pays_120 : decode cX6_pays 120 = .ok (.return_, 1) := by decide +kernel
theorem dX6_turn_0 : decode cX6_turn 0 = .ok (.aload_n 0, 1) := by decide +kernel
theorem dX6_turn_1 : decode cX6_turn 1 = .ok (.iload_n 1, 1) := by decide +kernel
theorem dX6_turn_2 : decode cX6_turn 2 = .ok (.invokevirtual 79, 3) := by decide +kernel
theorem dX6_turn_5 : decode cX6_turn 5 = .ok (.aload_n 0, 1) := by decide +kernel
theorem dX6_turn_6 : decode cX6_turn 6 = .ok (.iload_n 1, 1) := by decide +kernel
theorem dX6_turn_7 : decode cX6_turn 7 = .ok (.iconst 4, 1) := by decide +kernel
theorem dX6_turn_8 : decode cX6_turn 8 = .ok (.invokevirtual 36, 3) := by decide +kernel
theorem dX6_turn_11 : decode cX6_turn 11 = .ok (.ifCond .le 18, 3) := by decide +kernel
theorem dX6_turn_14 : decode cX6_turn 14 = .ok (.aload_n 0, 1) := by decide +kernel
theorem dX6_turn_15 : decode cX6_turn 15 = .ok (.iload_n 1, 1) := by decide +kernel
theorem dX6_turn_16 : decode cX6_turn 16 = .ok (.iconst 4, 1) := by decide +kernel
theorem dX6_turn_17 : decode cX6_turn 17 = .ok (.aload_n 0, 1) := by decide +kernel
theorem dX6_turn_18 : decode cX6_turn 18 = .ok (.iload_n 1, 1) := by decide +kernel
theorem dX6_turn_19 : decode cX6_turn 19 = .ok (.iconst 4, 1) := by decide +kernel
theorem dX6_turn_20 : decode cX6_turn 20 = .ok (.invokevirtual 36, 3) := by decide +kernel
theorem dX6_turn_23 : decode cX6_turn 23 = .ok (.iconst 1, 1) := by decide +kernel
theorem dX6_turn_24 : decode cX6_turn 24 = .ok (.isub, 1) := by decide +kernel
theorem dX6_turn_25 : decode cX6_turn 25 = .ok (.invokevirtual 59, 3) := by decide +kernel
theorem dX6_turn_28 : decode cX6_turn 28 = .ok (.return_, 1) := by decide +kernel
theorem dX6_turn_29 : decode cX6_turn 29 = .ok (.aload_n 0, 1) := by decide +kernel
theorem dX6_turn_30 : decode cX6_turn 30 = .ok (.iload_n 1, 1) := by decide +kernel
theorem dX6_turn_31 : decode cX6_turn 31 = .ok (.invokevirtual 82, 3) := by decide +kernel
theorem dX6_turn_34 : decode cX6_turn 34 = .ok (.istore_n 2, 1) := by decide +kernel
theorem dX6_turn_35 : decode cX6_turn 35 = .ok (.iload_n 2, 1) := by decide +kernel
theorem dX6_turn_36 : decode cX6_turn 36 = .ok (.ifCond .gt 9, 3) := by decide +kernel
theorem dX6_turn_39 : decode cX6_turn 39 = .ok (.iload_n 2, 1) := by decide +kernel
theorem dX6_turn_40 : decode cX6_turn 40 = .ok (.bipush (-2), 2) := by decide +kernel
theorem dX6_turn_42 : decode cX6_turn 42 = .ok (.if_icmp .ne 18, 3) := by decide +kernel
theorem dX6_turn_45 : decode cX6_turn 45 = .ok (.aload_n 0, 1) := by decide +kernel
theorem dX6_turn_46 : decode cX6_turn 46 = .ok (.iload_n 1, 1) := by decide +kernel
theorem dX6_turn_47 : decode cX6_turn 47 = .ok (.iload_n 2, 1) := by decide +kernel
theorem dX6_turn_48 : decode cX6_turn 48 = .ok (.ifCond .le 7, 3) := by decide +kernel
theorem dX6_turn_51 : decode cX6_turn 51 = .ok (.iload_n 2, 1) := by decide +kernel
theorem dX6_turn_52 : decode cX6_turn 52 = .ok (.goto 4, 3) := by decide +kernel
theorem dX6_turn_55 : decode cX6_turn 55 = .ok (.iconst 0, 1) := by decide +kernel
theorem dX6_turn_56 : decode cX6_turn 56 = .ok (.invokevirtual 85, 3) := by decide +kernel
theorem dX6_turn_59 : decode cX6_turn 59 = .ok (.return_, 1) := by decide +kernel
theorem dX6_turn_60 : decode cX6_turn 60 = .ok (.aload_n 0, 1) := by decide +kernel
theorem dX6_turn_61 : decode cX6_turn 61 = .ok (.iload_n 1, 1) := by decide +kernel
theorem dX6_turn_62 : decode cX6_turn 62 = .ok (.iconst 5, 1) := by decide +kernel
theorem dX6_turn_63 : decode cX6_turn 63 = .ok (.aload_n 0, 1) := by decide +kernel
theorem dX6_turn_64 : decode cX6_turn 64 = .ok (.iload_n 1, 1) := by decide +kernel
theorem dX6_turn_65 : decode cX6_turn 65 = .ok (.iconst 5, 1) := by decide +kernel
theorem dX6_turn_66 : decode cX6_turn 66 = .ok (.invokevirtual 36, 3) := by decide +kernel
theorem dX6_turn_69 : decode cX6_turn 69 = .ok (.iconst 2, 1) := by decide +kernel
theorem dX6_turn_70 : decode cX6_turn 70 = .ok (.iadd, 1) := by decide +kernel
theorem dX6_turn_71 : decode cX6_turn 71 = .ok (.invokevirtual 59, 3) := by decide +kernel
theorem dX6_turn_74 : decode cX6_turn 74 = .ok (.iload_n 2, 1) := by decide +kernel
theorem dX6_turn_75 : decode cX6_turn 75 = .ok (.iconst (-1), 1) := by decide +kernel
theorem dX6_turn_76 : decode cX6_turn 76 = .ok (.if_icmp .ne 4, 3) := by decide +kernel
theorem dX6_turn_79 : decode cX6_turn 79 = .ok (.return_, 1) := by decide +kernel
theorem dX6_turn_80 : decode cX6_turn 80 = .ok (.goto (-75), 3) := by decide +kernel
theorem dX6_act_0 : decode cX6_act 0 = .ok (.aload_n 0, 1) := by decide +kernel
theorem dX6_act_1 : decode cX6_act 1 = .ok (.iload_n 1, 1) := by decide +kernel
theorem dX6_act_2 : decode cX6_act 2 = .ok (.iconst 1, 1) := by decide +kernel
theorem dX6_act_3 : decode cX6_act 3 = .ok (.invokevirtual 36, 3) := by decide +kernel
theorem dX6_act_6 : decode cX6_act 6 = .ok (.istore_n 2, 1) := by decide +kernel
theorem dX6_act_7 : decode cX6_act 7 = .ok (.aload_n 0, 1) := by decide +kernel
theorem dX6_act_8 : decode cX6_act 8 = .ok (.iload_n 1, 1) := by decide +kernel
theorem dX6_act_9 : decode cX6_act 9 = .ok (.iconst 5, 1) := by decide +kernel
theorem dX6_act_10 : decode cX6_act 10 = .ok (.invokevirtual 36, 3) := by decide +kernel
theorem dX6_act_13 : decode cX6_act 13 = .ok (.istore_n 3, 1) := by decide +kernel
theorem dX6_act_14 : decode cX6_act 14 = .ok (.aload_n 0, 1) := by decide +kernel
theorem dX6_act_15 : decode cX6_act 15 = .ok (.getfield 8, 3) := by decide +kernel
theorem dX6_act_18 : decode cX6_act 18 = .ok (.sipush 340, 3) := by decide +kernel
theorem dX6_act_21 : decode cX6_act 21 = .ok (.iload_n 2, 1) := by decide +kernel
theorem dX6_act_22 : decode cX6_act 22 = .ok (.iadd, 1) := by decide +kernel
theorem dX6_act_23 : decode cX6_act 23 = .ok (.iaload, 1) := by decide +kernel
theorem dX6_act_24 : decode cX6_act 24 = .ok (.istore 4, 2) := by decide +kernel
theorem dX6_act_26 : decode cX6_act 26 = .ok (.iload 4, 2) := by decide +kernel
theorem dX6_act_28 : decode cX6_act 28 = .ok (.ifCond .ge 5, 3) := by decide +kernel
theorem dX6_act_31 : decode cX6_act 31 = .ok (.iconst 1, 1) := by decide +kernel
theorem dX6_act_32 : decode cX6_act 32 = .ok (.ireturn, 1) := by decide +kernel
theorem dX6_act_33 : decode cX6_act 33 = .ok (.iload_n 3, 1) := by decide +kernel
theorem dX6_act_34 : decode cX6_act 34 = .ok (.iload 4, 2) := by decide +kernel
theorem dX6_act_36 : decode cX6_act 36 = .ok (.if_icmp .lt 5, 3) := by decide +kernel
theorem dX6_act_39 : decode cX6_act 39 = .ok (.iconst 2, 1) := by decide +kernel
theorem dX6_act_40 : decode cX6_act 40 = .ok (.ireturn, 1) := by decide +kernel
theorem dX6_act_41 : decode cX6_act 41 = .ok (.aload_n 0, 1) := by decide +kernel
theorem dX6_act_42 : decode cX6_act 42 = .ok (.getfield 8, 3) := by decide +kernel
theorem dX6_act_45 : decode cX6_act 45 = .ok (.sipush 30000, 3) := by decide +kernel
theorem dX6_act_48 : decode cX6_act 48 = .ok (.sipush 1000, 3) := by decide +kernel
theorem dX6_act_51 : decode cX6_act 51 = .ok (.iload_n 2, 1) := by decide +kernel
theorem dX6_act_52 : decode cX6_act 52 = .ok (.imul, 1) := by decide +kernel
theorem dX6_act_53 : decode cX6_act 53 = .ok (.iadd, 1) := by decide +kernel
theorem dX6_act_54 : decode cX6_act 54 = .ok (.iload_n 3, 1) := by decide +kernel
theorem dX6_act_55 : decode cX6_act 55 = .ok (.iadd, 1) := by decide +kernel
theorem dX6_act_56 : decode cX6_act 56 = .ok (.iaload, 1) := by decide +kernel
theorem dX6_act_57 : decode cX6_act 57 = .ok (.istore 5, 2) := by decide +kernel
theorem dX6_act_59 : decode cX6_act 59 = .ok (.iload 5, 2) := by decide +kernel
theorem dX6_act_61 : decode cX6_act 61 = .ok (.i2l, 1) := by decide +kernel
theorem dX6_act_62 : decode cX6_act 62 = .ok (.lconst 0, 1) := by decide +kernel
theorem dX6_act_63 : decode cX6_act 63 = .ok (.ldc2_w 89, 3) := by decide +kernel
theorem dX6_act_66 : decode cX6_act 66 = .ok (.invokestatic 32, 3) := by decide +kernel
theorem dX6_act_69 : decode cX6_act 69 = .ok (.ifCond .ne 6, 3) := by decide +kernel
theorem dX6_act_72 : decode cX6_act 72 = .ok (.bipush 10, 2) := by decide +kernel
theorem dX6_act_74 : decode cX6_act 74 = .ok (.ireturn, 1) := by decide +kernel
theorem dX6_act_75 : decode cX6_act 75 = .ok (.iload 5, 2) := by decide +kernel
theorem dX6_act_77 : decode cX6_act 77 = .ok (.ifCond .ne 6, 3) := by decide +kernel
theorem dX6_act_80 : decode cX6_act 80 = .ok (.bipush (-2), 2) := by decide +kernel
theorem dX6_act_82 : decode cX6_act 82 = .ok (.ireturn, 1) := by decide +kernel
theorem dX6_act_83 : decode cX6_act 83 = .ok (.iload_n 3, 1) := by decide +kernel
theorem dX6_act_84 : decode cX6_act 84 = .ok (.iconst 1, 1) := by decide +kernel
theorem dX6_act_85 : decode cX6_act 85 = .ok (.iadd, 1) := by decide +kernel
theorem dX6_act_86 : decode cX6_act 86 = .ok (.iload 4, 2) := by decide +kernel
theorem dX6_act_88 : decode cX6_act 88 = .ok (.if_icmp .lt 5, 3) := by decide +kernel
theorem dX6_act_91 : decode cX6_act 91 = .ok (.iconst 2, 1) := by decide +kernel
theorem dX6_act_92 : decode cX6_act 92 = .ok (.ireturn, 1) := by decide +kernel
theorem dX6_act_93 : decode cX6_act 93 = .ok (.aload_n 0, 1) := by decide +kernel
theorem dX6_act_94 : decode cX6_act 94 = .ok (.getfield 8, 3) := by decide +kernel
theorem dX6_act_97 : decode cX6_act 97 = .ok (.sipush 30000, 3) := by decide +kernel
theorem dX6_act_100 : decode cX6_act 100 = .ok (.sipush 1000, 3) := by decide +kernel
theorem dX6_act_103 : decode cX6_act 103 = .ok (.iload_n 2, 1) := by decide +kernel
theorem dX6_act_104 : decode cX6_act 104 = .ok (.imul, 1) := by decide +kernel
theorem dX6_act_105 : decode cX6_act 105 = .ok (.iadd, 1) := by decide +kernel
theorem dX6_act_106 : decode cX6_act 106 = .ok (.iload_n 3, 1) := by decide +kernel
theorem dX6_act_107 : decode cX6_act 107 = .ok (.iadd, 1) := by decide +kernel
theorem dX6_act_108 : decode cX6_act 108 = .ok (.iconst 1, 1) := by decide +kernel
theorem dX6_act_109 : decode cX6_act 109 = .ok (.iadd, 1) := by decide +kernel
theorem dX6_act_110 : decode cX6_act 110 = .ok (.iaload, 1) := by decide +kernel
theorem dX6_act_111 : decode cX6_act 111 = .ok (.istore 6, 2) := by decide +kernel
theorem dX6_act_113 : decode cX6_act 113 = .ok (.iload 5, 2) := by decide +kernel
theorem dX6_act_115 : decode cX6_act 115 = .ok (.tableswitch 218 1 11 #[57, 72, 80, 88, 115, 141, 166, 218, 218, 174, 182], 57) := by decide +kernel
theorem dX6_act_172 : decode cX6_act 172 = .ok (.iload 6, 2) := by decide +kernel
theorem dX6_act_174 : decode cX6_act 174 = .ok (.ifCond .le 11, 3) := by decide +kernel
theorem dX6_act_177 : decode cX6_act 177 = .ok (.aload_n 0, 1) := by decide +kernel
theorem dX6_act_178 : decode cX6_act 178 = .ok (.iload_n 1, 1) := by decide +kernel
theorem dX6_act_179 : decode cX6_act 179 = .ok (.iconst 4, 1) := by decide +kernel
theorem dX6_act_180 : decode cX6_act 180 = .ok (.iload 6, 2) := by decide +kernel
theorem dX6_act_182 : decode cX6_act 182 = .ok (.invokevirtual 59, 3) := by decide +kernel
theorem dX6_act_185 : decode cX6_act 185 = .ok (.iconst 0, 1) := by decide +kernel
theorem dX6_act_186 : decode cX6_act 186 = .ok (.ireturn, 1) := by decide +kernel
theorem dX6_act_187 : decode cX6_act 187 = .ok (.aload_n 0, 1) := by decide +kernel
theorem dX6_act_188 : decode cX6_act 188 = .ok (.iload_n 1, 1) := by decide +kernel
theorem dX6_act_189 : decode cX6_act 189 = .ok (.iload 6, 2) := by decide +kernel
theorem dX6_act_191 : decode cX6_act 191 = .ok (.invokevirtual 91, 3) := by decide +kernel
theorem dX6_act_194 : decode cX6_act 194 = .ok (.ireturn, 1) := by decide +kernel
theorem dX6_act_195 : decode cX6_act 195 = .ok (.aload_n 0, 1) := by decide +kernel
theorem dX6_act_196 : decode cX6_act 196 = .ok (.iload_n 1, 1) := by decide +kernel
theorem dX6_act_197 : decode cX6_act 197 = .ok (.iload 6, 2) := by decide +kernel
theorem dX6_act_199 : decode cX6_act 199 = .ok (.invokevirtual 94, 3) := by decide +kernel
theorem dX6_act_202 : decode cX6_act 202 = .ok (.ireturn, 1) := by decide +kernel
theorem dX6_act_203 : decode cX6_act 203 = .ok (.iload 6, 2) := by decide +kernel
theorem dX6_act_205 : decode cX6_act 205 = .ok (.i2l, 1) := by decide +kernel
theorem dX6_act_206 : decode cX6_act 206 = .ok (.lconst 0, 1) := by decide +kernel
theorem dX6_act_207 : decode cX6_act 207 = .ok (.ldc2_w 97, 3) := by decide +kernel
theorem dX6_act_210 : decode cX6_act 210 = .ok (.invokestatic 32, 3) := by decide +kernel
theorem dX6_act_213 : decode cX6_act 213 = .ok (.ifCond .ne 6, 3) := by decide +kernel
theorem dX6_act_216 : decode cX6_act 216 = .ok (.bipush 10, 2) := by decide +kernel
theorem dX6_act_218 : decode cX6_act 218 = .ok (.ireturn, 1) := by decide +kernel
theorem dX6_act_219 : decode cX6_act 219 = .ok (.aload_n 0, 1) := by decide +kernel
theorem dX6_act_220 : decode cX6_act 220 = .ok (.iload_n 1, 1) := by decide +kernel
theorem dX6_act_221 : decode cX6_act 221 = .ok (.iconst 2, 1) := by decide +kernel
theorem dX6_act_222 : decode cX6_act 222 = .ok (.iload 6, 2) := by decide +kernel
theorem dX6_act_224 : decode cX6_act 224 = .ok (.iconst (-1), 1) := by decide +kernel
theorem dX6_act_225 : decode cX6_act 225 = .ok (.invokevirtual 99, 3) := by decide +kernel
theorem dX6_act_228 : decode cX6_act 228 = .ok (.iconst (-1), 1) := by decide +kernel
theorem dX6_act_229 : decode cX6_act 229 = .ok (.ireturn, 1) := by decide +kernel
theorem dX6_act_230 : decode cX6_act 230 = .ok (.iload 6, 2) := by decide +kernel
theorem dX6_act_232 : decode cX6_act 232 = .ok (.i2l, 1) := by decide +kernel
theorem dX6_act_233 : decode cX6_act 233 = .ok (.lconst 0, 1) := by decide +kernel
theorem dX6_act_234 : decode cX6_act 234 = .ok (.ldc2_w 97, 3) := by decide +kernel
theorem dX6_act_237 : decode cX6_act 237 = .ok (.invokestatic 32, 3) := by decide +kernel
theorem dX6_act_240 : decode cX6_act 240 = .ok (.ifCond .ne 6, 3) := by decide +kernel
theorem dX6_act_243 : decode cX6_act 243 = .ok (.bipush 10, 2) := by decide +kernel
theorem dX6_act_245 : decode cX6_act 245 = .ok (.ireturn, 1) := by decide +kernel
theorem dX6_act_246 : decode cX6_act 246 = .ok (.aload_n 0, 1) := by decide +kernel
theorem dX6_act_247 : decode cX6_act 247 = .ok (.iload 6, 2) := by decide +kernel
theorem dX6_act_249 : decode cX6_act 249 = .ok (.invokevirtual 103, 3) := by decide +kernel
theorem dX6_act_252 : decode cX6_act 252 = .ok (.istore 7, 2) := by decide +kernel
theorem dX6_act_254 : decode cX6_act 254 = .ok (.iconst 0, 1) := by decide +kernel
theorem dX6_act_255 : decode cX6_act 255 = .ok (.ireturn, 1) := by decide +kernel
theorem dX6_act_256 : decode cX6_act 256 = .ok (.iload 6, 2) := by decide +kernel
theorem dX6_act_258 : decode cX6_act 258 = .ok (.ifCond .gt 5, 3) := by decide +kernel
theorem dX6_act_261 : decode cX6_act 261 = .ok (.iconst 0, 1) := by decide +kernel
theorem dX6_act_262 : decode cX6_act 262 = .ok (.ireturn, 1) := by decide +kernel
theorem dX6_act_263 : decode cX6_act 263 = .ok (.aload_n 0, 1) := by decide +kernel
theorem dX6_act_264 : decode cX6_act 264 = .ok (.iload_n 1, 1) := by decide +kernel
theorem dX6_act_265 : decode cX6_act 265 = .ok (.iconst 3, 1) := by decide +kernel
theorem dX6_act_266 : decode cX6_act 266 = .ok (.iconst (-1), 1) := by decide +kernel
theorem dX6_act_267 : decode cX6_act 267 = .ok (.aload_n 0, 1) := by decide +kernel
theorem dX6_act_268 : decode cX6_act 268 = .ok (.getfield 8, 3) := by decide +kernel
theorem dX6_act_271 : decode cX6_act 271 = .ok (.iconst 0, 1) := by decide +kernel
theorem dX6_act_272 : decode cX6_act 272 = .ok (.iaload, 1) := by decide +kernel
theorem dX6_act_273 : decode cX6_act 273 = .ok (.iload 6, 2) := by decide +kernel
theorem dX6_act_275 : decode cX6_act 275 = .ok (.iadd, 1) := by decide +kernel
theorem dX6_act_276 : decode cX6_act 276 = .ok (.invokevirtual 99, 3) := by decide +kernel
theorem dX6_act_279 : decode cX6_act 279 = .ok (.iconst (-1), 1) := by decide +kernel
theorem dX6_act_280 : decode cX6_act 280 = .ok (.ireturn, 1) := by decide +kernel
theorem dX6_act_281 : decode cX6_act 281 = .ok (.aload_n 0, 1) := by decide +kernel
theorem dX6_act_282 : decode cX6_act 282 = .ok (.iload_n 1, 1) := by decide +kernel
theorem dX6_act_283 : decode cX6_act 283 = .ok (.iload 6, 2) := by decide +kernel
theorem dX6_act_285 : decode cX6_act 285 = .ok (.invokevirtual 106, 3) := by decide +kernel
theorem dX6_act_288 : decode cX6_act 288 = .ok (.ireturn, 1) := by decide +kernel
theorem dX6_act_289 : decode cX6_act 289 = .ok (.aload_n 0, 1) := by decide +kernel
theorem dX6_act_290 : decode cX6_act 290 = .ok (.iload_n 1, 1) := by decide +kernel
theorem dX6_act_291 : decode cX6_act 291 = .ok (.iload 6, 2) := by decide +kernel
theorem dX6_act_293 : decode cX6_act 293 = .ok (.invokevirtual 109, 3) := by decide +kernel
theorem dX6_act_296 : decode cX6_act 296 = .ok (.ireturn, 1) := by decide +kernel
theorem dX6_act_297 : decode cX6_act 297 = .ok (.iload 6, 2) := by decide +kernel
theorem dX6_act_299 : decode cX6_act 299 = .ok (.i2l, 1) := by decide +kernel
theorem dX6_act_300 : decode cX6_act 300 = .ok (.lconst 0, 1) := by decide +kernel
theorem dX6_act_301 : decode cX6_act 301 = .ok (.ldc2_w 112, 3) := by decide +kernel
theorem dX6_act_304 : decode cX6_act 304 = .ok (.invokestatic 32, 3) := by decide +kernel
theorem dX6_act_307 : decode cX6_act 307 = .ok (.ifCond .ne 8, 3) := by decide +kernel
theorem dX6_act_310 : decode cX6_act 310 = .ok (.bipush 10, 2) := by decide +kernel
theorem dX6_act_312 : decode cX6_act 312 = .ok (.goto 20, 3) := by decide +kernel
theorem dX6_act_315 : decode cX6_act 315 = .ok (.iload 6, 2) := by decide +kernel
theorem dX6_act_317 : decode cX6_act 317 = .ok (.ifCond .eq 9, 3) := by decide +kernel
theorem dX6_act_320 : decode cX6_act 320 = .ok (.iload 6, 2) := by decide +kernel
theorem dX6_act_322 : decode cX6_act 322 = .ok (.iconst 3, 1) := by decide +kernel
theorem dX6_act_323 : decode cX6_act 323 = .ok (.if_icmp .ne 7, 3) := by decide +kernel
theorem dX6_act_326 : decode cX6_act 326 = .ok (.iconst 5, 1) := by decide +kernel
theorem dX6_act_327 : decode cX6_act 327 = .ok (.goto 5, 3) := by decide +kernel
theorem dX6_act_330 : decode cX6_act 330 = .ok (.bipush 6, 2) := by decide +kernel
theorem dX6_act_332 : decode cX6_act 332 = .ok (.ireturn, 1) := by decide +kernel
theorem dX6_act_333 : decode cX6_act 333 = .ok (.aload_n 0, 1) := by decide +kernel
theorem dX6_act_334 : decode cX6_act 334 = .ok (.iload_n 1, 1) := by decide +kernel
theorem dX6_act_335 : decode cX6_act 335 = .ok (.iload 5, 2) := by decide +kernel
theorem dX6_act_337 : decode cX6_act 337 = .ok (.iload 6, 2) := by decide +kernel
theorem dX6_act_339 : decode cX6_act 339 = .ok (.invokevirtual 114, 3) := by decide +kernel
theorem dX6_act_342 : decode cX6_act 342 = .ok (.ireturn, 1) := by decide +kernel
theorem dX6_takesLock_0 : decode cX6_takesLock 0 = .ok (.iload_n 2, 1) := by decide +kernel
theorem dX6_takesLock_1 : decode cX6_takesLock 1 = .ok (.i2l, 1) := by decide +kernel
theorem dX6_takesLock_2 : decode cX6_takesLock 2 = .ok (.lconst 0, 1) := by decide +kernel
theorem dX6_takesLock_3 : decode cX6_takesLock 3 = .ok (.ldc2_w 118, 3) := by decide +kernel
theorem dX6_takesLock_6 : decode cX6_takesLock 6 = .ok (.invokestatic 32, 3) := by decide +kernel
theorem dX6_takesLock_9 : decode cX6_takesLock 9 = .ok (.ifCond .eq 18, 3) := by decide +kernel
theorem dX6_takesLock_12 : decode cX6_takesLock 12 = .ok (.aload_n 0, 1) := by decide +kernel
theorem dX6_takesLock_13 : decode cX6_takesLock 13 = .ok (.getfield 8, 3) := by decide +kernel
theorem dX6_takesLock_16 : decode cX6_takesLock 16 = .ok (.sipush 240, 3) := by decide +kernel
theorem dX6_takesLock_19 : decode cX6_takesLock 19 = .ok (.iload_n 2, 1) := by decide +kernel
theorem dX6_takesLock_20 : decode cX6_takesLock 20 = .ok (.iadd, 1) := by decide +kernel
theorem dX6_takesLock_21 : decode cX6_takesLock 21 = .ok (.iaload, 1) := by decide +kernel
theorem dX6_takesLock_22 : decode cX6_takesLock 22 = .ok (.bipush (-2), 2) := by decide +kernel
theorem dX6_takesLock_24 : decode cX6_takesLock 24 = .ok (.if_icmp .ne 6, 3) := by decide +kernel
theorem dX6_takesLock_27 : decode cX6_takesLock 27 = .ok (.bipush 7, 2) := by decide +kernel
theorem dX6_takesLock_29 : decode cX6_takesLock 29 = .ok (.ireturn, 1) := by decide +kernel
theorem dX6_takesLock_30 : decode cX6_takesLock 30 = .ok (.aload_n 0, 1) := by decide +kernel
theorem dX6_takesLock_31 : decode cX6_takesLock 31 = .ok (.getfield 8, 3) := by decide +kernel
theorem dX6_takesLock_34 : decode cX6_takesLock 34 = .ok (.sipush 240, 3) := by decide +kernel
theorem dX6_takesLock_37 : decode cX6_takesLock 37 = .ok (.iload_n 2, 1) := by decide +kernel
theorem dX6_takesLock_38 : decode cX6_takesLock 38 = .ok (.iadd, 1) := by decide +kernel
theorem dX6_takesLock_39 : decode cX6_takesLock 39 = .ok (.iaload, 1) := by decide +kernel
theorem dX6_takesLock_40 : decode cX6_takesLock 40 = .ok (.istore_n 3, 1) := by decide +kernel
theorem dX6_takesLock_41 : decode cX6_takesLock 41 = .ok (.iload_n 3, 1) := by decide +kernel
theorem dX6_takesLock_42 : decode cX6_takesLock 42 = .ok (.iload_n 1, 1) := by decide +kernel
theorem dX6_takesLock_43 : decode cX6_takesLock 43 = .ok (.if_icmp .ne 6, 3) := by decide +kernel
theorem dX6_takesLock_46 : decode cX6_takesLock 46 = .ok (.bipush 11, 2) := by decide +kernel
theorem dX6_takesLock_48 : decode cX6_takesLock 48 = .ok (.ireturn, 1) := by decide +kernel
theorem dX6_takesLock_49 : decode cX6_takesLock 49 = .ok (.iload_n 3, 1) := by decide +kernel
theorem dX6_takesLock_50 : decode cX6_takesLock 50 = .ok (.ifCond .ge 16, 3) := by decide +kernel
theorem dX6_takesLock_53 : decode cX6_takesLock 53 = .ok (.aload_n 0, 1) := by decide +kernel
theorem dX6_takesLock_54 : decode cX6_takesLock 54 = .ok (.getfield 8, 3) := by decide +kernel
theorem dX6_takesLock_57 : decode cX6_takesLock 57 = .ok (.sipush 240, 3) := by decide +kernel
theorem dX6_takesLock_60 : decode cX6_takesLock 60 = .ok (.iload_n 2, 1) := by decide +kernel
theorem dX6_takesLock_61 : decode cX6_takesLock 61 = .ok (.iadd, 1) := by decide +kernel
theorem dX6_takesLock_62 : decode cX6_takesLock 62 = .ok (.iload_n 1, 1) := by decide +kernel
theorem dX6_takesLock_63 : decode cX6_takesLock 63 = .ok (.iastore, 1) := by decide +kernel
theorem dX6_takesLock_64 : decode cX6_takesLock 64 = .ok (.iconst 0, 1) := by decide +kernel
theorem dX6_takesLock_65 : decode cX6_takesLock 65 = .ok (.ireturn, 1) := by decide +kernel
theorem dX6_takesLock_66 : decode cX6_takesLock 66 = .ok (.iconst 0, 1) := by decide +kernel
theorem dX6_takesLock_67 : decode cX6_takesLock 67 = .ok (.istore 4, 2) := by decide +kernel
theorem dX6_takesLock_69 : decode cX6_takesLock 69 = .ok (.iload_n 3, 1) := by decide +kernel
theorem dX6_takesLock_70 : decode cX6_takesLock 70 = .ok (.istore 5, 2) := by decide +kernel
theorem dX6_takesLock_72 : decode cX6_takesLock 72 = .ok (.iload 5, 2) := by decide +kernel
theorem dX6_takesLock_74 : decode cX6_takesLock 74 = .ok (.ifCond .lt 50, 3) := by decide +kernel
theorem dX6_takesLock_77 : decode cX6_takesLock 77 = .ok (.iload 5, 2) := by decide +kernel
theorem dX6_takesLock_79 : decode cX6_takesLock 79 = .ok (.iload_n 1, 1) := by decide +kernel
theorem dX6_takesLock_80 : decode cX6_takesLock 80 = .ok (.if_icmp .eq 44, 3) := by decide +kernel
theorem dX6_takesLock_83 : decode cX6_takesLock 83 = .ok (.iinc 4 1, 3) := by decide +kernel
theorem dX6_takesLock_86 : decode cX6_takesLock 86 = .ok (.aload_n 0, 1) := by decide +kernel
theorem dX6_takesLock_87 : decode cX6_takesLock 87 = .ok (.iload 5, 2) := by decide +kernel
theorem dX6_takesLock_89 : decode cX6_takesLock 89 = .ok (.bipush 6, 2) := by decide +kernel
theorem dX6_takesLock_91 : decode cX6_takesLock 91 = .ok (.invokevirtual 36, 3) := by decide +kernel
theorem dX6_takesLock_94 : decode cX6_takesLock 94 = .ok (.iconst 1, 1) := by decide +kernel
theorem dX6_takesLock_95 : decode cX6_takesLock 95 = .ok (.if_icmp .ne 23, 3) := by decide +kernel
theorem dX6_takesLock_98 : decode cX6_takesLock 98 = .ok (.aload_n 0, 1) := by decide +kernel
theorem dX6_takesLock_99 : decode cX6_takesLock 99 = .ok (.getfield 8, 3) := by decide +kernel
theorem dX6_takesLock_102 : decode cX6_takesLock 102 = .ok (.sipush 240, 3) := by decide +kernel
theorem dX6_takesLock_105 : decode cX6_takesLock 105 = .ok (.aload_n 0, 1) := by decide +kernel
theorem dX6_takesLock_106 : decode cX6_takesLock 106 = .ok (.iload 5, 2) := by decide +kernel
theorem dX6_takesLock_108 : decode cX6_takesLock 108 = .ok (.bipush 7, 2) := by decide +kernel
theorem dX6_takesLock_110 : decode cX6_takesLock 110 = .ok (.invokevirtual 36, 3) := by decide +kernel
theorem dX6_takesLock_113 : decode cX6_takesLock 113 = .ok (.iadd, 1) := by decide +kernel
theorem dX6_takesLock_114 : decode cX6_takesLock 114 = .ok (.iaload, 1) := by decide +kernel
theorem dX6_takesLock_115 : decode cX6_takesLock 115 = .ok (.goto 4, 3) := by decide +kernel
theorem dX6_takesLock_118 : decode cX6_takesLock 118 = .ok (.iconst (-1), 1) := by decide +kernel
theorem dX6_takesLock_119 : decode cX6_takesLock 119 = .ok (.istore 5, 2) := by decide +kernel
theorem dX6_takesLock_121 : decode cX6_takesLock 121 = .ok (.goto (-49), 3) := by decide +kernel
theorem dX6_takesLock_124 : decode cX6_takesLock 124 = .ok (.iload 5, 2) := by decide +kernel
theorem dX6_takesLock_126 : decode cX6_takesLock 126 = .ok (.ifCond .ge 13, 3) := by decide +kernel
theorem dX6_takesLock_129 : decode cX6_takesLock 129 = .ok (.aload_n 0, 1) := by decide +kernel
theorem dX6_takesLock_130 : decode cX6_takesLock 130 = .ok (.iload_n 1, 1) := by decide +kernel
theorem dX6_takesLock_131 : decode cX6_takesLock 131 = .ok (.iconst 1, 1) := by decide +kernel
theorem dX6_takesLock_132 : decode cX6_takesLock 132 = .ok (.iload_n 2, 1) := by decide +kernel
theorem dX6_takesLock_133 : decode cX6_takesLock 133 = .ok (.iconst (-1), 1) := by decide +kernel
theorem dX6_takesLock_134 : decode cX6_takesLock 134 = .ok (.invokevirtual 99, 3) := by decide +kernel
theorem dX6_takesLock_137 : decode cX6_takesLock 137 = .ok (.iconst (-1), 1) := by decide +kernel
theorem dX6_takesLock_138 : decode cX6_takesLock 138 = .ok (.ireturn, 1) := by decide +kernel
theorem dX6_takesLock_139 : decode cX6_takesLock 139 = .ok (.aload_n 0, 1) := by decide +kernel
theorem dX6_takesLock_140 : decode cX6_takesLock 140 = .ok (.getfield 8, 3) := by decide +kernel
theorem dX6_takesLock_143 : decode cX6_takesLock 143 = .ok (.iconst 4, 1) := by decide +kernel
theorem dX6_takesLock_144 : decode cX6_takesLock 144 = .ok (.dup2, 1) := by decide +kernel
theorem dX6_takesLock_145 : decode cX6_takesLock 145 = .ok (.iaload, 1) := by decide +kernel
theorem dX6_takesLock_146 : decode cX6_takesLock 146 = .ok (.iconst 1, 1) := by decide +kernel
theorem dX6_takesLock_147 : decode cX6_takesLock 147 = .ok (.iadd, 1) := by decide +kernel
theorem dX6_takesLock_148 : decode cX6_takesLock 148 = .ok (.iastore, 1) := by decide +kernel
theorem dX6_takesLock_149 : decode cX6_takesLock 149 = .ok (.aload_n 0, 1) := by decide +kernel
theorem dX6_takesLock_150 : decode cX6_takesLock 150 = .ok (.getfield 8, 3) := by decide +kernel
theorem dX6_takesLock_153 : decode cX6_takesLock 153 = .ok (.iconst 5, 1) := by decide +kernel
theorem dX6_takesLock_154 : decode cX6_takesLock 154 = .ok (.iload 4, 2) := by decide +kernel
theorem dX6_takesLock_156 : decode cX6_takesLock 156 = .ok (.iconst 1, 1) := by decide +kernel
theorem dX6_takesLock_157 : decode cX6_takesLock 157 = .ok (.iadd, 1) := by decide +kernel
theorem dX6_takesLock_158 : decode cX6_takesLock 158 = .ok (.iastore, 1) := by decide +kernel
theorem dX6_takesLock_159 : decode cX6_takesLock 159 = .ok (.aload_n 0, 1) := by decide +kernel
theorem dX6_takesLock_160 : decode cX6_takesLock 160 = .ok (.getfield 8, 3) := by decide +kernel
theorem dX6_takesLock_163 : decode cX6_takesLock 163 = .ok (.bipush 16, 2) := by decide +kernel
theorem dX6_takesLock_165 : decode cX6_takesLock 165 = .ok (.iload_n 1, 1) := by decide +kernel
theorem dX6_takesLock_166 : decode cX6_takesLock 166 = .ok (.iastore, 1) := by decide +kernel
theorem dX6_takesLock_167 : decode cX6_takesLock 167 = .ok (.iload_n 3, 1) := by decide +kernel
theorem dX6_takesLock_168 : decode cX6_takesLock 168 = .ok (.istore 5, 2) := by decide +kernel
theorem dX6_takesLock_170 : decode cX6_takesLock 170 = .ok (.iconst 1, 1) := by decide +kernel
theorem dX6_takesLock_171 : decode cX6_takesLock 171 = .ok (.istore 6, 2) := by decide +kernel
theorem dX6_takesLock_173 : decode cX6_takesLock 173 = .ok (.iload 6, 2) := by decide +kernel
theorem dX6_takesLock_175 : decode cX6_takesLock 175 = .ok (.iload 4, 2) := by decide +kernel
theorem dX6_takesLock_177 : decode cX6_takesLock 177 = .ok (.if_icmp .gt 44, 3) := by decide +kernel
theorem dX6_takesLock_180 : decode cX6_takesLock 180 = .ok (.aload_n 0, 1) := by decide +kernel
theorem dX6_takesLock_181 : decode cX6_takesLock 181 = .ok (.getfield 8, 3) := by decide +kernel
theorem dX6_takesLock_184 : decode cX6_takesLock 184 = .ok (.bipush 16, 2) := by decide +kernel
theorem dX6_takesLock_186 : decode cX6_takesLock 186 = .ok (.iload 6, 2) := by decide +kernel
theorem dX6_takesLock_188 : decode cX6_takesLock 188 = .ok (.iadd, 1) := by decide +kernel
theorem dX6_takesLock_189 : decode cX6_takesLock 189 = .ok (.iload 5, 2) := by decide +kernel
theorem dX6_takesLock_191 : decode cX6_takesLock 191 = .ok (.iastore, 1) := by decide +kernel
theorem dX6_takesLock_192 : decode cX6_takesLock 192 = .ok (.aload_n 0, 1) := by decide +kernel
theorem dX6_takesLock_193 : decode cX6_takesLock 193 = .ok (.getfield 8, 3) := by decide +kernel
theorem dX6_takesLock_196 : decode cX6_takesLock 196 = .ok (.sipush 240, 3) := by decide +kernel
theorem dX6_takesLock_199 : decode cX6_takesLock 199 = .ok (.aload_n 0, 1) := by decide +kernel
theorem dX6_takesLock_200 : decode cX6_takesLock 200 = .ok (.iload 5, 2) := by decide +kernel
theorem dX6_takesLock_202 : decode cX6_takesLock 202 = .ok (.bipush 7, 2) := by decide +kernel
theorem dX6_takesLock_204 : decode cX6_takesLock 204 = .ok (.invokevirtual 36, 3) := by decide +kernel
theorem dX6_takesLock_207 : decode cX6_takesLock 207 = .ok (.iconst 0, 1) := by decide +kernel
theorem dX6_takesLock_208 : decode cX6_takesLock 208 = .ok (.invokestatic 120, 3) := by decide +kernel
theorem dX6_takesLock_211 : decode cX6_takesLock 211 = .ok (.iadd, 1) := by decide +kernel
theorem dX6_takesLock_212 : decode cX6_takesLock 212 = .ok (.iaload, 1) := by decide +kernel
theorem dX6_takesLock_213 : decode cX6_takesLock 213 = .ok (.istore 5, 2) := by decide +kernel
theorem dX6_takesLock_215 : decode cX6_takesLock 215 = .ok (.iinc 6 1, 3) := by decide +kernel
theorem dX6_takesLock_218 : decode cX6_takesLock 218 = .ok (.goto (-45), 3) := by decide +kernel
theorem dX6_takesLock_221 : decode cX6_takesLock 221 = .ok (.bipush 12, 2) := by decide +kernel
theorem dX6_takesLock_223 : decode cX6_takesLock 223 = .ok (.ireturn, 1) := by decide +kernel
theorem dX6_givesLock_0 : decode cX6_givesLock 0 = .ok (.iload_n 2, 1) := by decide +kernel
theorem dX6_givesLock_1 : decode cX6_givesLock 1 = .ok (.i2l, 1) := by decide +kernel
theorem dX6_givesLock_2 : decode cX6_givesLock 2 = .ok (.lconst 0, 1) := by decide +kernel
theorem dX6_givesLock_3 : decode cX6_givesLock 3 = .ok (.ldc2_w 118, 3) := by decide +kernel
theorem dX6_givesLock_6 : decode cX6_givesLock 6 = .ok (.invokestatic 32, 3) := by decide +kernel
theorem dX6_givesLock_9 : decode cX6_givesLock 9 = .ok (.ifCond .eq 18, 3) := by decide +kernel
theorem dX6_givesLock_12 : decode cX6_givesLock 12 = .ok (.aload_n 0, 1) := by decide +kernel
theorem dX6_givesLock_13 : decode cX6_givesLock 13 = .ok (.getfield 8, 3) := by decide +kernel
theorem dX6_givesLock_16 : decode cX6_givesLock 16 = .ok (.sipush 240, 3) := by decide +kernel
theorem dX6_givesLock_19 : decode cX6_givesLock 19 = .ok (.iload_n 2, 1) := by decide +kernel
theorem dX6_givesLock_20 : decode cX6_givesLock 20 = .ok (.iadd, 1) := by decide +kernel
theorem dX6_givesLock_21 : decode cX6_givesLock 21 = .ok (.iaload, 1) := by decide +kernel
theorem dX6_givesLock_22 : decode cX6_givesLock 22 = .ok (.bipush (-2), 2) := by decide +kernel
theorem dX6_givesLock_24 : decode cX6_givesLock 24 = .ok (.if_icmp .ne 6, 3) := by decide +kernel
theorem dX6_givesLock_27 : decode cX6_givesLock 27 = .ok (.bipush 7, 2) := by decide +kernel
theorem dX6_givesLock_29 : decode cX6_givesLock 29 = .ok (.ireturn, 1) := by decide +kernel
theorem dX6_givesLock_30 : decode cX6_givesLock 30 = .ok (.aload_n 0, 1) := by decide +kernel
theorem dX6_givesLock_31 : decode cX6_givesLock 31 = .ok (.getfield 8, 3) := by decide +kernel
theorem dX6_givesLock_34 : decode cX6_givesLock 34 = .ok (.sipush 240, 3) := by decide +kernel
theorem dX6_givesLock_37 : decode cX6_givesLock 37 = .ok (.iload_n 2, 1) := by decide +kernel
theorem dX6_givesLock_38 : decode cX6_givesLock 38 = .ok (.iadd, 1) := by decide +kernel
theorem dX6_givesLock_39 : decode cX6_givesLock 39 = .ok (.iaload, 1) := by decide +kernel
theorem dX6_givesLock_40 : decode cX6_givesLock 40 = .ok (.iload_n 1, 1) := by decide +kernel
theorem dX6_givesLock_41 : decode cX6_givesLock 41 = .ok (.if_icmp .eq 6, 3) := by decide +kernel
theorem dX6_givesLock_44 : decode cX6_givesLock 44 = .ok (.bipush 11, 2) := by decide +kernel
theorem dX6_givesLock_46 : decode cX6_givesLock 46 = .ok (.ireturn, 1) := by decide +kernel
theorem dX6_givesLock_47 : decode cX6_givesLock 47 = .ok (.aload_n 0, 1) := by decide +kernel
theorem dX6_givesLock_48 : decode cX6_givesLock 48 = .ok (.getfield 8, 3) := by decide +kernel
theorem dX6_givesLock_51 : decode cX6_givesLock 51 = .ok (.sipush 240, 3) := by decide +kernel
theorem dX6_givesLock_54 : decode cX6_givesLock 54 = .ok (.iload_n 2, 1) := by decide +kernel
theorem dX6_givesLock_55 : decode cX6_givesLock 55 = .ok (.iadd, 1) := by decide +kernel
theorem dX6_givesLock_56 : decode cX6_givesLock 56 = .ok (.iconst (-1), 1) := by decide +kernel
theorem dX6_givesLock_57 : decode cX6_givesLock 57 = .ok (.iastore, 1) := by decide +kernel
theorem dX6_givesLock_58 : decode cX6_givesLock 58 = .ok (.aload_n 0, 1) := by decide +kernel
theorem dX6_givesLock_59 : decode cX6_givesLock 59 = .ok (.iload_n 2, 1) := by decide +kernel
theorem dX6_givesLock_60 : decode cX6_givesLock 60 = .ok (.invokevirtual 73, 3) := by decide +kernel
theorem dX6_givesLock_63 : decode cX6_givesLock 63 = .ok (.iconst 0, 1) := by decide +kernel
theorem dX6_givesLock_64 : decode cX6_givesLock 64 = .ok (.ireturn, 1) := by decide +kernel
theorem dX6_forks_0 : decode cX6_forks 0 = .ok (.iload_n 2, 1) := by decide +kernel
theorem dX6_forks_1 : decode cX6_forks 1 = .ok (.i2l, 1) := by decide +kernel
theorem dX6_forks_2 : decode cX6_forks 2 = .ok (.lconst 0, 1) := by decide +kernel
theorem dX6_forks_3 : decode cX6_forks 3 = .ok (.ldc2_w 125, 3) := by decide +kernel
theorem dX6_forks_6 : decode cX6_forks 6 = .ok (.invokestatic 32, 3) := by decide +kernel
theorem dX6_forks_9 : decode cX6_forks 9 = .ok (.ifCond .ne 6, 3) := by decide +kernel
theorem dX6_forks_12 : decode cX6_forks 12 = .ok (.bipush 10, 2) := by decide +kernel
theorem dX6_forks_14 : decode cX6_forks 14 = .ok (.ireturn, 1) := by decide +kernel
theorem dX6_forks_15 : decode cX6_forks 15 = .ok (.aload_n 0, 1) := by decide +kernel
theorem dX6_forks_16 : decode cX6_forks 16 = .ok (.getfield 8, 3) := by decide +kernel
theorem dX6_forks_19 : decode cX6_forks 19 = .ok (.iconst 1, 1) := by decide +kernel
theorem dX6_forks_20 : decode cX6_forks 20 = .ok (.iaload, 1) := by decide +kernel
theorem dX6_forks_21 : decode cX6_forks 21 = .ok (.sipush 200, 3) := by decide +kernel
theorem dX6_forks_24 : decode cX6_forks 24 = .ok (.if_icmp .ne 6, 3) := by decide +kernel
theorem dX6_forks_27 : decode cX6_forks 27 = .ok (.bipush 11, 2) := by decide +kernel
theorem dX6_forks_29 : decode cX6_forks 29 = .ok (.ireturn, 1) := by decide +kernel
theorem dX6_forks_30 : decode cX6_forks 30 = .ok (.aload_n 0, 1) := by decide +kernel
theorem dX6_forks_31 : decode cX6_forks 31 = .ok (.aload_n 0, 1) := by decide +kernel
theorem dX6_forks_32 : decode cX6_forks 32 = .ok (.iload_n 1, 1) := by decide +kernel
theorem dX6_forks_33 : decode cX6_forks 33 = .ok (.iconst 0, 1) := by decide +kernel
theorem dX6_forks_34 : decode cX6_forks 34 = .ok (.invokevirtual 36, 3) := by decide +kernel
theorem dX6_forks_37 : decode cX6_forks 37 = .ok (.iload_n 2, 1) := by decide +kernel
theorem dX6_forks_38 : decode cX6_forks 38 = .ok (.aload_n 0, 1) := by decide +kernel
theorem dX6_forks_39 : decode cX6_forks 39 = .ok (.iload_n 1, 1) := by decide +kernel
theorem dX6_forks_40 : decode cX6_forks 40 = .ok (.iconst 2, 1) := by decide +kernel
theorem dX6_forks_41 : decode cX6_forks 41 = .ok (.invokevirtual 36, 3) := by decide +kernel
theorem dX6_forks_44 : decode cX6_forks 44 = .ok (.aload_n 0, 1) := by decide +kernel
theorem dX6_forks_45 : decode cX6_forks 45 = .ok (.iload_n 1, 1) := by decide +kernel
theorem dX6_forks_46 : decode cX6_forks 46 = .ok (.bipush 10, 2) := by decide +kernel
theorem dX6_forks_48 : decode cX6_forks 48 = .ok (.invokevirtual 36, 3) := by decide +kernel
theorem dX6_forks_51 : decode cX6_forks 51 = .ok (.aload_n 0, 1) := by decide +kernel
theorem dX6_forks_52 : decode cX6_forks 52 = .ok (.iload_n 1, 1) := by decide +kernel
theorem dX6_forks_53 : decode cX6_forks 53 = .ok (.bipush 11, 2) := by decide +kernel
theorem dX6_forks_55 : decode cX6_forks 55 = .ok (.invokevirtual 36, 3) := by decide +kernel
theorem dX6_forks_58 : decode cX6_forks 58 = .ok (.invokevirtual 127, 3) := by decide +kernel
theorem dX6_forks_61 : decode cX6_forks 61 = .ok (.istore_n 3, 1) := by decide +kernel
theorem dX6_forks_62 : decode cX6_forks 62 = .ok (.iconst 0, 1) := by decide +kernel
theorem dX6_forks_63 : decode cX6_forks 63 = .ok (.ireturn, 1) := by decide +kernel
theorem dX6_says_0 : decode cX6_says 0 = .ok (.iload_n 2, 1) := by decide +kernel
theorem dX6_says_1 : decode cX6_says 1 = .ok (.i2l, 1) := by decide +kernel
theorem dX6_says_2 : decode cX6_says 2 = .ok (.lconst 0, 1) := by decide +kernel
theorem dX6_says_3 : decode cX6_says 3 = .ok (.ldc2_w 131, 3) := by decide +kernel
theorem dX6_says_6 : decode cX6_says 6 = .ok (.invokestatic 32, 3) := by decide +kernel
theorem dX6_says_9 : decode cX6_says 9 = .ok (.ifCond .ne 6, 3) := by decide +kernel
theorem dX6_says_12 : decode cX6_says 12 = .ok (.bipush 10, 2) := by decide +kernel
theorem dX6_says_14 : decode cX6_says 14 = .ok (.ireturn, 1) := by decide +kernel
theorem dX6_says_15 : decode cX6_says 15 = .ok (.aload_n 0, 1) := by decide +kernel
theorem dX6_says_16 : decode cX6_says 16 = .ok (.iload_n 1, 1) := by decide +kernel
theorem dX6_says_17 : decode cX6_says 17 = .ok (.iconst 0, 1) := by decide +kernel
theorem dX6_says_18 : decode cX6_says 18 = .ok (.invokevirtual 36, 3) := by decide +kernel
theorem dX6_says_21 : decode cX6_says 21 = .ok (.iload_n 2, 1) := by decide +kernel
theorem dX6_says_22 : decode cX6_says 22 = .ok (.invokestatic 133, 3) := by decide +kernel
theorem dX6_says_25 : decode cX6_says 25 = .ok (.ifCond .ne 5, 3) := by decide +kernel
theorem dX6_says_28 : decode cX6_says 28 = .ok (.iconst 3, 1) := by decide +kernel
theorem dX6_says_29 : decode cX6_says 29 = .ok (.ireturn, 1) := by decide +kernel
theorem dX6_says_30 : decode cX6_says 30 = .ok (.iload_n 2, 1) := by decide +kernel
theorem dX6_says_31 : decode cX6_says 31 = .ok (.iconst 1, 1) := by decide +kernel
theorem dX6_says_32 : decode cX6_says 32 = .ok (.if_icmp .eq 8, 3) := by decide +kernel
theorem dX6_says_35 : decode cX6_says 35 = .ok (.iload_n 2, 1) := by decide +kernel
theorem dX6_says_36 : decode cX6_says 36 = .ok (.iconst 2, 1) := by decide +kernel
theorem dX6_says_37 : decode cX6_says 37 = .ok (.if_icmp .ne 19, 3) := by decide +kernel
theorem dX6_says_40 : decode cX6_says 40 = .ok (.aload_n 0, 1) := by decide +kernel
theorem dX6_says_41 : decode cX6_says 41 = .ok (.iload_n 1, 1) := by decide +kernel
theorem dX6_says_42 : decode cX6_says 42 = .ok (.bipush 13, 2) := by decide +kernel
theorem dX6_says_44 : decode cX6_says 44 = .ok (.aload_n 0, 1) := by decide +kernel
theorem dX6_says_45 : decode cX6_says 45 = .ok (.iload_n 1, 1) := by decide +kernel
theorem dX6_says_46 : decode cX6_says 46 = .ok (.bipush 13, 2) := by decide +kernel
theorem dX6_says_48 : decode cX6_says 48 = .ok (.invokevirtual 36, 3) := by decide +kernel
theorem dX6_says_51 : decode cX6_says 51 = .ok (.iconst 1, 1) := by decide +kernel
theorem dX6_says_52 : decode cX6_says 52 = .ok (.iadd, 1) := by decide +kernel
theorem dX6_says_53 : decode cX6_says 53 = .ok (.invokevirtual 59, 3) := by decide +kernel
theorem dX6_says_56 : decode cX6_says 56 = .ok (.iconst 0, 1) := by decide +kernel
theorem dX6_says_57 : decode cX6_says 57 = .ok (.ireturn, 1) := by decide +kernel
theorem dX6_smalls_0 : decode cX6_smalls 0 = .ok (.iload_n 2, 1) := by decide +kernel
theorem dX6_smalls_1 : decode cX6_smalls 1 = .ok (.bipush 8, 2) := by decide +kernel
theorem dX6_smalls_3 : decode cX6_smalls 3 = .ok (.if_icmp .ne 65, 3) := by decide +kernel
theorem dX6_smalls_6 : decode cX6_smalls 6 = .ok (.aload_n 0, 1) := by decide +kernel
theorem dX6_smalls_7 : decode cX6_smalls 7 = .ok (.iload_n 1, 1) := by decide +kernel
theorem dX6_smalls_8 : decode cX6_smalls 8 = .ok (.bipush 14, 2) := by decide +kernel
theorem dX6_smalls_10 : decode cX6_smalls 10 = .ok (.invokevirtual 36, 3) := by decide +kernel
theorem dX6_smalls_13 : decode cX6_smalls 13 = .ok (.ifCond .lt 6, 3) := by decide +kernel
theorem dX6_smalls_16 : decode cX6_smalls 16 = .ok (.bipush 11, 2) := by decide +kernel
theorem dX6_smalls_18 : decode cX6_smalls 18 = .ok (.ireturn, 1) := by decide +kernel
theorem dX6_smalls_19 : decode cX6_smalls 19 = .ok (.iload_n 3, 1) := by decide +kernel
theorem dX6_smalls_20 : decode cX6_smalls 20 = .ok (.ifCond .ge 5, 3) := by decide +kernel
theorem dX6_smalls_23 : decode cX6_smalls 23 = .ok (.iconst 4, 1) := by decide +kernel
theorem dX6_smalls_24 : decode cX6_smalls 24 = .ok (.ireturn, 1) := by decide +kernel
theorem dX6_smalls_25 : decode cX6_smalls 25 = .ok (.aload_n 0, 1) := by decide +kernel
theorem dX6_smalls_26 : decode cX6_smalls 26 = .ok (.iload_n 1, 1) := by decide +kernel
theorem dX6_smalls_27 : decode cX6_smalls 27 = .ok (.bipush 14, 2) := by decide +kernel
theorem dX6_smalls_29 : decode cX6_smalls 29 = .ok (.iload_n 3, 1) := by decide +kernel
theorem dX6_smalls_30 : decode cX6_smalls 30 = .ok (.invokevirtual 59, 3) := by decide +kernel
theorem dX6_smalls_33 : decode cX6_smalls 33 = .ok (.iconst 0, 1) := by decide +kernel
theorem dX6_smalls_34 : decode cX6_smalls 34 = .ok (.istore 4, 2) := by decide +kernel
theorem dX6_smalls_36 : decode cX6_smalls 36 = .ok (.iload 4, 2) := by decide +kernel
theorem dX6_smalls_38 : decode cX6_smalls 38 = .ok (.iload_n 3, 1) := by decide +kernel
theorem dX6_smalls_39 : decode cX6_smalls 39 = .ok (.if_icmp .ge 27, 3) := by decide +kernel
theorem dX6_smalls_42 : decode cX6_smalls 42 = .ok (.aload_n 0, 1) := by decide +kernel
theorem dX6_smalls_43 : decode cX6_smalls 43 = .ok (.getfield 8, 3) := by decide +kernel
theorem dX6_smalls_46 : decode cX6_smalls 46 = .ok (.sipush 4400, 3) := by decide +kernel
theorem dX6_smalls_49 : decode cX6_smalls 49 = .ok (.sipush 128, 3) := by decide +kernel
theorem dX6_smalls_52 : decode cX6_smalls 52 = .ok (.iload_n 1, 1) := by decide +kernel
theorem dX6_smalls_53 : decode cX6_smalls 53 = .ok (.imul, 1) := by decide +kernel
theorem dX6_smalls_54 : decode cX6_smalls 54 = .ok (.iadd, 1) := by decide +kernel
theorem dX6_smalls_55 : decode cX6_smalls 55 = .ok (.iload 4, 2) := by decide +kernel
theorem dX6_smalls_57 : decode cX6_smalls 57 = .ok (.iadd, 1) := by decide +kernel
theorem dX6_smalls_58 : decode cX6_smalls 58 = .ok (.iconst 0, 1) := by decide +kernel
theorem dX6_smalls_59 : decode cX6_smalls 59 = .ok (.iastore, 1) := by decide +kernel
theorem dX6_smalls_60 : decode cX6_smalls 60 = .ok (.iinc 4 1, 3) := by decide +kernel
theorem dX6_smalls_63 : decode cX6_smalls 63 = .ok (.goto (-27), 3) := by decide +kernel
theorem dX6_smalls_66 : decode cX6_smalls 66 = .ok (.iconst 0, 1) := by decide +kernel
theorem dX6_smalls_67 : decode cX6_smalls 67 = .ok (.ireturn, 1) := by decide +kernel
theorem dX6_smalls_68 : decode cX6_smalls 68 = .ok (.aload_n 0, 1) := by decide +kernel
theorem dX6_smalls_69 : decode cX6_smalls 69 = .ok (.iload_n 1, 1) := by decide +kernel
theorem dX6_smalls_70 : decode cX6_smalls 70 = .ok (.bipush 14, 2) := by decide +kernel
theorem dX6_smalls_72 : decode cX6_smalls 72 = .ok (.invokevirtual 36, 3) := by decide +kernel
theorem dX6_smalls_75 : decode cX6_smalls 75 = .ok (.ifCond .ge 6, 3) := by decide +kernel
theorem dX6_smalls_78 : decode cX6_smalls 78 = .ok (.bipush 8, 2) := by decide +kernel
theorem dX6_smalls_80 : decode cX6_smalls 80 = .ok (.ireturn, 1) := by decide +kernel
theorem dX6_smalls_81 : decode cX6_smalls 81 = .ok (.iload_n 3, 1) := by decide +kernel
theorem dX6_smalls_82 : decode cX6_smalls 82 = .ok (.i2l, 1) := by decide +kernel
theorem dX6_smalls_83 : decode cX6_smalls 83 = .ok (.lconst 0, 1) := by decide +kernel
theorem dX6_smalls_84 : decode cX6_smalls 84 = .ok (.aload_n 0, 1) := by decide +kernel
theorem dX6_smalls_85 : decode cX6_smalls 85 = .ok (.iload_n 1, 1) := by decide +kernel
theorem dX6_smalls_86 : decode cX6_smalls 86 = .ok (.bipush 14, 2) := by decide +kernel
theorem dX6_smalls_88 : decode cX6_smalls 88 = .ok (.invokevirtual 36, 3) := by decide +kernel
theorem dX6_smalls_91 : decode cX6_smalls 91 = .ok (.iconst 1, 1) := by decide +kernel
theorem dX6_smalls_92 : decode cX6_smalls 92 = .ok (.isub, 1) := by decide +kernel
theorem dX6_smalls_93 : decode cX6_smalls 93 = .ok (.i2l, 1) := by decide +kernel
theorem dX6_smalls_94 : decode cX6_smalls 94 = .ok (.invokestatic 32, 3) := by decide +kernel
theorem dX6_smalls_97 : decode cX6_smalls 97 = .ok (.ifCond .ne 6, 3) := by decide +kernel
theorem dX6_smalls_100 : decode cX6_smalls 100 = .ok (.bipush 9, 2) := by decide +kernel
theorem dX6_smalls_102 : decode cX6_smalls 102 = .ok (.ireturn, 1) := by decide +kernel
theorem dX6_smalls_103 : decode cX6_smalls 103 = .ok (.sipush 4400, 3) := by decide +kernel
theorem dX6_smalls_106 : decode cX6_smalls 106 = .ok (.sipush 128, 3) := by decide +kernel
theorem dX6_smalls_109 : decode cX6_smalls 109 = .ok (.iload_n 1, 1) := by decide +kernel
theorem dX6_smalls_110 : decode cX6_smalls 110 = .ok (.imul, 1) := by decide +kernel
theorem dX6_smalls_111 : decode cX6_smalls 111 = .ok (.iadd, 1) := by decide +kernel
theorem dX6_smalls_112 : decode cX6_smalls 112 = .ok (.iload_n 3, 1) := by decide +kernel
theorem dX6_smalls_113 : decode cX6_smalls 113 = .ok (.iadd, 1) := by decide +kernel
theorem dX6_smalls_114 : decode cX6_smalls 114 = .ok (.istore 4, 2) := by decide +kernel
theorem dX6_smalls_116 : decode cX6_smalls 116 = .ok (.iload_n 2, 1) := by decide +kernel
theorem dX6_smalls_117 : decode cX6_smalls 117 = .ok (.bipush 9, 2) := by decide +kernel
theorem dX6_smalls_119 : decode cX6_smalls 119 = .ok (.if_icmp .ne 20, 3) := by decide +kernel
theorem dX6_smalls_122 : decode cX6_smalls 122 = .ok (.aload_n 0, 1) := by decide +kernel
theorem dX6_smalls_123 : decode cX6_smalls 123 = .ok (.getfield 8, 3) := by decide +kernel
theorem dX6_smalls_126 : decode cX6_smalls 126 = .ok (.iload 4, 2) := by decide +kernel
theorem dX6_smalls_128 : decode cX6_smalls 128 = .ok (.aload_n 0, 1) := by decide +kernel
theorem dX6_smalls_129 : decode cX6_smalls 129 = .ok (.getfield 8, 3) := by decide +kernel
theorem dX6_smalls_132 : decode cX6_smalls 132 = .ok (.iconst 0, 1) := by decide +kernel
theorem dX6_smalls_133 : decode cX6_smalls 133 = .ok (.iaload, 1) := by decide +kernel
theorem dX6_smalls_134 : decode cX6_smalls 134 = .ok (.i2s, 1) := by decide +kernel
theorem dX6_smalls_135 : decode cX6_smalls 135 = .ok (.iastore, 1) := by decide +kernel
theorem dX6_smalls_136 : decode cX6_smalls 136 = .ok (.goto 26, 3) := by decide +kernel
theorem dX6_smalls_139 : decode cX6_smalls 139 = .ok (.aload_n 0, 1) := by decide +kernel
theorem dX6_smalls_140 : decode cX6_smalls 140 = .ok (.getfield 8, 3) := by decide +kernel
theorem dX6_smalls_143 : decode cX6_smalls 143 = .ok (.iload 4, 2) := by decide +kernel
theorem dX6_smalls_145 : decode cX6_smalls 145 = .ok (.iaload, 1) := by decide +kernel
theorem dX6_smalls_146 : decode cX6_smalls 146 = .ok (.ifCond .le 16, 3) := by decide +kernel
theorem dX6_smalls_149 : decode cX6_smalls 149 = .ok (.aload_n 0, 1) := by decide +kernel
theorem dX6_smalls_150 : decode cX6_smalls 150 = .ok (.iload_n 1, 1) := by decide +kernel
theorem dX6_smalls_151 : decode cX6_smalls 151 = .ok (.iconst 4, 1) := by decide +kernel
theorem dX6_smalls_152 : decode cX6_smalls 152 = .ok (.aload_n 0, 1) := by decide +kernel
theorem dX6_smalls_153 : decode cX6_smalls 153 = .ok (.getfield 8, 3) := by decide +kernel
theorem dX6_smalls_156 : decode cX6_smalls 156 = .ok (.iload 4, 2) := by decide +kernel
theorem dX6_smalls_158 : decode cX6_smalls 158 = .ok (.iaload, 1) := by decide +kernel
theorem dX6_smalls_159 : decode cX6_smalls 159 = .ok (.invokevirtual 59, 3) := by decide +kernel
theorem dX6_smalls_162 : decode cX6_smalls 162 = .ok (.iconst 0, 1) := by decide +kernel
theorem dX6_smalls_163 : decode cX6_smalls 163 = .ok (.ireturn, 1) := by decide +kernel
theorem dX6_wakes_0 : decode cX6_wakes 0 = .ok (.aload_n 0, 1) := by decide +kernel
theorem dX6_wakes_1 : decode cX6_wakes 1 = .ok (.getfield 8, 3) := by decide +kernel
theorem dX6_wakes_4 : decode cX6_wakes 4 = .ok (.iconst 0, 1) := by decide +kernel
theorem dX6_wakes_5 : decode cX6_wakes 5 = .ok (.iaload, 1) := by decide +kernel
theorem dX6_wakes_6 : decode cX6_wakes 6 = .ok (.istore_n 1, 1) := by decide +kernel
theorem dX6_wakes_7 : decode cX6_wakes 7 = .ok (.iconst 0, 1) := by decide +kernel
theorem dX6_wakes_8 : decode cX6_wakes 8 = .ok (.istore_n 2, 1) := by decide +kernel
theorem dX6_wakes_9 : decode cX6_wakes 9 = .ok (.iload_n 2, 1) := by decide +kernel
theorem dX6_wakes_10 : decode cX6_wakes 10 = .ok (.aload_n 0, 1) := by decide +kernel
theorem dX6_wakes_11 : decode cX6_wakes 11 = .ok (.getfield 8, 3) := by decide +kernel
theorem dX6_wakes_14 : decode cX6_wakes 14 = .ok (.iconst 1, 1) := by decide +kernel
theorem dX6_wakes_15 : decode cX6_wakes 15 = .ok (.iaload, 1) := by decide +kernel
theorem dX6_wakes_16 : decode cX6_wakes 16 = .ok (.if_icmp .ge 108, 3) := by decide +kernel
theorem dX6_wakes_19 : decode cX6_wakes 19 = .ok (.aload_n 0, 1) := by decide +kernel
theorem dX6_wakes_20 : decode cX6_wakes 20 = .ok (.iload_n 2, 1) := by decide +kernel
theorem dX6_wakes_21 : decode cX6_wakes 21 = .ok (.bipush 6, 2) := by decide +kernel
theorem dX6_wakes_23 : decode cX6_wakes 23 = .ok (.invokevirtual 36, 3) := by decide +kernel
theorem dX6_wakes_26 : decode cX6_wakes 26 = .ok (.iconst 4, 1) := by decide +kernel
theorem dX6_wakes_27 : decode cX6_wakes 27 = .ok (.if_icmp .ne 6, 3) := by decide +kernel
theorem dX6_wakes_30 : decode cX6_wakes 30 = .ok (.goto 88, 3) := by decide +kernel
theorem dX6_wakes_33 : decode cX6_wakes 33 = .ok (.aload_n 0, 1) := by decide +kernel
theorem dX6_wakes_34 : decode cX6_wakes 34 = .ok (.iload_n 2, 1) := by decide +kernel
theorem dX6_wakes_35 : decode cX6_wakes 35 = .ok (.bipush 6, 2) := by decide +kernel
theorem dX6_wakes_37 : decode cX6_wakes 37 = .ok (.invokevirtual 36, 3) := by decide +kernel
theorem dX6_wakes_40 : decode cX6_wakes 40 = .ok (.iconst 3, 1) := by decide +kernel
theorem dX6_wakes_41 : decode cX6_wakes 41 = .ok (.if_icmp .ne 19, 3) := by decide +kernel
theorem dX6_wakes_44 : decode cX6_wakes 44 = .ok (.aload_n 0, 1) := by decide +kernel
theorem dX6_wakes_45 : decode cX6_wakes 45 = .ok (.iload_n 2, 1) := by decide +kernel
theorem dX6_wakes_46 : decode cX6_wakes 46 = .ok (.bipush 8, 2) := by decide +kernel
theorem dX6_wakes_48 : decode cX6_wakes 48 = .ok (.invokevirtual 36, 3) := by decide +kernel
theorem dX6_wakes_51 : decode cX6_wakes 51 = .ok (.iload_n 1, 1) := by decide +kernel
theorem dX6_wakes_52 : decode cX6_wakes 52 = .ok (.if_icmp .ne 8, 3) := by decide +kernel
theorem dX6_wakes_55 : decode cX6_wakes 55 = .ok (.aload_n 0, 1) := by decide +kernel
theorem dX6_wakes_56 : decode cX6_wakes 56 = .ok (.iload_n 2, 1) := by decide +kernel
theorem dX6_wakes_57 : decode cX6_wakes 57 = .ok (.invokevirtual 70, 3) := by decide +kernel
theorem dX6_wakes_60 : decode cX6_wakes 60 = .ok (.aload_n 0, 1) := by decide +kernel
theorem dX6_wakes_61 : decode cX6_wakes 61 = .ok (.iload_n 2, 1) := by decide +kernel
theorem dX6_wakes_62 : decode cX6_wakes 62 = .ok (.invokevirtual 43, 3) := by decide +kernel
theorem dX6_wakes_65 : decode cX6_wakes 65 = .ok (.ifCond .eq 53, 3) := by decide +kernel
theorem dX6_wakes_68 : decode cX6_wakes 68 = .ok (.aload_n 0, 1) := by decide +kernel
theorem dX6_wakes_69 : decode cX6_wakes 69 = .ok (.iload_n 2, 1) := by decide +kernel
theorem dX6_wakes_70 : decode cX6_wakes 70 = .ok (.bipush 12, 2) := by decide +kernel
theorem dX6_wakes_72 : decode cX6_wakes 72 = .ok (.invokevirtual 36, 3) := by decide +kernel
theorem dX6_wakes_75 : decode cX6_wakes 75 = .ok (.iload_n 1, 1) := by decide +kernel
theorem dX6_wakes_76 : decode cX6_wakes 76 = .ok (.if_icmp .eq 6, 3) := by decide +kernel
theorem dX6_wakes_79 : decode cX6_wakes 79 = .ok (.goto 39, 3) := by decide +kernel
theorem dX6_wakes_82 : decode cX6_wakes 82 = .ok (.aload_n 0, 1) := by decide +kernel
theorem dX6_wakes_83 : decode cX6_wakes 83 = .ok (.iload_n 2, 1) := by decide +kernel
theorem dX6_wakes_84 : decode cX6_wakes 84 = .ok (.bipush 12, 2) := by decide +kernel
theorem dX6_wakes_86 : decode cX6_wakes 86 = .ok (.iload_n 1, 1) := by decide +kernel
theorem dX6_wakes_87 : decode cX6_wakes 87 = .ok (.aload_n 0, 1) := by decide +kernel
theorem dX6_wakes_88 : decode cX6_wakes 88 = .ok (.iload_n 2, 1) := by decide +kernel
theorem dX6_wakes_89 : decode cX6_wakes 89 = .ok (.bipush 10, 2) := by decide +kernel
theorem dX6_wakes_91 : decode cX6_wakes 91 = .ok (.invokevirtual 36, 3) := by decide +kernel
theorem dX6_wakes_94 : decode cX6_wakes 94 = .ok (.iadd, 1) := by decide +kernel
theorem dX6_wakes_95 : decode cX6_wakes 95 = .ok (.invokevirtual 59, 3) := by decide +kernel
theorem dX6_wakes_98 : decode cX6_wakes 98 = .ok (.aload_n 0, 1) := by decide +kernel
theorem dX6_wakes_99 : decode cX6_wakes 99 = .ok (.iload_n 2, 1) := by decide +kernel
theorem dX6_wakes_100 : decode cX6_wakes 100 = .ok (.bipush 13, 2) := by decide +kernel
theorem dX6_wakes_102 : decode cX6_wakes 102 = .ok (.aload_n 0, 1) := by decide +kernel
theorem dX6_wakes_103 : decode cX6_wakes 103 = .ok (.iload_n 2, 1) := by decide +kernel
theorem dX6_wakes_104 : decode cX6_wakes 104 = .ok (.bipush 11, 2) := by decide +kernel
theorem dX6_wakes_106 : decode cX6_wakes 106 = .ok (.invokevirtual 36, 3) := by decide +kernel
theorem dX6_wakes_109 : decode cX6_wakes 109 = .ok (.invokevirtual 59, 3) := by decide +kernel
theorem dX6_wakes_112 : decode cX6_wakes 112 = .ok (.aload_n 0, 1) := by decide +kernel
theorem dX6_wakes_113 : decode cX6_wakes 113 = .ok (.bipush 9, 2) := by decide +kernel
theorem dX6_wakes_115 : decode cX6_wakes 115 = .ok (.invokevirtual 63, 3) := by decide +kernel
theorem dX6_wakes_118 : decode cX6_wakes 118 = .ok (.iinc 2 1, 3) := by decide +kernel
theorem dX6_wakes_121 : decode cX6_wakes 121 = .ok (.goto (-112), 3) := by decide +kernel
theorem dX6_wakes_124 : decode cX6_wakes 124 = .ok (.return_, 1) := by decide +kernel
theorem dX6_chooses_0 : decode cX6_chooses 0 = .ok (.iconst (-1), 1) := by decide +kernel
theorem dX6_chooses_1 : decode cX6_chooses 1 = .ok (.istore_n 2, 1) := by decide +kernel
theorem dX6_chooses_2 : decode cX6_chooses 2 = .ok (.iconst (-1), 1) := by decide +kernel
theorem dX6_chooses_3 : decode cX6_chooses 3 = .ok (.istore_n 3, 1) := by decide +kernel
theorem dX6_chooses_4 : decode cX6_chooses 4 = .ok (.iconst 0, 1) := by decide +kernel
theorem dX6_chooses_5 : decode cX6_chooses 5 = .ok (.istore 4, 2) := by decide +kernel
theorem dX6_chooses_7 : decode cX6_chooses 7 = .ok (.iload 4, 2) := by decide +kernel
theorem dX6_chooses_9 : decode cX6_chooses 9 = .ok (.aload_n 0, 1) := by decide +kernel
theorem dX6_chooses_10 : decode cX6_chooses 10 = .ok (.getfield 8, 3) := by decide +kernel
theorem dX6_chooses_13 : decode cX6_chooses 13 = .ok (.iconst 1, 1) := by decide +kernel
theorem dX6_chooses_14 : decode cX6_chooses 14 = .ok (.iaload, 1) := by decide +kernel
theorem dX6_chooses_15 : decode cX6_chooses 15 = .ok (.if_icmp .ge 61, 3) := by decide +kernel
theorem dX6_chooses_18 : decode cX6_chooses 18 = .ok (.aload_n 0, 1) := by decide +kernel
theorem dX6_chooses_19 : decode cX6_chooses 19 = .ok (.iload 4, 2) := by decide +kernel
theorem dX6_chooses_21 : decode cX6_chooses 21 = .ok (.bipush 6, 2) := by decide +kernel
theorem dX6_chooses_23 : decode cX6_chooses 23 = .ok (.invokevirtual 36, 3) := by decide +kernel
theorem dX6_chooses_26 : decode cX6_chooses 26 = .ok (.ifCond .ne 44, 3) := by decide +kernel
theorem dX6_chooses_29 : decode cX6_chooses 29 = .ok (.aload_n 0, 1) := by decide +kernel
theorem dX6_chooses_30 : decode cX6_chooses 30 = .ok (.getfield 28, 3) := by decide +kernel
theorem dX6_chooses_33 : decode cX6_chooses 33 = .ok (.iload 4, 2) := by decide +kernel
theorem dX6_chooses_35 : decode cX6_chooses 35 = .ok (.baload, 1) := by decide +kernel
theorem dX6_chooses_36 : decode cX6_chooses 36 = .ok (.ifCond .eq 6, 3) := by decide +kernel
theorem dX6_chooses_39 : decode cX6_chooses 39 = .ok (.goto 31, 3) := by decide +kernel
theorem dX6_chooses_42 : decode cX6_chooses 42 = .ok (.aload_n 0, 1) := by decide +kernel
theorem dX6_chooses_43 : decode cX6_chooses 43 = .ok (.iload 4, 2) := by decide +kernel
theorem dX6_chooses_45 : decode cX6_chooses 45 = .ok (.invokevirtual 67, 3) := by decide +kernel
theorem dX6_chooses_48 : decode cX6_chooses 48 = .ok (.istore 5, 2) := by decide +kernel
theorem dX6_chooses_50 : decode cX6_chooses 50 = .ok (.iload_n 2, 1) := by decide +kernel
theorem dX6_chooses_51 : decode cX6_chooses 51 = .ok (.ifCond .lt 13, 3) := by decide +kernel
theorem dX6_chooses_54 : decode cX6_chooses 54 = .ok (.aload_n 0, 1) := by decide +kernel
theorem dX6_chooses_55 : decode cX6_chooses 55 = .ok (.iload 5, 2) := by decide +kernel
theorem dX6_chooses_57 : decode cX6_chooses 57 = .ok (.iload_n 3, 1) := by decide +kernel
theorem dX6_chooses_58 : decode cX6_chooses 58 = .ok (.invokevirtual 55, 3) := by decide +kernel
theorem dX6_chooses_61 : decode cX6_chooses 61 = .ok (.ifCond .eq 9, 3) := by decide +kernel
theorem dX6_chooses_64 : decode cX6_chooses 64 = .ok (.iload 4, 2) := by decide +kernel
theorem dX6_chooses_66 : decode cX6_chooses 66 = .ok (.istore_n 2, 1) := by decide +kernel
theorem dX6_chooses_67 : decode cX6_chooses 67 = .ok (.iload 5, 2) := by decide +kernel
theorem dX6_chooses_69 : decode cX6_chooses 69 = .ok (.istore_n 3, 1) := by decide +kernel
theorem dX6_chooses_70 : decode cX6_chooses 70 = .ok (.iinc 4 1, 3) := by decide +kernel
theorem dX6_chooses_73 : decode cX6_chooses 73 = .ok (.goto (-66), 3) := by decide +kernel
theorem dX6_chooses_76 : decode cX6_chooses 76 = .ok (.aload_n 0, 1) := by decide +kernel
theorem dX6_chooses_77 : decode cX6_chooses 77 = .ok (.getfield 8, 3) := by decide +kernel
theorem dX6_chooses_80 : decode cX6_chooses 80 = .ok (.bipush 7, 2) := by decide +kernel
theorem dX6_chooses_82 : decode cX6_chooses 82 = .ok (.iload_n 1, 1) := by decide +kernel
theorem dX6_chooses_83 : decode cX6_chooses 83 = .ok (.iadd, 1) := by decide +kernel
theorem dX6_chooses_84 : decode cX6_chooses 84 = .ok (.iload_n 2, 1) := by decide +kernel
theorem dX6_chooses_85 : decode cX6_chooses 85 = .ok (.iastore, 1) := by decide +kernel
theorem dX6_chooses_86 : decode cX6_chooses 86 = .ok (.iload_n 2, 1) := by decide +kernel
theorem dX6_chooses_87 : decode cX6_chooses 87 = .ok (.ifCond .ge 4, 3) := by decide +kernel
theorem dX6_chooses_90 : decode cX6_chooses 90 = .ok (.return_, 1) := by decide +kernel
theorem dX6_chooses_91 : decode cX6_chooses 91 = .ok (.aload_n 0, 1) := by decide +kernel
theorem dX6_chooses_92 : decode cX6_chooses 92 = .ok (.getfield 28, 3) := by decide +kernel
theorem dX6_chooses_95 : decode cX6_chooses 95 = .ok (.iload_n 2, 1) := by decide +kernel
theorem dX6_chooses_96 : decode cX6_chooses 96 = .ok (.iconst 1, 1) := by decide +kernel
theorem dX6_chooses_97 : decode cX6_chooses 97 = .ok (.bastore, 1) := by decide +kernel
theorem dX6_chooses_98 : decode cX6_chooses 98 = .ok (.iconst 5, 1) := by decide +kernel
theorem dX6_chooses_99 : decode cX6_chooses 99 = .ok (.aload_n 0, 1) := by decide +kernel
theorem dX6_chooses_100 : decode cX6_chooses 100 = .ok (.getfield 8, 3) := by decide +kernel
theorem dX6_chooses_103 : decode cX6_chooses 103 = .ok (.iconst 3, 1) := by decide +kernel
theorem dX6_chooses_104 : decode cX6_chooses 104 = .ok (.iaload, 1) := by decide +kernel
theorem dX6_chooses_105 : decode cX6_chooses 105 = .ok (.imul, 1) := by decide +kernel
theorem dX6_chooses_106 : decode cX6_chooses 106 = .ok (.istore 4, 2) := by decide +kernel
theorem dX6_chooses_108 : decode cX6_chooses 108 = .ok (.aload_n 0, 1) := by decide +kernel
theorem dX6_chooses_109 : decode cX6_chooses 109 = .ok (.iload 4, 2) := by decide +kernel
theorem dX6_chooses_111 : decode cX6_chooses 111 = .ok (.aload_n 0, 1) := by decide +kernel
theorem dX6_chooses_112 : decode cX6_chooses 112 = .ok (.getfield 8, 3) := by decide +kernel
theorem dX6_chooses_115 : decode cX6_chooses 115 = .ok (.iconst 0, 1) := by decide +kernel
theorem dX6_chooses_116 : decode cX6_chooses 116 = .ok (.iaload, 1) := by decide +kernel
theorem dX6_chooses_117 : decode cX6_chooses 117 = .ok (.iload_n 1, 1) := by decide +kernel
theorem dX6_chooses_118 : decode cX6_chooses 118 = .ok (.iload_n 2, 1) := by decide +kernel
theorem dX6_chooses_119 : decode cX6_chooses 119 = .ok (.aload_n 0, 1) := by decide +kernel
theorem dX6_chooses_120 : decode cX6_chooses 120 = .ok (.iload_n 3, 1) := by decide +kernel
theorem dX6_chooses_121 : decode cX6_chooses 121 = .ok (.invokevirtual 47, 3) := by decide +kernel
theorem dX6_chooses_124 : decode cX6_chooses 124 = .ok (.aload_n 0, 1) := by decide +kernel
theorem dX6_chooses_125 : decode cX6_chooses 125 = .ok (.iload_n 3, 1) := by decide +kernel
theorem dX6_chooses_126 : decode cX6_chooses 126 = .ok (.invokevirtual 51, 3) := by decide +kernel
theorem dX6_chooses_129 : decode cX6_chooses 129 = .ok (.l2i, 1) := by decide +kernel
theorem dX6_chooses_130 : decode cX6_chooses 130 = .ok (.invokevirtual 136, 3) := by decide +kernel
theorem dX6_chooses_133 : decode cX6_chooses 133 = .ok (.aload_n 0, 1) := by decide +kernel
theorem dX6_chooses_134 : decode cX6_chooses 134 = .ok (.getfield 8, 3) := by decide +kernel
theorem dX6_chooses_137 : decode cX6_chooses 137 = .ok (.iconst 3, 1) := by decide +kernel
theorem dX6_chooses_138 : decode cX6_chooses 138 = .ok (.dup2, 1) := by decide +kernel
theorem dX6_chooses_139 : decode cX6_chooses 139 = .ok (.iaload, 1) := by decide +kernel
theorem dX6_chooses_140 : decode cX6_chooses 140 = .ok (.iconst 1, 1) := by decide +kernel
theorem dX6_chooses_141 : decode cX6_chooses 141 = .ok (.iadd, 1) := by decide +kernel
theorem dX6_chooses_142 : decode cX6_chooses 142 = .ok (.iastore, 1) := by decide +kernel
theorem dX6_chooses_143 : decode cX6_chooses 143 = .ok (.return_, 1) := by decide +kernel
theorem dX6_puts_0 : decode cX6_puts 0 = .ok (.iconst 0, 1) := by decide +kernel
theorem dX6_puts_1 : decode cX6_puts 1 = .ok (.istore 7, 2) := by decide +kernel
theorem dX6_puts_3 : decode cX6_puts 3 = .ok (.iload 7, 2) := by decide +kernel
theorem dX6_puts_5 : decode cX6_puts 5 = .ok (.iconst 5, 1) := by decide +kernel
theorem dX6_puts_6 : decode cX6_puts 6 = .ok (.if_icmp .ge 82, 3) := by decide +kernel
theorem dX6_puts_9 : decode cX6_puts 9 = .ok (.iload 7, 2) := by decide +kernel
theorem dX6_puts_11 : decode cX6_puts 11 = .ok (.ifCond .ne 7, 3) := by decide +kernel
theorem dX6_puts_14 : decode cX6_puts 14 = .ok (.iload_n 2, 1) := by decide +kernel
theorem dX6_puts_15 : decode cX6_puts 15 = .ok (.goto 37, 3) := by decide +kernel
theorem dX6_puts_18 : decode cX6_puts 18 = .ok (.iload 7, 2) := by decide +kernel
theorem dX6_puts_20 : decode cX6_puts 20 = .ok (.iconst 1, 1) := by decide +kernel
theorem dX6_puts_21 : decode cX6_puts 21 = .ok (.if_icmp .ne 7, 3) := by decide +kernel
theorem dX6_puts_24 : decode cX6_puts 24 = .ok (.iload_n 3, 1) := by decide +kernel
theorem dX6_puts_25 : decode cX6_puts 25 = .ok (.goto 27, 3) := by decide +kernel
theorem dX6_puts_28 : decode cX6_puts 28 = .ok (.iload 7, 2) := by decide +kernel
theorem dX6_puts_30 : decode cX6_puts 30 = .ok (.iconst 2, 1) := by decide +kernel
theorem dX6_puts_31 : decode cX6_puts 31 = .ok (.if_icmp .ne 8, 3) := by decide +kernel
theorem dX6_puts_34 : decode cX6_puts 34 = .ok (.iload 4, 2) := by decide +kernel
theorem dX6_puts_36 : decode cX6_puts 36 = .ok (.goto 16, 3) := by decide +kernel
theorem dX6_puts_39 : decode cX6_puts 39 = .ok (.iload 7, 2) := by decide +kernel
theorem dX6_puts_41 : decode cX6_puts 41 = .ok (.iconst 3, 1) := by decide +kernel
theorem dX6_puts_42 : decode cX6_puts 42 = .ok (.if_icmp .ne 8, 3) := by decide +kernel
theorem dX6_puts_45 : decode cX6_puts 45 = .ok (.iload 5, 2) := by decide +kernel
theorem dX6_puts_47 : decode cX6_puts 47 = .ok (.goto 5, 3) := by decide +kernel
theorem dX6_puts_50 : decode cX6_puts 50 = .ok (.iload 6, 2) := by decide +kernel
theorem dX6_puts_52 : decode cX6_puts 52 = .ok (.istore 8, 2) := by decide +kernel
theorem dX6_puts_54 : decode cX6_puts 54 = .ok (.aload_n 0, 1) := by decide +kernel
theorem dX6_puts_55 : decode cX6_puts 55 = .ok (.getfield 8, 3) := by decide +kernel
theorem dX6_puts_58 : decode cX6_puts 58 = .ok (.ldc 140, 2) := by decide +kernel
theorem dX6_puts_60 : decode cX6_puts 60 = .ok (.iload_n 1, 1) := by decide +kernel
theorem dX6_puts_61 : decode cX6_puts 61 = .ok (.iadd, 1) := by decide +kernel
theorem dX6_puts_62 : decode cX6_puts 62 = .ok (.iload 7, 2) := by decide +kernel
theorem dX6_puts_64 : decode cX6_puts 64 = .ok (.iadd, 1) := by decide +kernel
theorem dX6_puts_65 : decode cX6_puts 65 = .ok (.iload 8, 2) := by decide +kernel
theorem dX6_puts_67 : decode cX6_puts 67 = .ok (.iastore, 1) := by decide +kernel
theorem dX6_puts_68 : decode cX6_puts 68 = .ok (.aload_n 0, 1) := by decide +kernel
theorem dX6_puts_69 : decode cX6_puts 69 = .ok (.getfield 8, 3) := by decide +kernel
theorem dX6_puts_72 : decode cX6_puts 72 = .ok (.ldc 141, 2) := by decide +kernel
theorem dX6_puts_74 : decode cX6_puts 74 = .ok (.iload_n 1, 1) := by decide +kernel
theorem dX6_puts_75 : decode cX6_puts 75 = .ok (.iadd, 1) := by decide +kernel
theorem dX6_puts_76 : decode cX6_puts 76 = .ok (.iload 7, 2) := by decide +kernel
theorem dX6_puts_78 : decode cX6_puts 78 = .ok (.iadd, 1) := by decide +kernel
theorem dX6_puts_79 : decode cX6_puts 79 = .ok (.iload 8, 2) := by decide +kernel
theorem dX6_puts_81 : decode cX6_puts 81 = .ok (.iastore, 1) := by decide +kernel
theorem dX6_puts_82 : decode cX6_puts 82 = .ok (.iinc 7 1, 3) := by decide +kernel
theorem dX6_puts_85 : decode cX6_puts 85 = .ok (.goto (-82), 3) := by decide +kernel
theorem dX6_puts_88 : decode cX6_puts 88 = .ok (.return_, 1) := by decide +kernel
theorem dX6_tick_0 : decode cX6_tick 0 = .ok (.aload_n 0, 1) := by decide +kernel
theorem dX6_tick_1 : decode cX6_tick 1 = .ok (.invokevirtual 142, 3) := by decide +kernel
theorem dX6_tick_4 : decode cX6_tick 4 = .ok (.iconst 0, 1) := by decide +kernel
theorem dX6_tick_5 : decode cX6_tick 5 = .ok (.istore_n 1, 1) := by decide +kernel
theorem dX6_tick_6 : decode cX6_tick 6 = .ok (.iload_n 1, 1) := by decide +kernel
theorem dX6_tick_7 : decode cX6_tick 7 = .ok (.sipush 200, 3) := by decide +kernel
theorem dX6_tick_10 : decode cX6_tick 10 = .ok (.if_icmp .ge 16, 3) := by decide +kernel
theorem dX6_tick_13 : decode cX6_tick 13 = .ok (.aload_n 0, 1) := by decide +kernel
theorem dX6_tick_14 : decode cX6_tick 14 = .ok (.getfield 28, 3) := by decide +kernel
theorem dX6_tick_17 : decode cX6_tick 17 = .ok (.iload_n 1, 1) := by decide +kernel
theorem dX6_tick_18 : decode cX6_tick 18 = .ok (.iconst 0, 1) := by decide +kernel
theorem dX6_tick_19 : decode cX6_tick 19 = .ok (.bastore, 1) := by decide +kernel
theorem dX6_tick_20 : decode cX6_tick 20 = .ok (.iinc 1 1, 3) := by decide +kernel
theorem dX6_tick_23 : decode cX6_tick 23 = .ok (.goto (-17), 3) := by decide +kernel
theorem dX6_tick_26 : decode cX6_tick 26 = .ok (.iconst 0, 1) := by decide +kernel
theorem dX6_tick_27 : decode cX6_tick 27 = .ok (.istore_n 1, 1) := by decide +kernel
theorem dX6_tick_28 : decode cX6_tick 28 = .ok (.iload_n 1, 1) := by decide +kernel
theorem dX6_tick_29 : decode cX6_tick 29 = .ok (.iconst 4, 1) := by decide +kernel
theorem dX6_tick_30 : decode cX6_tick 30 = .ok (.if_icmp .ge 19, 3) := by decide +kernel
theorem dX6_tick_33 : decode cX6_tick 33 = .ok (.aload_n 0, 1) := by decide +kernel
theorem dX6_tick_34 : decode cX6_tick 34 = .ok (.getfield 8, 3) := by decide +kernel
theorem dX6_tick_37 : decode cX6_tick 37 = .ok (.bipush 7, 2) := by decide +kernel
theorem dX6_tick_39 : decode cX6_tick 39 = .ok (.iload_n 1, 1) := by decide +kernel
theorem dX6_tick_40 : decode cX6_tick 40 = .ok (.iadd, 1) := by decide +kernel
theorem dX6_tick_41 : decode cX6_tick 41 = .ok (.iconst (-1), 1) := by decide +kernel
theorem dX6_tick_42 : decode cX6_tick 42 = .ok (.iastore, 1) := by decide +kernel
theorem dX6_tick_43 : decode cX6_tick 43 = .ok (.iinc 1 1, 3) := by decide +kernel
theorem dX6_tick_46 : decode cX6_tick 46 = .ok (.goto (-18), 3) := by decide +kernel
theorem dX6_tick_49 : decode cX6_tick 49 = .ok (.iconst 0, 1) := by decide +kernel
theorem dX6_tick_50 : decode cX6_tick 50 = .ok (.istore_n 1, 1) := by decide +kernel
theorem dX6_tick_51 : decode cX6_tick 51 = .ok (.iload_n 1, 1) := by decide +kernel
theorem dX6_tick_52 : decode cX6_tick 52 = .ok (.aload_n 0, 1) := by decide +kernel
theorem dX6_tick_53 : decode cX6_tick 53 = .ok (.getfield 8, 3) := by decide +kernel
theorem dX6_tick_56 : decode cX6_tick 56 = .ok (.iconst 2, 1) := by decide +kernel
theorem dX6_tick_57 : decode cX6_tick 57 = .ok (.iaload, 1) := by decide +kernel
theorem dX6_tick_58 : decode cX6_tick 58 = .ok (.if_icmp .ge 14, 3) := by decide +kernel
theorem dX6_tick_61 : decode cX6_tick 61 = .ok (.aload_n 0, 1) := by decide +kernel
theorem dX6_tick_62 : decode cX6_tick 62 = .ok (.iload_n 1, 1) := by decide +kernel
theorem dX6_tick_63 : decode cX6_tick 63 = .ok (.invokevirtual 145, 3) := by decide +kernel
theorem dX6_tick_66 : decode cX6_tick 66 = .ok (.iinc 1 1, 3) := by decide +kernel
theorem dX6_tick_69 : decode cX6_tick 69 = .ok (.goto (-18), 3) := by decide +kernel
theorem dX6_tick_72 : decode cX6_tick 72 = .ok (.iconst 0, 1) := by decide +kernel
theorem dX6_tick_73 : decode cX6_tick 73 = .ok (.istore_n 1, 1) := by decide +kernel
theorem dX6_tick_74 : decode cX6_tick 74 = .ok (.iload_n 1, 1) := by decide +kernel
theorem dX6_tick_75 : decode cX6_tick 75 = .ok (.aload_n 0, 1) := by decide +kernel
theorem dX6_tick_76 : decode cX6_tick 76 = .ok (.getfield 8, 3) := by decide +kernel
theorem dX6_tick_79 : decode cX6_tick 79 = .ok (.iconst 2, 1) := by decide +kernel
theorem dX6_tick_80 : decode cX6_tick 80 = .ok (.iaload, 1) := by decide +kernel
theorem dX6_tick_81 : decode cX6_tick 81 = .ok (.if_icmp .ge 34, 3) := by decide +kernel
theorem dX6_tick_84 : decode cX6_tick 84 = .ok (.aload_n 0, 1) := by decide +kernel
theorem dX6_tick_85 : decode cX6_tick 85 = .ok (.getfield 8, 3) := by decide +kernel
theorem dX6_tick_88 : decode cX6_tick 88 = .ok (.bipush 7, 2) := by decide +kernel
theorem dX6_tick_90 : decode cX6_tick 90 = .ok (.iload_n 1, 1) := by decide +kernel
theorem dX6_tick_91 : decode cX6_tick 91 = .ok (.iadd, 1) := by decide +kernel
theorem dX6_tick_92 : decode cX6_tick 92 = .ok (.iaload, 1) := by decide +kernel
theorem dX6_tick_93 : decode cX6_tick 93 = .ok (.ifCond .lt 16, 3) := by decide +kernel
theorem dX6_tick_96 : decode cX6_tick 96 = .ok (.aload_n 0, 1) := by decide +kernel
theorem dX6_tick_97 : decode cX6_tick 97 = .ok (.aload_n 0, 1) := by decide +kernel
theorem dX6_tick_98 : decode cX6_tick 98 = .ok (.getfield 8, 3) := by decide +kernel
theorem dX6_tick_101 : decode cX6_tick 101 = .ok (.bipush 7, 2) := by decide +kernel
theorem dX6_tick_103 : decode cX6_tick 103 = .ok (.iload_n 1, 1) := by decide +kernel
theorem dX6_tick_104 : decode cX6_tick 104 = .ok (.iadd, 1) := by decide +kernel
theorem dX6_tick_105 : decode cX6_tick 105 = .ok (.iaload, 1) := by decide +kernel
theorem dX6_tick_106 : decode cX6_tick 106 = .ok (.invokevirtual 148, 3) := by decide +kernel
theorem dX6_tick_109 : decode cX6_tick 109 = .ok (.iinc 1 1, 3) := by decide +kernel
theorem dX6_tick_112 : decode cX6_tick 112 = .ok (.goto (-38), 3) := by decide +kernel
theorem dX6_tick_115 : decode cX6_tick 115 = .ok (.aload_n 0, 1) := by decide +kernel
theorem dX6_tick_116 : decode cX6_tick 116 = .ok (.getfield 8, 3) := by decide +kernel
theorem dX6_tick_119 : decode cX6_tick 119 = .ok (.iconst 0, 1) := by decide +kernel
theorem dX6_tick_120 : decode cX6_tick 120 = .ok (.dup2, 1) := by decide +kernel
theorem dX6_tick_121 : decode cX6_tick 121 = .ok (.iaload, 1) := by decide +kernel
theorem dX6_tick_122 : decode cX6_tick 122 = .ok (.iconst 1, 1) := by decide +kernel
theorem dX6_tick_123 : decode cX6_tick 123 = .ok (.iadd, 1) := by decide +kernel
theorem dX6_tick_124 : decode cX6_tick 124 = .ok (.iastore, 1) := by decide +kernel
theorem dX6_tick_125 : decode cX6_tick 125 = .ok (.return_, 1) := by decide +kernel
theorem dX6_program_0 : decode cX6_program 0 = .ok (.iload_n 1, 1) := by decide +kernel
theorem dX6_program_1 : decode cX6_program 1 = .ok (.i2l, 1) := by decide +kernel
theorem dX6_program_2 : decode cX6_program 2 = .ok (.lconst 0, 1) := by decide +kernel
theorem dX6_program_3 : decode cX6_program 3 = .ok (.ldc2_w 125, 3) := by decide +kernel
theorem dX6_program_6 : decode cX6_program 6 = .ok (.invokestatic 32, 3) := by decide +kernel
theorem dX6_program_9 : decode cX6_program 9 = .ok (.ifCond .eq 20, 3) := by decide +kernel
theorem dX6_program_12 : decode cX6_program 12 = .ok (.aload_n 0, 1) := by decide +kernel
theorem dX6_program_13 : decode cX6_program 13 = .ok (.getfield 8, 3) := by decide +kernel
theorem dX6_program_16 : decode cX6_program 16 = .ok (.sipush 340, 3) := by decide +kernel
theorem dX6_program_19 : decode cX6_program 19 = .ok (.iload_n 1, 1) := by decide +kernel
theorem dX6_program_20 : decode cX6_program 20 = .ok (.iadd, 1) := by decide +kernel
theorem dX6_program_21 : decode cX6_program 21 = .ok (.iaload, 1) := by decide +kernel
theorem dX6_program_22 : decode cX6_program 22 = .ok (.iconst 0, 1) := by decide +kernel
theorem dX6_program_23 : decode cX6_program 23 = .ok (.invokestatic 120, 3) := by decide +kernel
theorem dX6_program_26 : decode cX6_program 26 = .ok (.goto 4, 3) := by decide +kernel
theorem dX6_program_29 : decode cX6_program 29 = .ok (.iconst 0, 1) := by decide +kernel
theorem dX6_program_30 : decode cX6_program 30 = .ok (.istore 5, 2) := by decide +kernel
theorem dX6_program_32 : decode cX6_program 32 = .ok (.iload_n 1, 1) := by decide +kernel
theorem dX6_program_33 : decode cX6_program 33 = .ok (.i2l, 1) := by decide +kernel
theorem dX6_program_34 : decode cX6_program 34 = .ok (.lconst 0, 1) := by decide +kernel
theorem dX6_program_35 : decode cX6_program 35 = .ok (.ldc2_w 125, 3) := by decide +kernel
theorem dX6_program_38 : decode cX6_program 38 = .ok (.invokestatic 32, 3) := by decide +kernel
theorem dX6_program_41 : decode cX6_program 41 = .ok (.ifCond .eq 20, 3) := by decide +kernel
theorem dX6_program_44 : decode cX6_program 44 = .ok (.iload 4, 2) := by decide +kernel
theorem dX6_program_46 : decode cX6_program 46 = .ok (.i2l, 1) := by decide +kernel
theorem dX6_program_47 : decode cX6_program 47 = .ok (.lconst 0, 1) := by decide +kernel
theorem dX6_program_48 : decode cX6_program 48 = .ok (.ldc2_w 151, 3) := by decide +kernel
theorem dX6_program_51 : decode cX6_program 51 = .ok (.invokestatic 32, 3) := by decide +kernel
theorem dX6_program_54 : decode cX6_program 54 = .ok (.ifCond .eq 7, 3) := by decide +kernel
theorem dX6_program_57 : decode cX6_program 57 = .ok (.iconst 1, 1) := by decide +kernel
theorem dX6_program_58 : decode cX6_program 58 = .ok (.goto 4, 3) := by decide +kernel
theorem dX6_program_61 : decode cX6_program 61 = .ok (.iconst 0, 1) := by decide +kernel
theorem dX6_program_62 : decode cX6_program 62 = .ok (.istore 6, 2) := by decide +kernel
theorem dX6_program_64 : decode cX6_program 64 = .ok (.aload_n 0, 1) := by decide +kernel
theorem dX6_program_65 : decode cX6_program 65 = .ok (.iload 6, 2) := by decide +kernel
theorem dX6_program_67 : decode cX6_program 67 = .ok (.ifCond .ne 7, 3) := by decide +kernel
theorem dX6_program_70 : decode cX6_program 70 = .ok (.iconst 1, 1) := by decide +kernel
theorem dX6_program_71 : decode cX6_program 71 = .ok (.goto 19, 3) := by decide +kernel
theorem dX6_program_74 : decode cX6_program 74 = .ok (.iload 5, 2) := by decide +kernel
theorem dX6_program_76 : decode cX6_program 76 = .ok (.iload 4, 2) := by decide +kernel
theorem dX6_program_78 : decode cX6_program 78 = .ok (.iadd, 1) := by decide +kernel
theorem dX6_program_79 : decode cX6_program 79 = .ok (.sipush 1000, 3) := by decide +kernel
theorem dX6_program_82 : decode cX6_program 82 = .ok (.if_icmp .le 7, 3) := by decide +kernel
theorem dX6_program_85 : decode cX6_program 85 = .ok (.iconst 2, 1) := by decide +kernel
theorem dX6_program_86 : decode cX6_program 86 = .ok (.goto 4, 3) := by decide +kernel
theorem dX6_program_89 : decode cX6_program 89 = .ok (.iconst 0, 1) := by decide +kernel
theorem dX6_program_90 : decode cX6_program 90 = .ok (.invokevirtual 153, 3) := by decide +kernel
theorem dX6_program_93 : decode cX6_program 93 = .ok (.ifCond .eq 5, 3) := by decide +kernel
theorem dX6_program_96 : decode cX6_program 96 = .ok (.iconst (-1), 1) := by decide +kernel
theorem dX6_program_97 : decode cX6_program 97 = .ok (.ireturn, 1) := by decide +kernel
theorem dX6_program_98 : decode cX6_program 98 = .ok (.iconst 0, 1) := by decide +kernel
theorem dX6_program_99 : decode cX6_program 99 = .ok (.istore 7, 2) := by decide +kernel
theorem dX6_program_101 : decode cX6_program 101 = .ok (.iload 7, 2) := by decide +kernel
theorem dX6_program_103 : decode cX6_program 103 = .ok (.iload 4, 2) := by decide +kernel
theorem dX6_program_105 : decode cX6_program 105 = .ok (.if_icmp .ge 41, 3) := by decide +kernel
theorem dX6_program_108 : decode cX6_program 108 = .ok (.aload_n 0, 1) := by decide +kernel
theorem dX6_program_109 : decode cX6_program 109 = .ok (.getfield 8, 3) := by decide +kernel
theorem dX6_program_112 : decode cX6_program 112 = .ok (.sipush 30000, 3) := by decide +kernel
theorem dX6_program_115 : decode cX6_program 115 = .ok (.sipush 1000, 3) := by decide +kernel
theorem dX6_program_118 : decode cX6_program 118 = .ok (.iload_n 1, 1) := by decide +kernel
theorem dX6_program_119 : decode cX6_program 119 = .ok (.imul, 1) := by decide +kernel
theorem dX6_program_120 : decode cX6_program 120 = .ok (.iadd, 1) := by decide +kernel
theorem dX6_program_121 : decode cX6_program 121 = .ok (.iload 5, 2) := by decide +kernel
theorem dX6_program_123 : decode cX6_program 123 = .ok (.iadd, 1) := by decide +kernel
theorem dX6_program_124 : decode cX6_program 124 = .ok (.iload 7, 2) := by decide +kernel
theorem dX6_program_126 : decode cX6_program 126 = .ok (.iadd, 1) := by decide +kernel
theorem dX6_program_127 : decode cX6_program 127 = .ok (.lload_n 2, 1) := by decide +kernel
theorem dX6_program_128 : decode cX6_program 128 = .ok (.bipush 56, 2) := by decide +kernel
theorem dX6_program_130 : decode cX6_program 130 = .ok (.bipush 8, 2) := by decide +kernel
theorem dX6_program_132 : decode cX6_program 132 = .ok (.iload 7, 2) := by decide +kernel
theorem dX6_program_134 : decode cX6_program 134 = .ok (.imul, 1) := by decide +kernel
theorem dX6_program_135 : decode cX6_program 135 = .ok (.isub, 1) := by decide +kernel
theorem dX6_program_136 : decode cX6_program 136 = .ok (.lshr, 1) := by decide +kernel
theorem dX6_program_137 : decode cX6_program 137 = .ok (.l2i, 1) := by decide +kernel
theorem dX6_program_138 : decode cX6_program 138 = .ok (.i2b, 1) := by decide +kernel
theorem dX6_program_139 : decode cX6_program 139 = .ok (.iastore, 1) := by decide +kernel
theorem dX6_program_140 : decode cX6_program 140 = .ok (.iinc 7 1, 3) := by decide +kernel
theorem dX6_program_143 : decode cX6_program 143 = .ok (.goto (-42), 3) := by decide +kernel
theorem dX6_program_146 : decode cX6_program 146 = .ok (.aload_n 0, 1) := by decide +kernel
theorem dX6_program_147 : decode cX6_program 147 = .ok (.getfield 8, 3) := by decide +kernel
theorem dX6_program_150 : decode cX6_program 150 = .ok (.sipush 340, 3) := by decide +kernel
theorem dX6_program_153 : decode cX6_program 153 = .ok (.iload_n 1, 1) := by decide +kernel
theorem dX6_program_154 : decode cX6_program 154 = .ok (.iadd, 1) := by decide +kernel
theorem dX6_program_155 : decode cX6_program 155 = .ok (.iload 5, 2) := by decide +kernel
theorem dX6_program_157 : decode cX6_program 157 = .ok (.iload 4, 2) := by decide +kernel
theorem dX6_program_159 : decode cX6_program 159 = .ok (.iadd, 1) := by decide +kernel
theorem dX6_program_160 : decode cX6_program 160 = .ok (.iastore, 1) := by decide +kernel
theorem dX6_program_161 : decode cX6_program 161 = .ok (.iload 5, 2) := by decide +kernel
theorem dX6_program_163 : decode cX6_program 163 = .ok (.iload 4, 2) := by decide +kernel
theorem dX6_program_165 : decode cX6_program 165 = .ok (.iadd, 1) := by decide +kernel
theorem dX6_program_166 : decode cX6_program 166 = .ok (.ireturn, 1) := by decide +kernel
theorem dX6_task_0 : decode cX6_task 0 = .ok (.iload_n 1, 1) := by decide +kernel
theorem dX6_task_1 : decode cX6_task 1 = .ok (.i2l, 1) := by decide +kernel
theorem dX6_task_2 : decode cX6_task 2 = .ok (.lconst 0, 1) := by decide +kernel
theorem dX6_task_3 : decode cX6_task 3 = .ok (.ldc2_w 131, 3) := by decide +kernel
theorem dX6_task_6 : decode cX6_task 6 = .ok (.invokestatic 32, 3) := by decide +kernel
theorem dX6_task_9 : decode cX6_task 9 = .ok (.ifCond .eq 31, 3) := by decide +kernel
theorem dX6_task_12 : decode cX6_task 12 = .ok (.iload_n 2, 1) := by decide +kernel
theorem dX6_task_13 : decode cX6_task 13 = .ok (.i2l, 1) := by decide +kernel
theorem dX6_task_14 : decode cX6_task 14 = .ok (.lconst 0, 1) := by decide +kernel
theorem dX6_task_15 : decode cX6_task 15 = .ok (.ldc2_w 125, 3) := by decide +kernel
theorem dX6_task_18 : decode cX6_task 18 = .ok (.invokestatic 32, 3) := by decide +kernel
theorem dX6_task_21 : decode cX6_task 21 = .ok (.ifCond .eq 19, 3) := by decide +kernel
theorem dX6_task_24 : decode cX6_task 24 = .ok (.iload_n 3, 1) := by decide +kernel
theorem dX6_task_25 : decode cX6_task 25 = .ok (.i2l, 1) := by decide +kernel
theorem dX6_task_26 : decode cX6_task 26 = .ok (.lconst 1, 1) := by decide +kernel
theorem dX6_task_27 : decode cX6_task 27 = .ok (.ldc2_w 156, 3) := by decide +kernel
theorem dX6_task_30 : decode cX6_task 30 = .ok (.invokestatic 32, 3) := by decide +kernel
theorem dX6_task_33 : decode cX6_task 33 = .ok (.ifCond .eq 7, 3) := by decide +kernel
theorem dX6_task_36 : decode cX6_task 36 = .ok (.iconst 1, 1) := by decide +kernel
theorem dX6_task_37 : decode cX6_task 37 = .ok (.goto 4, 3) := by decide +kernel
theorem dX6_task_40 : decode cX6_task 40 = .ok (.iconst 0, 1) := by decide +kernel
theorem dX6_task_41 : decode cX6_task 41 = .ok (.istore 4, 2) := by decide +kernel
theorem dX6_task_43 : decode cX6_task 43 = .ok (.aload_n 0, 1) := by decide +kernel
theorem dX6_task_44 : decode cX6_task 44 = .ok (.iload 4, 2) := by decide +kernel
theorem dX6_task_46 : decode cX6_task 46 = .ok (.ifCond .ne 7, 3) := by decide +kernel
theorem dX6_task_49 : decode cX6_task 49 = .ok (.iconst 1, 1) := by decide +kernel
theorem dX6_task_50 : decode cX6_task 50 = .ok (.goto 20, 3) := by decide +kernel
theorem dX6_task_53 : decode cX6_task 53 = .ok (.aload_n 0, 1) := by decide +kernel
theorem dX6_task_54 : decode cX6_task 54 = .ok (.getfield 8, 3) := by decide +kernel
theorem dX6_task_57 : decode cX6_task 57 = .ok (.iconst 1, 1) := by decide +kernel
theorem dX6_task_58 : decode cX6_task 58 = .ok (.iaload, 1) := by decide +kernel
theorem dX6_task_59 : decode cX6_task 59 = .ok (.sipush 200, 3) := by decide +kernel
theorem dX6_task_62 : decode cX6_task 62 = .ok (.if_icmp .ne 7, 3) := by decide +kernel
theorem dX6_task_65 : decode cX6_task 65 = .ok (.iconst 2, 1) := by decide +kernel
theorem dX6_task_66 : decode cX6_task 66 = .ok (.goto 4, 3) := by decide +kernel
theorem dX6_task_69 : decode cX6_task 69 = .ok (.iconst 0, 1) := by decide +kernel
theorem dX6_task_70 : decode cX6_task 70 = .ok (.invokevirtual 153, 3) := by decide +kernel
theorem dX6_task_73 : decode cX6_task 73 = .ok (.ifCond .eq 5, 3) := by decide +kernel
theorem dX6_task_76 : decode cX6_task 76 = .ok (.iconst (-1), 1) := by decide +kernel
theorem dX6_task_77 : decode cX6_task 77 = .ok (.ireturn, 1) := by decide +kernel
theorem dX6_task_78 : decode cX6_task 78 = .ok (.aload_n 0, 1) := by decide +kernel
theorem dX6_task_79 : decode cX6_task 79 = .ok (.iload_n 1, 1) := by decide +kernel
theorem dX6_task_80 : decode cX6_task 80 = .ok (.iload_n 2, 1) := by decide +kernel
theorem dX6_task_81 : decode cX6_task 81 = .ok (.iload_n 3, 1) := by decide +kernel
theorem dX6_task_82 : decode cX6_task 82 = .ok (.bipush 100, 2) := by decide +kernel
theorem dX6_task_84 : decode cX6_task 84 = .ok (.iconst 0, 1) := by decide +kernel
theorem dX6_task_85 : decode cX6_task 85 = .ok (.invokevirtual 127, 3) := by decide +kernel
theorem dX6_task_88 : decode cX6_task 88 = .ok (.ireturn, 1) := by decide +kernel
theorem dX6_isLiving_0 : decode cX6_isLiving 0 = .ok (.aload_n 0, 1) := by decide +kernel
theorem dX6_isLiving_1 : decode cX6_isLiving 1 = .ok (.iload_n 1, 1) := by decide +kernel
theorem dX6_isLiving_2 : decode cX6_isLiving 2 = .ok (.invokevirtual 158, 3) := by decide +kernel
theorem dX6_isLiving_5 : decode cX6_isLiving 5 = .ok (.ifCond .eq 18, 3) := by decide +kernel
theorem dX6_isLiving_8 : decode cX6_isLiving 8 = .ok (.aload_n 0, 1) := by decide +kernel
theorem dX6_isLiving_9 : decode cX6_isLiving 9 = .ok (.iload_n 1, 1) := by decide +kernel
theorem dX6_isLiving_10 : decode cX6_isLiving 10 = .ok (.bipush 6, 2) := by decide +kernel
theorem dX6_isLiving_12 : decode cX6_isLiving 12 = .ok (.invokevirtual 36, 3) := by decide +kernel
theorem dX6_isLiving_15 : decode cX6_isLiving 15 = .ok (.iconst 4, 1) := by decide +kernel
theorem dX6_isLiving_16 : decode cX6_isLiving 16 = .ok (.if_icmp .eq 7, 3) := by decide +kernel
theorem dX6_isLiving_19 : decode cX6_isLiving 19 = .ok (.iconst 1, 1) := by decide +kernel
theorem dX6_isLiving_20 : decode cX6_isLiving 20 = .ok (.goto 4, 3) := by decide +kernel
theorem dX6_isLiving_23 : decode cX6_isLiving 23 = .ok (.iconst 0, 1) := by decide +kernel
theorem dX6_isLiving_24 : decode cX6_isLiving 24 = .ok (.ireturn, 1) := by decide +kernel
theorem dX6_share_0 : decode cX6_share 0 = .ok (.aload_n 0, 1) := by decide +kernel
theorem dX6_share_1 : decode cX6_share 1 = .ok (.aload_n 0, 1) := by decide +kernel
theorem dX6_share_2 : decode cX6_share 2 = .ok (.iload_n 1, 1) := by decide +kernel
theorem dX6_share_3 : decode cX6_share 3 = .ok (.invokevirtual 161, 3) := by decide +kernel
theorem dX6_share_6 : decode cX6_share 6 = .ok (.ifCond .ne 7, 3) := by decide +kernel
theorem dX6_share_9 : decode cX6_share 9 = .ok (.iconst 3, 1) := by decide +kernel
theorem dX6_share_10 : decode cX6_share 10 = .ok (.goto 20, 3) := by decide +kernel
theorem dX6_share_13 : decode cX6_share 13 = .ok (.iload_n 2, 1) := by decide +kernel
theorem dX6_share_14 : decode cX6_share 14 = .ok (.i2l, 1) := by decide +kernel
theorem dX6_share_15 : decode cX6_share 15 = .ok (.lconst 1, 1) := by decide +kernel
theorem dX6_share_16 : decode cX6_share 16 = .ok (.ldc2_w 156, 3) := by decide +kernel
theorem dX6_share_19 : decode cX6_share 19 = .ok (.invokestatic 32, 3) := by decide +kernel
theorem dX6_share_22 : decode cX6_share 22 = .ok (.ifCond .ne 7, 3) := by decide +kernel
theorem dX6_share_25 : decode cX6_share 25 = .ok (.iconst 1, 1) := by decide +kernel
theorem dX6_share_26 : decode cX6_share 26 = .ok (.goto 4, 3) := by decide +kernel
theorem dX6_share_29 : decode cX6_share 29 = .ok (.iconst 0, 1) := by decide +kernel
theorem dX6_share_30 : decode cX6_share 30 = .ok (.invokevirtual 153, 3) := by decide +kernel
theorem dX6_share_33 : decode cX6_share 33 = .ok (.ifCond .eq 5, 3) := by decide +kernel
theorem dX6_share_36 : decode cX6_share 36 = .ok (.iconst (-1), 1) := by decide +kernel
theorem dX6_share_37 : decode cX6_share 37 = .ok (.ireturn, 1) := by decide +kernel
theorem dX6_share_38 : decode cX6_share 38 = .ok (.aload_n 0, 1) := by decide +kernel
theorem dX6_share_39 : decode cX6_share 39 = .ok (.iload_n 1, 1) := by decide +kernel
theorem dX6_share_40 : decode cX6_share 40 = .ok (.iconst 2, 1) := by decide +kernel
theorem dX6_share_41 : decode cX6_share 41 = .ok (.invokevirtual 36, 3) := by decide +kernel
theorem dX6_share_44 : decode cX6_share 44 = .ok (.istore_n 3, 1) := by decide +kernel
theorem dX6_share_45 : decode cX6_share 45 = .ok (.aload_n 0, 1) := by decide +kernel
theorem dX6_share_46 : decode cX6_share 46 = .ok (.iload_n 1, 1) := by decide +kernel
theorem dX6_share_47 : decode cX6_share 47 = .ok (.iconst 2, 1) := by decide +kernel
theorem dX6_share_48 : decode cX6_share 48 = .ok (.iload_n 2, 1) := by decide +kernel
theorem dX6_share_49 : decode cX6_share 49 = .ok (.invokevirtual 59, 3) := by decide +kernel
theorem dX6_share_52 : decode cX6_share 52 = .ok (.aload_n 0, 1) := by decide +kernel
theorem dX6_share_53 : decode cX6_share 53 = .ok (.iload_n 1, 1) := by decide +kernel
theorem dX6_share_54 : decode cX6_share 54 = .ok (.iconst 3, 1) := by decide +kernel
theorem dX6_share_55 : decode cX6_share 55 = .ok (.aload_n 0, 1) := by decide +kernel
theorem dX6_share_56 : decode cX6_share 56 = .ok (.iload_n 1, 1) := by decide +kernel
theorem dX6_share_57 : decode cX6_share 57 = .ok (.iconst 3, 1) := by decide +kernel
theorem dX6_share_58 : decode cX6_share 58 = .ok (.invokevirtual 36, 3) := by decide +kernel
theorem dX6_share_61 : decode cX6_share 61 = .ok (.iload_n 2, 1) := by decide +kernel
theorem dX6_share_62 : decode cX6_share 62 = .ok (.iconst 1, 1) := by decide +kernel
theorem dX6_share_63 : decode cX6_share 63 = .ok (.isub, 1) := by decide +kernel
theorem dX6_share_64 : decode cX6_share 64 = .ok (.invokestatic 164, 3) := by decide +kernel
theorem dX6_share_67 : decode cX6_share 67 = .ok (.invokevirtual 59, 3) := by decide +kernel
theorem dX6_share_70 : decode cX6_share 70 = .ok (.iload_n 3, 1) := by decide +kernel
theorem dX6_share_71 : decode cX6_share 71 = .ok (.ireturn, 1) := by decide +kernel
theorem dX6_deadline_0 : decode cX6_deadline 0 = .ok (.iload_n 2, 1) := by decide +kernel
theorem dX6_deadline_1 : decode cX6_deadline 1 = .ok (.i2l, 1) := by decide +kernel
theorem dX6_deadline_2 : decode cX6_deadline 2 = .ok (.lconst 1, 1) := by decide +kernel
theorem dX6_deadline_3 : decode cX6_deadline 3 = .ok (.ldc2_w 156, 3) := by decide +kernel
theorem dX6_deadline_6 : decode cX6_deadline 6 = .ok (.invokestatic 32, 3) := by decide +kernel
theorem dX6_deadline_9 : decode cX6_deadline 9 = .ok (.ifCond .eq 18, 3) := by decide +kernel
theorem dX6_deadline_12 : decode cX6_deadline 12 = .ok (.iload_n 3, 1) := by decide +kernel
theorem dX6_deadline_13 : decode cX6_deadline 13 = .ok (.i2l, 1) := by decide +kernel
theorem dX6_deadline_14 : decode cX6_deadline 14 = .ok (.lconst 0, 1) := by decide +kernel
theorem dX6_deadline_15 : decode cX6_deadline 15 = .ok (.iload_n 2, 1) := by decide +kernel
theorem dX6_deadline_16 : decode cX6_deadline 16 = .ok (.i2l, 1) := by decide +kernel
theorem dX6_deadline_17 : decode cX6_deadline 17 = .ok (.invokestatic 32, 3) := by decide +kernel
theorem dX6_deadline_20 : decode cX6_deadline 20 = .ok (.ifCond .eq 7, 3) := by decide +kernel
theorem dX6_deadline_23 : decode cX6_deadline 23 = .ok (.iconst 1, 1) := by decide +kernel
theorem dX6_deadline_24 : decode cX6_deadline 24 = .ok (.goto 4, 3) := by decide +kernel
theorem dX6_deadline_27 : decode cX6_deadline 27 = .ok (.iconst 0, 1) := by decide +kernel
theorem dX6_deadline_28 : decode cX6_deadline 28 = .ok (.istore 4, 2) := by decide +kernel
theorem dX6_deadline_30 : decode cX6_deadline 30 = .ok (.aload_n 0, 1) := by decide +kernel
theorem dX6_deadline_31 : decode cX6_deadline 31 = .ok (.aload_n 0, 1) := by decide +kernel
theorem dX6_deadline_32 : decode cX6_deadline 32 = .ok (.iload_n 1, 1) := by decide +kernel
theorem dX6_deadline_33 : decode cX6_deadline 33 = .ok (.invokevirtual 161, 3) := by decide +kernel
theorem dX6_deadline_36 : decode cX6_deadline 36 = .ok (.ifCond .ne 7, 3) := by decide +kernel
theorem dX6_deadline_39 : decode cX6_deadline 39 = .ok (.iconst 3, 1) := by decide +kernel
theorem dX6_deadline_40 : decode cX6_deadline 40 = .ok (.goto 25, 3) := by decide +kernel
theorem dX6_deadline_43 : decode cX6_deadline 43 = .ok (.aload_n 0, 1) := by decide +kernel
theorem dX6_deadline_44 : decode cX6_deadline 44 = .ok (.iload_n 1, 1) := by decide +kernel
theorem dX6_deadline_45 : decode cX6_deadline 45 = .ok (.invokevirtual 43, 3) := by decide +kernel
theorem dX6_deadline_48 : decode cX6_deadline 48 = .ok (.ifCond .ne 7, 3) := by decide +kernel
theorem dX6_deadline_51 : decode cX6_deadline 51 = .ok (.iconst 4, 1) := by decide +kernel
theorem dX6_deadline_52 : decode cX6_deadline 52 = .ok (.goto 13, 3) := by decide +kernel
theorem dX6_deadline_55 : decode cX6_deadline 55 = .ok (.iload 4, 2) := by decide +kernel
theorem dX6_deadline_57 : decode cX6_deadline 57 = .ok (.ifCond .ne 7, 3) := by decide +kernel
theorem dX6_deadline_60 : decode cX6_deadline 60 = .ok (.iconst 1, 1) := by decide +kernel
theorem dX6_deadline_61 : decode cX6_deadline 61 = .ok (.goto 4, 3) := by decide +kernel
theorem dX6_deadline_64 : decode cX6_deadline 64 = .ok (.iconst 0, 1) := by decide +kernel
theorem dX6_deadline_65 : decode cX6_deadline 65 = .ok (.invokevirtual 153, 3) := by decide +kernel
theorem dX6_deadline_68 : decode cX6_deadline 68 = .ok (.ifCond .eq 5, 3) := by decide +kernel
theorem dX6_deadline_71 : decode cX6_deadline 71 = .ok (.iconst 0, 1) := by decide +kernel
theorem dX6_deadline_72 : decode cX6_deadline 72 = .ok (.ireturn, 1) := by decide +kernel
theorem dX6_deadline_73 : decode cX6_deadline 73 = .ok (.aload_n 0, 1) := by decide +kernel
theorem dX6_deadline_74 : decode cX6_deadline 74 = .ok (.iload_n 1, 1) := by decide +kernel
theorem dX6_deadline_75 : decode cX6_deadline 75 = .ok (.bipush 10, 2) := by decide +kernel
theorem dX6_deadline_77 : decode cX6_deadline 77 = .ok (.iload_n 2, 1) := by decide +kernel
theorem dX6_deadline_78 : decode cX6_deadline 78 = .ok (.invokevirtual 59, 3) := by decide +kernel
theorem dX6_deadline_81 : decode cX6_deadline 81 = .ok (.aload_n 0, 1) := by decide +kernel
theorem dX6_deadline_82 : decode cX6_deadline 82 = .ok (.iload_n 1, 1) := by decide +kernel
theorem dX6_deadline_83 : decode cX6_deadline 83 = .ok (.bipush 11, 2) := by decide +kernel
theorem dX6_deadline_85 : decode cX6_deadline 85 = .ok (.iload_n 3, 1) := by decide +kernel
theorem dX6_deadline_86 : decode cX6_deadline 86 = .ok (.invokevirtual 59, 3) := by decide +kernel
theorem dX6_deadline_89 : decode cX6_deadline 89 = .ok (.aload_n 0, 1) := by decide +kernel
theorem dX6_deadline_90 : decode cX6_deadline 90 = .ok (.iload_n 1, 1) := by decide +kernel
theorem dX6_deadline_91 : decode cX6_deadline 91 = .ok (.bipush 12, 2) := by decide +kernel
theorem dX6_deadline_93 : decode cX6_deadline 93 = .ok (.aload_n 0, 1) := by decide +kernel
theorem dX6_deadline_94 : decode cX6_deadline 94 = .ok (.getfield 8, 3) := by decide +kernel
theorem dX6_deadline_97 : decode cX6_deadline 97 = .ok (.iconst 0, 1) := by decide +kernel
theorem dX6_deadline_98 : decode cX6_deadline 98 = .ok (.iaload, 1) := by decide +kernel
theorem dX6_deadline_99 : decode cX6_deadline 99 = .ok (.iload_n 2, 1) := by decide +kernel
theorem dX6_deadline_100 : decode cX6_deadline 100 = .ok (.iadd, 1) := by decide +kernel
theorem dX6_deadline_101 : decode cX6_deadline 101 = .ok (.invokevirtual 59, 3) := by decide +kernel
theorem dX6_deadline_104 : decode cX6_deadline 104 = .ok (.aload_n 0, 1) := by decide +kernel
theorem dX6_deadline_105 : decode cX6_deadline 105 = .ok (.iload_n 1, 1) := by decide +kernel
theorem dX6_deadline_106 : decode cX6_deadline 106 = .ok (.bipush 13, 2) := by decide +kernel
theorem dX6_deadline_108 : decode cX6_deadline 108 = .ok (.iload_n 3, 1) := by decide +kernel
theorem dX6_deadline_109 : decode cX6_deadline 109 = .ok (.invokevirtual 59, 3) := by decide +kernel
theorem dX6_deadline_112 : decode cX6_deadline 112 = .ok (.iconst 1, 1) := by decide +kernel
theorem dX6_deadline_113 : decode cX6_deadline 113 = .ok (.ireturn, 1) := by decide +kernel
theorem dX6_processors_0 : decode cX6_processors 0 = .ok (.aload_n 0, 1) := by decide +kernel
theorem dX6_processors_1 : decode cX6_processors 1 = .ok (.iload_n 1, 1) := by decide +kernel
theorem dX6_processors_2 : decode cX6_processors 2 = .ok (.i2l, 1) := by decide +kernel
theorem dX6_processors_3 : decode cX6_processors 3 = .ok (.lconst 1, 1) := by decide +kernel
theorem dX6_processors_4 : decode cX6_processors 4 = .ok (.ldc2_w 131, 3) := by decide +kernel
theorem dX6_processors_7 : decode cX6_processors 7 = .ok (.invokestatic 32, 3) := by decide +kernel
theorem dX6_processors_10 : decode cX6_processors 10 = .ok (.ifCond .eq 7, 3) := by decide +kernel
theorem dX6_processors_13 : decode cX6_processors 13 = .ok (.iconst 0, 1) := by decide +kernel
theorem dX6_processors_14 : decode cX6_processors 14 = .ok (.goto 4, 3) := by decide +kernel
theorem dX6_processors_17 : decode cX6_processors 17 = .ok (.iconst 1, 1) := by decide +kernel
theorem dX6_processors_18 : decode cX6_processors 18 = .ok (.invokevirtual 153, 3) := by decide +kernel
theorem dX6_processors_21 : decode cX6_processors 21 = .ok (.ifCond .eq 5, 3) := by decide +kernel
theorem dX6_processors_24 : decode cX6_processors 24 = .ok (.iconst (-1), 1) := by decide +kernel
theorem dX6_processors_25 : decode cX6_processors 25 = .ok (.ireturn, 1) := by decide +kernel
theorem dX6_processors_26 : decode cX6_processors 26 = .ok (.aload_n 0, 1) := by decide +kernel
theorem dX6_processors_27 : decode cX6_processors 27 = .ok (.getfield 8, 3) := by decide +kernel
theorem dX6_processors_30 : decode cX6_processors 30 = .ok (.iconst 2, 1) := by decide +kernel
theorem dX6_processors_31 : decode cX6_processors 31 = .ok (.iaload, 1) := by decide +kernel
theorem dX6_processors_32 : decode cX6_processors 32 = .ok (.istore_n 2, 1) := by decide +kernel
theorem dX6_processors_33 : decode cX6_processors 33 = .ok (.aload_n 0, 1) := by decide +kernel
theorem dX6_processors_34 : decode cX6_processors 34 = .ok (.getfield 8, 3) := by decide +kernel
theorem dX6_processors_37 : decode cX6_processors 37 = .ok (.iconst 2, 1) := by decide +kernel
theorem dX6_processors_38 : decode cX6_processors 38 = .ok (.iload_n 1, 1) := by decide +kernel
theorem dX6_processors_39 : decode cX6_processors 39 = .ok (.iastore, 1) := by decide +kernel
theorem dX6_processors_40 : decode cX6_processors 40 = .ok (.iload_n 2, 1) := by decide +kernel
theorem dX6_processors_41 : decode cX6_processors 41 = .ok (.ireturn, 1) := by decide +kernel
theorem dX6_lock_0 : decode cX6_lock 0 = .ok (.aload_n 0, 1) := by decide +kernel
theorem dX6_lock_1 : decode cX6_lock 1 = .ok (.iload_n 1, 1) := by decide +kernel
theorem dX6_lock_2 : decode cX6_lock 2 = .ok (.i2l, 1) := by decide +kernel
theorem dX6_lock_3 : decode cX6_lock 3 = .ok (.lconst 0, 1) := by decide +kernel
theorem dX6_lock_4 : decode cX6_lock 4 = .ok (.ldc2_w 118, 3) := by decide +kernel
theorem dX6_lock_7 : decode cX6_lock 7 = .ok (.invokestatic 32, 3) := by decide +kernel
theorem dX6_lock_10 : decode cX6_lock 10 = .ok (.ifCond .ne 7, 3) := by decide +kernel
theorem dX6_lock_13 : decode cX6_lock 13 = .ok (.iconst 1, 1) := by decide +kernel
theorem dX6_lock_14 : decode cX6_lock 14 = .ok (.goto 23, 3) := by decide +kernel
theorem dX6_lock_17 : decode cX6_lock 17 = .ok (.aload_n 0, 1) := by decide +kernel
theorem dX6_lock_18 : decode cX6_lock 18 = .ok (.getfield 8, 3) := by decide +kernel
theorem dX6_lock_21 : decode cX6_lock 21 = .ok (.sipush 240, 3) := by decide +kernel
theorem dX6_lock_24 : decode cX6_lock 24 = .ok (.iload_n 1, 1) := by decide +kernel
theorem dX6_lock_25 : decode cX6_lock 25 = .ok (.iadd, 1) := by decide +kernel
theorem dX6_lock_26 : decode cX6_lock 26 = .ok (.iaload, 1) := by decide +kernel
theorem dX6_lock_27 : decode cX6_lock 27 = .ok (.bipush (-2), 2) := by decide +kernel
theorem dX6_lock_29 : decode cX6_lock 29 = .ok (.if_icmp .eq 7, 3) := by decide +kernel
theorem dX6_lock_32 : decode cX6_lock 32 = .ok (.iconst 2, 1) := by decide +kernel
theorem dX6_lock_33 : decode cX6_lock 33 = .ok (.goto 4, 3) := by decide +kernel
theorem dX6_lock_36 : decode cX6_lock 36 = .ok (.iconst 0, 1) := by decide +kernel
theorem dX6_lock_37 : decode cX6_lock 37 = .ok (.invokevirtual 153, 3) := by decide +kernel
theorem dX6_lock_40 : decode cX6_lock 40 = .ok (.ifCond .eq 5, 3) := by decide +kernel
theorem dX6_lock_43 : decode cX6_lock 43 = .ok (.iconst 0, 1) := by decide +kernel
theorem dX6_lock_44 : decode cX6_lock 44 = .ok (.ireturn, 1) := by decide +kernel
theorem dX6_lock_45 : decode cX6_lock 45 = .ok (.aload_n 0, 1) := by decide +kernel
theorem dX6_lock_46 : decode cX6_lock 46 = .ok (.getfield 8, 3) := by decide +kernel
theorem dX6_lock_49 : decode cX6_lock 49 = .ok (.sipush 240, 3) := by decide +kernel
theorem dX6_lock_52 : decode cX6_lock 52 = .ok (.iload_n 1, 1) := by decide +kernel
theorem dX6_lock_53 : decode cX6_lock 53 = .ok (.iadd, 1) := by decide +kernel
theorem dX6_lock_54 : decode cX6_lock 54 = .ok (.iconst (-1), 1) := by decide +kernel
theorem dX6_lock_55 : decode cX6_lock 55 = .ok (.iastore, 1) := by decide +kernel
theorem dX6_lock_56 : decode cX6_lock 56 = .ok (.iconst 1, 1) := by decide +kernel
theorem dX6_lock_57 : decode cX6_lock 57 = .ok (.ireturn, 1) := by decide +kernel
theorem dX6_ring_0 : decode cX6_ring 0 = .ok (.aload_n 0, 1) := by decide +kernel
theorem dX6_ring_1 : decode cX6_ring 1 = .ok (.iload_n 1, 1) := by decide +kernel
theorem dX6_ring_2 : decode cX6_ring 2 = .ok (.i2l, 1) := by decide +kernel
theorem dX6_ring_3 : decode cX6_ring 3 = .ok (.lconst 0, 1) := by decide +kernel
theorem dX6_ring_4 : decode cX6_ring 4 = .ok (.ldc2_w 97, 3) := by decide +kernel
theorem dX6_ring_7 : decode cX6_ring 7 = .ok (.invokestatic 32, 3) := by decide +kernel
theorem dX6_ring_10 : decode cX6_ring 10 = .ok (.ifCond .eq 7, 3) := by decide +kernel
theorem dX6_ring_13 : decode cX6_ring 13 = .ok (.iconst 0, 1) := by decide +kernel
theorem dX6_ring_14 : decode cX6_ring 14 = .ok (.goto 4, 3) := by decide +kernel
theorem dX6_ring_17 : decode cX6_ring 17 = .ok (.iconst 1, 1) := by decide +kernel
theorem dX6_ring_18 : decode cX6_ring 18 = .ok (.invokevirtual 153, 3) := by decide +kernel
theorem dX6_ring_21 : decode cX6_ring 21 = .ok (.ifCond .eq 7, 3) := by decide +kernel
theorem dX6_ring_24 : decode cX6_ring 24 = .ok (.iconst (-1), 1) := by decide +kernel
theorem dX6_ring_25 : decode cX6_ring 25 = .ok (.goto 8, 3) := by decide +kernel
theorem dX6_ring_28 : decode cX6_ring 28 = .ok (.aload_n 0, 1) := by decide +kernel
theorem dX6_ring_29 : decode cX6_ring 29 = .ok (.iload_n 1, 1) := by decide +kernel
theorem dX6_ring_30 : decode cX6_ring 30 = .ok (.invokevirtual 103, 3) := by decide +kernel
theorem dX6_ring_33 : decode cX6_ring 33 = .ok (.ireturn, 1) := by decide +kernel
theorem dX6_run_0 : decode cX6_run 0 = .ok (.aload_n 0, 1) := by decide +kernel
theorem dX6_run_1 : decode cX6_run 1 = .ok (.iload_n 1, 1) := by decide +kernel
theorem dX6_run_2 : decode cX6_run 2 = .ok (.i2l, 1) := by decide +kernel
theorem dX6_run_3 : decode cX6_run 3 = .ok (.lconst 0, 1) := by decide +kernel
theorem dX6_run_4 : decode cX6_run 4 = .ok (.ldc2_w 156, 3) := by decide +kernel
theorem dX6_run_7 : decode cX6_run 7 = .ok (.invokestatic 32, 3) := by decide +kernel
theorem dX6_run_10 : decode cX6_run 10 = .ok (.ifCond .eq 7, 3) := by decide +kernel
theorem dX6_run_13 : decode cX6_run 13 = .ok (.iconst 0, 1) := by decide +kernel
theorem dX6_run_14 : decode cX6_run 14 = .ok (.goto 4, 3) := by decide +kernel
theorem dX6_run_17 : decode cX6_run 17 = .ok (.iconst 1, 1) := by decide +kernel
theorem dX6_run_18 : decode cX6_run 18 = .ok (.invokevirtual 153, 3) := by decide +kernel
theorem dX6_run_21 : decode cX6_run 21 = .ok (.ifCond .eq 5, 3) := by decide +kernel
theorem dX6_run_24 : decode cX6_run 24 = .ok (.iconst (-1), 1) := by decide +kernel
theorem dX6_run_25 : decode cX6_run 25 = .ok (.ireturn, 1) := by decide +kernel
theorem dX6_run_26 : decode cX6_run 26 = .ok (.iconst 0, 1) := by decide +kernel
theorem dX6_run_27 : decode cX6_run 27 = .ok (.istore_n 2, 1) := by decide +kernel
theorem dX6_run_28 : decode cX6_run 28 = .ok (.iload_n 2, 1) := by decide +kernel
theorem dX6_run_29 : decode cX6_run 29 = .ok (.iload_n 1, 1) := by decide +kernel
theorem dX6_run_30 : decode cX6_run 30 = .ok (.if_icmp .ge 27, 3) := by decide +kernel
theorem dX6_run_33 : decode cX6_run 33 = .ok (.sipush 8000, 3) := by decide +kernel
theorem dX6_run_36 : decode cX6_run 36 = .ok (.aload_n 0, 1) := by decide +kernel
theorem dX6_run_37 : decode cX6_run 37 = .ok (.getfield 8, 3) := by decide +kernel
theorem dX6_run_40 : decode cX6_run 40 = .ok (.iconst 3, 1) := by decide +kernel
theorem dX6_run_41 : decode cX6_run 41 = .ok (.iaload, 1) := by decide +kernel
theorem dX6_run_42 : decode cX6_run 42 = .ok (.isub, 1) := by decide +kernel
theorem dX6_run_43 : decode cX6_run 43 = .ok (.iconst 4, 1) := by decide +kernel
theorem dX6_run_44 : decode cX6_run 44 = .ok (.if_icmp .lt 13, 3) := by decide +kernel
theorem dX6_run_47 : decode cX6_run 47 = .ok (.aload_n 0, 1) := by decide +kernel
theorem dX6_run_48 : decode cX6_run 48 = .ok (.invokevirtual 167, 3) := by decide +kernel
theorem dX6_run_51 : decode cX6_run 51 = .ok (.iinc 2 1, 3) := by decide +kernel
theorem dX6_run_54 : decode cX6_run 54 = .ok (.goto (-26), 3) := by decide +kernel
theorem dX6_run_57 : decode cX6_run 57 = .ok (.iload_n 2, 1) := by decide +kernel
theorem dX6_run_58 : decode cX6_run 58 = .ok (.ireturn, 1) := by decide +kernel
theorem dX6_chosen_0 : decode cX6_chosen 0 = .ok (.iload_n 1, 1) := by decide +kernel
theorem dX6_chosen_1 : decode cX6_chosen 1 = .ok (.i2l, 1) := by decide +kernel
theorem dX6_chosen_2 : decode cX6_chosen 2 = .ok (.lconst 0, 1) := by decide +kernel
theorem dX6_chosen_3 : decode cX6_chosen 3 = .ok (.ldc2_w 112, 3) := by decide +kernel
theorem dX6_chosen_6 : decode cX6_chosen 6 = .ok (.invokestatic 32, 3) := by decide +kernel
theorem dX6_chosen_9 : decode cX6_chosen 9 = .ok (.ifCond .eq 15, 3) := by decide +kernel
theorem dX6_chosen_12 : decode cX6_chosen 12 = .ok (.aload_n 0, 1) := by decide +kernel
theorem dX6_chosen_13 : decode cX6_chosen 13 = .ok (.getfield 8, 3) := by decide +kernel
theorem dX6_chosen_16 : decode cX6_chosen 16 = .ok (.bipush 7, 2) := by decide +kernel
theorem dX6_chosen_18 : decode cX6_chosen 18 = .ok (.iload_n 1, 1) := by decide +kernel
theorem dX6_chosen_19 : decode cX6_chosen 19 = .ok (.iadd, 1) := by decide +kernel
theorem dX6_chosen_20 : decode cX6_chosen 20 = .ok (.iaload, 1) := by decide +kernel
theorem dX6_chosen_21 : decode cX6_chosen 21 = .ok (.goto 4, 3) := by decide +kernel
theorem dX6_chosen_24 : decode cX6_chosen 24 = .ok (.iconst (-1), 1) := by decide +kernel
theorem dX6_chosen_25 : decode cX6_chosen 25 = .ok (.ireturn, 1) := by decide +kernel
theorem dX6_about_0 : decode cX6_about 0 = .ok (.aload_n 0, 1) := by decide +kernel
theorem dX6_about_1 : decode cX6_about 1 = .ok (.iload_n 1, 1) := by decide +kernel
theorem dX6_about_2 : decode cX6_about 2 = .ok (.invokevirtual 158, 3) := by decide +kernel
theorem dX6_about_5 : decode cX6_about 5 = .ok (.ifCond .eq 15, 3) := by decide +kernel
theorem dX6_about_8 : decode cX6_about 8 = .ok (.iload_n 2, 1) := by decide +kernel
theorem dX6_about_9 : decode cX6_about 9 = .ok (.i2l, 1) := by decide +kernel
theorem dX6_about_10 : decode cX6_about 10 = .ok (.lconst 0, 1) := by decide +kernel
theorem dX6_about_11 : decode cX6_about 11 = .ok (.ldc2_w 170, 3) := by decide +kernel
theorem dX6_about_14 : decode cX6_about 14 = .ok (.invokestatic 32, 3) := by decide +kernel
theorem dX6_about_17 : decode cX6_about 17 = .ok (.ifCond .ne 5, 3) := by decide +kernel
theorem dX6_about_20 : decode cX6_about 20 = .ok (.iconst (-1), 1) := by decide +kernel
theorem dX6_about_21 : decode cX6_about 21 = .ok (.ireturn, 1) := by decide +kernel
theorem dX6_about_22 : decode cX6_about 22 = .ok (.iload_n 2, 1) := by decide +kernel
theorem dX6_about_23 : decode cX6_about 23 = .ok (.i2l, 1) := by decide +kernel
theorem dX6_about_24 : decode cX6_about 24 = .ok (.ldc2_w 172, 3) := by decide +kernel
theorem dX6_about_27 : decode cX6_about 27 = .ok (.ldc2_w 174, 3) := by decide +kernel
theorem dX6_about_30 : decode cX6_about 30 = .ok (.invokestatic 32, 3) := by decide +kernel
theorem dX6_about_33 : decode cX6_about 33 = .ok (.ifCond .eq 15, 3) := by decide +kernel
theorem dX6_about_36 : decode cX6_about 36 = .ok (.aload_n 0, 1) := by decide +kernel
theorem dX6_about_37 : decode cX6_about 37 = .ok (.iload_n 1, 1) := by decide +kernel
theorem dX6_about_38 : decode cX6_about 38 = .ok (.invokevirtual 43, 3) := by decide +kernel
theorem dX6_about_41 : decode cX6_about 41 = .ok (.ifCond .ne 7, 3) := by decide +kernel
theorem dX6_about_44 : decode cX6_about 44 = .ok (.iconst (-1), 1) := by decide +kernel
theorem dX6_about_45 : decode cX6_about 45 = .ok (.goto 9, 3) := by decide +kernel
theorem dX6_about_48 : decode cX6_about 48 = .ok (.aload_n 0, 1) := by decide +kernel
theorem dX6_about_49 : decode cX6_about 49 = .ok (.iload_n 1, 1) := by decide +kernel
theorem dX6_about_50 : decode cX6_about 50 = .ok (.iload_n 2, 1) := by decide +kernel
theorem dX6_about_51 : decode cX6_about 51 = .ok (.invokevirtual 36, 3) := by decide +kernel
theorem dX6_about_54 : decode cX6_about 54 = .ok (.ireturn, 1) := by decide +kernel
theorem dX6_virtual_0 : decode cX6_virtual 0 = .ok (.aload_n 0, 1) := by decide +kernel
theorem dX6_virtual_1 : decode cX6_virtual 1 = .ok (.iload_n 1, 1) := by decide +kernel
theorem dX6_virtual_2 : decode cX6_virtual 2 = .ok (.invokevirtual 158, 3) := by decide +kernel
theorem dX6_virtual_5 : decode cX6_virtual 5 = .ok (.ifCond .eq 12, 3) := by decide +kernel
theorem dX6_virtual_8 : decode cX6_virtual 8 = .ok (.aload_n 0, 1) := by decide +kernel
theorem dX6_virtual_9 : decode cX6_virtual 9 = .ok (.getfield 14, 3) := by decide +kernel
theorem dX6_virtual_12 : decode cX6_virtual 12 = .ok (.iload_n 1, 1) := by decide +kernel
theorem dX6_virtual_13 : decode cX6_virtual 13 = .ok (.laload, 1) := by decide +kernel
theorem dX6_virtual_14 : decode cX6_virtual 14 = .ok (.goto 6, 3) := by decide +kernel
theorem dX6_virtual_17 : decode cX6_virtual 17 = .ok (.ldc2_w 176, 3) := by decide +kernel
theorem dX6_virtual_20 : decode cX6_virtual 20 = .ok (.lreturn, 1) := by decide +kernel
theorem dX6_small_0 : decode cX6_small 0 = .ok (.aload_n 0, 1) := by decide +kernel
theorem dX6_small_1 : decode cX6_small 1 = .ok (.iload_n 1, 1) := by decide +kernel
theorem dX6_small_2 : decode cX6_small 2 = .ok (.invokevirtual 158, 3) := by decide +kernel
theorem dX6_small_5 : decode cX6_small 5 = .ok (.ifCond .eq 41, 3) := by decide +kernel
theorem dX6_small_8 : decode cX6_small 8 = .ok (.iload_n 2, 1) := by decide +kernel
theorem dX6_small_9 : decode cX6_small 9 = .ok (.i2l, 1) := by decide +kernel
theorem dX6_small_10 : decode cX6_small 10 = .ok (.lconst 0, 1) := by decide +kernel
theorem dX6_small_11 : decode cX6_small 11 = .ok (.aload_n 0, 1) := by decide +kernel
theorem dX6_small_12 : decode cX6_small 12 = .ok (.iload_n 1, 1) := by decide +kernel
theorem dX6_small_13 : decode cX6_small 13 = .ok (.bipush 14, 2) := by decide +kernel
theorem dX6_small_15 : decode cX6_small 15 = .ok (.invokevirtual 36, 3) := by decide +kernel
theorem dX6_small_18 : decode cX6_small 18 = .ok (.iconst 1, 1) := by decide +kernel
theorem dX6_small_19 : decode cX6_small 19 = .ok (.isub, 1) := by decide +kernel
theorem dX6_small_20 : decode cX6_small 20 = .ok (.i2l, 1) := by decide +kernel
theorem dX6_small_21 : decode cX6_small 21 = .ok (.invokestatic 32, 3) := by decide +kernel
theorem dX6_small_24 : decode cX6_small 24 = .ok (.ifCond .eq 22, 3) := by decide +kernel
theorem dX6_small_27 : decode cX6_small 27 = .ok (.aload_n 0, 1) := by decide +kernel
theorem dX6_small_28 : decode cX6_small 28 = .ok (.getfield 8, 3) := by decide +kernel
theorem dX6_small_31 : decode cX6_small 31 = .ok (.sipush 4400, 3) := by decide +kernel
theorem dX6_small_34 : decode cX6_small 34 = .ok (.sipush 128, 3) := by decide +kernel
theorem dX6_small_37 : decode cX6_small 37 = .ok (.iload_n 1, 1) := by decide +kernel
theorem dX6_small_38 : decode cX6_small 38 = .ok (.imul, 1) := by decide +kernel
theorem dX6_small_39 : decode cX6_small 39 = .ok (.iadd, 1) := by decide +kernel
theorem dX6_small_40 : decode cX6_small 40 = .ok (.iload_n 2, 1) := by decide +kernel
theorem dX6_small_41 : decode cX6_small 41 = .ok (.iadd, 1) := by decide +kernel
theorem dX6_small_42 : decode cX6_small 42 = .ok (.iaload, 1) := by decide +kernel
theorem dX6_small_43 : decode cX6_small 43 = .ok (.goto 4, 3) := by decide +kernel
theorem dX6_small_46 : decode cX6_small 46 = .ok (.iconst 0, 1) := by decide +kernel
theorem dX6_small_47 : decode cX6_small 47 = .ok (.ireturn, 1) := by decide +kernel
theorem dX6_standing_0 : decode cX6_standing 0 = .ok (.aload_n 0, 1) := by decide +kernel
theorem dX6_standing_1 : decode cX6_standing 1 = .ok (.iload_n 1, 1) := by decide +kernel
theorem dX6_standing_2 : decode cX6_standing 2 = .ok (.invokevirtual 161, 3) := by decide +kernel
theorem dX6_standing_5 : decode cX6_standing 5 = .ok (.ifCond .eq 15, 3) := by decide +kernel
theorem dX6_standing_8 : decode cX6_standing 8 = .ok (.iload_n 2, 1) := by decide +kernel
theorem dX6_standing_9 : decode cX6_standing 9 = .ok (.i2l, 1) := by decide +kernel
theorem dX6_standing_10 : decode cX6_standing 10 = .ok (.lconst 0, 1) := by decide +kernel
theorem dX6_standing_11 : decode cX6_standing 11 = .ok (.ldc2_w 178, 3) := by decide +kernel
theorem dX6_standing_14 : decode cX6_standing 14 = .ok (.invokestatic 32, 3) := by decide +kernel
theorem dX6_standing_17 : decode cX6_standing 17 = .ok (.ifCond .ne 7, 3) := by decide +kernel
theorem dX6_standing_20 : decode cX6_standing 20 = .ok (.ldc2_w 176, 3) := by decide +kernel
theorem dX6_standing_23 : decode cX6_standing 23 = .ok (.lreturn, 1) := by decide +kernel
theorem dX6_standing_24 : decode cX6_standing 24 = .ok (.aload_n 0, 1) := by decide +kernel
theorem dX6_standing_25 : decode cX6_standing 25 = .ok (.iload_n 1, 1) := by decide +kernel
theorem dX6_standing_26 : decode cX6_standing 26 = .ok (.invokevirtual 67, 3) := by decide +kernel
theorem dX6_standing_29 : decode cX6_standing 29 = .ok (.istore_n 3, 1) := by decide +kernel
theorem dX6_standing_30 : decode cX6_standing 30 = .ok (.iload_n 2, 1) := by decide +kernel
theorem dX6_standing_31 : decode cX6_standing 31 = .ok (.ifCond .ne 12, 3) := by decide +kernel
theorem dX6_standing_34 : decode cX6_standing 34 = .ok (.aload_n 0, 1) := by decide +kernel
theorem dX6_standing_35 : decode cX6_standing 35 = .ok (.iload_n 3, 1) := by decide +kernel
theorem dX6_standing_36 : decode cX6_standing 36 = .ok (.invokevirtual 47, 3) := by decide +kernel
theorem dX6_standing_39 : decode cX6_standing 39 = .ok (.i2l, 1) := by decide +kernel
theorem dX6_standing_40 : decode cX6_standing 40 = .ok (.goto 18, 3) := by decide +kernel
theorem dX6_standing_43 : decode cX6_standing 43 = .ok (.iload_n 2, 1) := by decide +kernel
theorem dX6_standing_44 : decode cX6_standing 44 = .ok (.iconst 1, 1) := by decide +kernel
theorem dX6_standing_45 : decode cX6_standing 45 = .ok (.if_icmp .ne 11, 3) := by decide +kernel
theorem dX6_standing_48 : decode cX6_standing 48 = .ok (.aload_n 0, 1) := by decide +kernel
theorem dX6_standing_49 : decode cX6_standing 49 = .ok (.iload_n 3, 1) := by decide +kernel
theorem dX6_standing_50 : decode cX6_standing 50 = .ok (.invokevirtual 51, 3) := by decide +kernel
theorem dX6_standing_53 : decode cX6_standing 53 = .ok (.goto 5, 3) := by decide +kernel
theorem dX6_standing_56 : decode cX6_standing 56 = .ok (.iload_n 3, 1) := by decide +kernel
theorem dX6_standing_57 : decode cX6_standing 57 = .ok (.i2l, 1) := by decide +kernel
theorem dX6_standing_58 : decode cX6_standing 58 = .ok (.lreturn, 1) := by decide +kernel
theorem dX6_holder_0 : decode cX6_holder 0 = .ok (.iload_n 1, 1) := by decide +kernel
theorem dX6_holder_1 : decode cX6_holder 1 = .ok (.i2l, 1) := by decide +kernel
theorem dX6_holder_2 : decode cX6_holder 2 = .ok (.lconst 0, 1) := by decide +kernel
theorem dX6_holder_3 : decode cX6_holder 3 = .ok (.ldc2_w 118, 3) := by decide +kernel
theorem dX6_holder_6 : decode cX6_holder 6 = .ok (.invokestatic 32, 3) := by decide +kernel
theorem dX6_holder_9 : decode cX6_holder 9 = .ok (.ifCond .eq 16, 3) := by decide +kernel
theorem dX6_holder_12 : decode cX6_holder 12 = .ok (.aload_n 0, 1) := by decide +kernel
theorem dX6_holder_13 : decode cX6_holder 13 = .ok (.getfield 8, 3) := by decide +kernel
theorem dX6_holder_16 : decode cX6_holder 16 = .ok (.sipush 240, 3) := by decide +kernel
theorem dX6_holder_19 : decode cX6_holder 19 = .ok (.iload_n 1, 1) := by decide +kernel
theorem dX6_holder_20 : decode cX6_holder 20 = .ok (.iadd, 1) := by decide +kernel
theorem dX6_holder_21 : decode cX6_holder 21 = .ok (.iaload, 1) := by decide +kernel
theorem dX6_holder_22 : decode cX6_holder 22 = .ok (.goto 5, 3) := by decide +kernel
theorem dX6_holder_25 : decode cX6_holder 25 = .ok (.bipush (-2), 2) := by decide +kernel
theorem dX6_holder_27 : decode cX6_holder 27 = .ok (.ireturn, 1) := by decide +kernel
theorem dX6_ringed_0 : decode cX6_ringed 0 = .ok (.iload_n 1, 1) := by decide +kernel
theorem dX6_ringed_1 : decode cX6_ringed 1 = .ok (.i2l, 1) := by decide +kernel
theorem dX6_ringed_2 : decode cX6_ringed 2 = .ok (.lconst 0, 1) := by decide +kernel
theorem dX6_ringed_3 : decode cX6_ringed 3 = .ok (.aload_n 0, 1) := by decide +kernel
theorem dX6_ringed_4 : decode cX6_ringed 4 = .ok (.getfield 8, 3) := by decide +kernel
theorem dX6_ringed_7 : decode cX6_ringed 7 = .ok (.iconst 5, 1) := by decide +kernel
theorem dX6_ringed_8 : decode cX6_ringed 8 = .ok (.iaload, 1) := by decide +kernel
theorem dX6_ringed_9 : decode cX6_ringed 9 = .ok (.iconst 1, 1) := by decide +kernel
theorem dX6_ringed_10 : decode cX6_ringed 10 = .ok (.isub, 1) := by decide +kernel
theorem dX6_ringed_11 : decode cX6_ringed 11 = .ok (.i2l, 1) := by decide +kernel
theorem dX6_ringed_12 : decode cX6_ringed 12 = .ok (.invokestatic 32, 3) := by decide +kernel
theorem dX6_ringed_15 : decode cX6_ringed 15 = .ok (.ifCond .eq 15, 3) := by decide +kernel
theorem dX6_ringed_18 : decode cX6_ringed 18 = .ok (.aload_n 0, 1) := by decide +kernel
theorem dX6_ringed_19 : decode cX6_ringed 19 = .ok (.getfield 8, 3) := by decide +kernel
theorem dX6_ringed_22 : decode cX6_ringed 22 = .ok (.bipush 16, 2) := by decide +kernel
theorem dX6_ringed_24 : decode cX6_ringed 24 = .ok (.iload_n 1, 1) := by decide +kernel
theorem dX6_ringed_25 : decode cX6_ringed 25 = .ok (.iadd, 1) := by decide +kernel
theorem dX6_ringed_26 : decode cX6_ringed 26 = .ok (.iaload, 1) := by decide +kernel
theorem dX6_ringed_27 : decode cX6_ringed 27 = .ok (.goto 4, 3) := by decide +kernel
theorem dX6_ringed_30 : decode cX6_ringed 30 = .ok (.iconst (-1), 1) := by decide +kernel
theorem dX6_ringed_31 : decode cX6_ringed 31 = .ok (.ireturn, 1) := by decide +kernel
theorem dX6_isRow_0 : decode cX6_isRow 0 = .ok (.iload_n 1, 1) := by decide +kernel
theorem dX6_isRow_1 : decode cX6_isRow 1 = .ok (.i2l, 1) := by decide +kernel
theorem dX6_isRow_2 : decode cX6_isRow 2 = .ok (.lconst 0, 1) := by decide +kernel
theorem dX6_isRow_3 : decode cX6_isRow 3 = .ok (.aload_n 0, 1) := by decide +kernel
theorem dX6_isRow_4 : decode cX6_isRow 4 = .ok (.getfield 8, 3) := by decide +kernel
theorem dX6_isRow_7 : decode cX6_isRow 7 = .ok (.iconst 3, 1) := by decide +kernel
theorem dX6_isRow_8 : decode cX6_isRow 8 = .ok (.iaload, 1) := by decide +kernel
theorem dX6_isRow_9 : decode cX6_isRow 9 = .ok (.iconst 1, 1) := by decide +kernel
theorem dX6_isRow_10 : decode cX6_isRow 10 = .ok (.isub, 1) := by decide +kernel
theorem dX6_isRow_11 : decode cX6_isRow 11 = .ok (.i2l, 1) := by decide +kernel
theorem dX6_isRow_12 : decode cX6_isRow 12 = .ok (.invokestatic 32, 3) := by decide +kernel
theorem dX6_isRow_15 : decode cX6_isRow 15 = .ok (.ifCond .eq 19, 3) := by decide +kernel
theorem dX6_isRow_18 : decode cX6_isRow 18 = .ok (.iload_n 2, 1) := by decide +kernel
theorem dX6_isRow_19 : decode cX6_isRow 19 = .ok (.i2l, 1) := by decide +kernel
theorem dX6_isRow_20 : decode cX6_isRow 20 = .ok (.lconst 0, 1) := by decide +kernel
theorem dX6_isRow_21 : decode cX6_isRow 21 = .ok (.ldc2_w 131, 3) := by decide +kernel
theorem dX6_isRow_24 : decode cX6_isRow 24 = .ok (.invokestatic 32, 3) := by decide +kernel
theorem dX6_isRow_27 : decode cX6_isRow 27 = .ok (.ifCond .eq 7, 3) := by decide +kernel
theorem dX6_isRow_30 : decode cX6_isRow 30 = .ok (.iconst 1, 1) := by decide +kernel
theorem dX6_isRow_31 : decode cX6_isRow 31 = .ok (.goto 4, 3) := by decide +kernel
theorem dX6_isRow_34 : decode cX6_isRow 34 = .ok (.iconst 0, 1) := by decide +kernel
theorem dX6_isRow_35 : decode cX6_isRow 35 = .ok (.ireturn, 1) := by decide +kernel
theorem dX6_row_0 : decode cX6_row 0 = .ok (.aload_n 0, 1) := by decide +kernel
theorem dX6_row_1 : decode cX6_row 1 = .ok (.iload_n 1, 1) := by decide +kernel
theorem dX6_row_2 : decode cX6_row 2 = .ok (.iload_n 2, 1) := by decide +kernel
theorem dX6_row_3 : decode cX6_row 3 = .ok (.invokevirtual 180, 3) := by decide +kernel
theorem dX6_row_6 : decode cX6_row 6 = .ok (.ifCond .eq 19, 3) := by decide +kernel
theorem dX6_row_9 : decode cX6_row 9 = .ok (.aload_n 0, 1) := by decide +kernel
theorem dX6_row_10 : decode cX6_row 10 = .ok (.getfield 8, 3) := by decide +kernel
theorem dX6_row_13 : decode cX6_row 13 = .ok (.ldc 140, 2) := by decide +kernel
theorem dX6_row_15 : decode cX6_row 15 = .ok (.iconst 5, 1) := by decide +kernel
theorem dX6_row_16 : decode cX6_row 16 = .ok (.iload_n 1, 1) := by decide +kernel
theorem dX6_row_17 : decode cX6_row 17 = .ok (.imul, 1) := by decide +kernel
theorem dX6_row_18 : decode cX6_row 18 = .ok (.iadd, 1) := by decide +kernel
theorem dX6_row_19 : decode cX6_row 19 = .ok (.iload_n 2, 1) := by decide +kernel
theorem dX6_row_20 : decode cX6_row 20 = .ok (.iadd, 1) := by decide +kernel
theorem dX6_row_21 : decode cX6_row 21 = .ok (.iaload, 1) := by decide +kernel
theorem dX6_row_22 : decode cX6_row 22 = .ok (.goto 4, 3) := by decide +kernel
theorem dX6_row_25 : decode cX6_row 25 = .ok (.iconst (-1), 1) := by decide +kernel
theorem dX6_row_26 : decode cX6_row 26 = .ok (.ireturn, 1) := by decide +kernel
theorem dX6_forge_0 : decode cX6_forge 0 = .ok (.aload_n 0, 1) := by decide +kernel
theorem dX6_forge_1 : decode cX6_forge 1 = .ok (.aload_n 0, 1) := by decide +kernel
theorem dX6_forge_2 : decode cX6_forge 2 = .ok (.iload_n 1, 1) := by decide +kernel
theorem dX6_forge_3 : decode cX6_forge 3 = .ok (.iload_n 2, 1) := by decide +kernel
theorem dX6_forge_4 : decode cX6_forge 4 = .ok (.invokevirtual 180, 3) := by decide +kernel
theorem dX6_forge_7 : decode cX6_forge 7 = .ok (.ifCond .eq 7, 3) := by decide +kernel
theorem dX6_forge_10 : decode cX6_forge 10 = .ok (.iconst 0, 1) := by decide +kernel
theorem dX6_forge_11 : decode cX6_forge 11 = .ok (.goto 4, 3) := by decide +kernel
theorem dX6_forge_14 : decode cX6_forge 14 = .ok (.iconst 1, 1) := by decide +kernel
theorem dX6_forge_15 : decode cX6_forge 15 = .ok (.putfield 40, 3) := by decide +kernel
theorem dX6_forge_18 : decode cX6_forge 18 = .ok (.aload_n 0, 1) := by decide +kernel
theorem dX6_forge_19 : decode cX6_forge 19 = .ok (.getfield 40, 3) := by decide +kernel
theorem dX6_forge_22 : decode cX6_forge 22 = .ok (.ifCond .le 5, 3) := by decide +kernel
theorem dX6_forge_25 : decode cX6_forge 25 = .ok (.iconst 0, 1) := by decide +kernel
theorem dX6_forge_26 : decode cX6_forge 26 = .ok (.ireturn, 1) := by decide +kernel
theorem dX6_forge_27 : decode cX6_forge 27 = .ok (.aload_n 0, 1) := by decide +kernel
theorem dX6_forge_28 : decode cX6_forge 28 = .ok (.getfield 8, 3) := by decide +kernel
theorem dX6_forge_31 : decode cX6_forge 31 = .ok (.ldc 140, 2) := by decide +kernel
theorem dX6_forge_33 : decode cX6_forge 33 = .ok (.iconst 5, 1) := by decide +kernel
theorem dX6_forge_34 : decode cX6_forge 34 = .ok (.iload_n 1, 1) := by decide +kernel
theorem dX6_forge_35 : decode cX6_forge 35 = .ok (.imul, 1) := by decide +kernel
theorem dX6_forge_36 : decode cX6_forge 36 = .ok (.iadd, 1) := by decide +kernel
theorem dX6_forge_37 : decode cX6_forge 37 = .ok (.iload_n 2, 1) := by decide +kernel
theorem dX6_forge_38 : decode cX6_forge 38 = .ok (.iadd, 1) := by decide +kernel
theorem dX6_forge_39 : decode cX6_forge 39 = .ok (.dup2, 1) := by decide +kernel
theorem dX6_forge_40 : decode cX6_forge 40 = .ok (.iaload, 1) := by decide +kernel
theorem dX6_forge_41 : decode cX6_forge 41 = .ok (.iload_n 3, 1) := by decide +kernel
theorem dX6_forge_42 : decode cX6_forge 42 = .ok (.iadd, 1) := by decide +kernel
theorem dX6_forge_43 : decode cX6_forge 43 = .ok (.iastore, 1) := by decide +kernel
theorem dX6_forge_44 : decode cX6_forge 44 = .ok (.iconst 1, 1) := by decide +kernel
theorem dX6_forge_45 : decode cX6_forge 45 = .ok (.ireturn, 1) := by decide +kernel
theorem dX6_check_0 : decode cX6_check 0 = .ok (.iconst 0, 1) := by decide +kernel
theorem dX6_check_1 : decode cX6_check 1 = .ok (.istore_n 1, 1) := by decide +kernel
theorem dX6_check_2 : decode cX6_check 2 = .ok (.iload_n 1, 1) := by decide +kernel
theorem dX6_check_3 : decode cX6_check 3 = .ok (.iconst 5, 1) := by decide +kernel
theorem dX6_check_4 : decode cX6_check 4 = .ok (.aload_n 0, 1) := by decide +kernel
theorem dX6_check_5 : decode cX6_check 5 = .ok (.getfield 8, 3) := by decide +kernel
theorem dX6_check_8 : decode cX6_check 8 = .ok (.iconst 3, 1) := by decide +kernel
theorem dX6_check_9 : decode cX6_check 9 = .ok (.iaload, 1) := by decide +kernel
theorem dX6_check_10 : decode cX6_check 10 = .ok (.imul, 1) := by decide +kernel
theorem dX6_check_11 : decode cX6_check 11 = .ok (.if_icmp .ge 54, 3) := by decide +kernel
theorem dX6_check_14 : decode cX6_check 14 = .ok (.aload_n 0, 1) := by decide +kernel
theorem dX6_check_15 : decode cX6_check 15 = .ok (.getfield 8, 3) := by decide +kernel
theorem dX6_check_18 : decode cX6_check 18 = .ok (.ldc 140, 2) := by decide +kernel
theorem dX6_check_20 : decode cX6_check 20 = .ok (.iload_n 1, 1) := by decide +kernel
theorem dX6_check_21 : decode cX6_check 21 = .ok (.iadd, 1) := by decide +kernel
theorem dX6_check_22 : decode cX6_check 22 = .ok (.iaload, 1) := by decide +kernel
theorem dX6_check_23 : decode cX6_check 23 = .ok (.aload_n 0, 1) := by decide +kernel
theorem dX6_check_24 : decode cX6_check 24 = .ok (.getfield 8, 3) := by decide +kernel
theorem dX6_check_27 : decode cX6_check 27 = .ok (.ldc 141, 2) := by decide +kernel
theorem dX6_check_29 : decode cX6_check 29 = .ok (.iload_n 1, 1) := by decide +kernel
theorem dX6_check_30 : decode cX6_check 30 = .ok (.iadd, 1) := by decide +kernel
theorem dX6_check_31 : decode cX6_check 31 = .ok (.iaload, 1) := by decide +kernel
theorem dX6_check_32 : decode cX6_check 32 = .ok (.if_icmp .ne 6, 3) := by decide +kernel
theorem dX6_check_35 : decode cX6_check 35 = .ok (.goto 24, 3) := by decide +kernel
theorem dX6_check_38 : decode cX6_check 38 = .ok (.aload_n 0, 1) := by decide +kernel
theorem dX6_check_39 : decode cX6_check 39 = .ok (.aload_n 0, 1) := by decide +kernel
theorem dX6_check_40 : decode cX6_check 40 = .ok (.getfield 8, 3) := by decide +kernel
theorem dX6_check_43 : decode cX6_check 43 = .ok (.ldc 141, 2) := by decide +kernel
theorem dX6_check_45 : decode cX6_check 45 = .ok (.iload_n 1, 1) := by decide +kernel
theorem dX6_check_46 : decode cX6_check 46 = .ok (.iconst 5, 1) := by decide +kernel
theorem dX6_check_47 : decode cX6_check 47 = .ok (.idiv, 1) := by decide +kernel
theorem dX6_check_48 : decode cX6_check 48 = .ok (.iconst 5, 1) := by decide +kernel
theorem dX6_check_49 : decode cX6_check 49 = .ok (.imul, 1) := by decide +kernel
theorem dX6_check_50 : decode cX6_check 50 = .ok (.iadd, 1) := by decide +kernel
theorem dX6_check_51 : decode cX6_check 51 = .ok (.iaload, 1) := by decide +kernel
theorem dX6_check_52 : decode cX6_check 52 = .ok (.putfield 24, 3) := by decide +kernel
theorem dX6_check_55 : decode cX6_check 55 = .ok (.iload_n 1, 1) := by decide +kernel
theorem dX6_check_56 : decode cX6_check 56 = .ok (.iconst 5, 1) := by decide +kernel
theorem dX6_check_57 : decode cX6_check 57 = .ok (.idiv, 1) := by decide +kernel
theorem dX6_check_58 : decode cX6_check 58 = .ok (.ireturn, 1) := by decide +kernel
theorem dX6_check_59 : decode cX6_check 59 = .ok (.iinc 1 1, 3) := by decide +kernel
theorem dX6_check_62 : decode cX6_check 62 = .ok (.goto (-60), 3) := by decide +kernel
theorem dX6_check_65 : decode cX6_check 65 = .ok (.aload_n 0, 1) := by decide +kernel
theorem dX6_check_66 : decode cX6_check 66 = .ok (.aload_n 0, 1) := by decide +kernel
theorem dX6_check_67 : decode cX6_check 67 = .ok (.getfield 8, 3) := by decide +kernel
theorem dX6_check_70 : decode cX6_check 70 = .ok (.iconst 0, 1) := by decide +kernel
theorem dX6_check_71 : decode cX6_check 71 = .ok (.iaload, 1) := by decide +kernel
theorem dX6_check_72 : decode cX6_check 72 = .ok (.putfield 24, 3) := by decide +kernel
theorem dX6_check_75 : decode cX6_check 75 = .ok (.iconst (-1), 1) := by decide +kernel
theorem dX6_check_76 : decode cX6_check 76 = .ok (.ireturn, 1) := by decide +kernel
theorem dX6_checkedTo_0 : decode cX6_checkedTo 0 = .ok (.aload_n 0, 1) := by decide +kernel
theorem dX6_checkedTo_1 : decode cX6_checkedTo 1 = .ok (.getfield 24, 3) := by decide +kernel
theorem dX6_checkedTo_4 : decode cX6_checkedTo 4 = .ok (.ireturn, 1) := by decide +kernel
theorem dX6_payments_0 : decode cX6_payments 0 = .ok (.lload_n 2, 1) := by decide +kernel
theorem dX6_payments_1 : decode cX6_payments 1 = .ok (.aload_n 0, 1) := by decide +kernel
theorem dX6_payments_2 : decode cX6_payments 2 = .ok (.getfield 14, 3) := by decide +kernel
theorem dX6_payments_5 : decode cX6_payments 5 = .ok (.iload_n 1, 1) := by decide +kernel
theorem dX6_payments_6 : decode cX6_payments 6 = .ok (.laload, 1) := by decide +kernel
theorem dX6_payments_7 : decode cX6_payments 7 = .ok (.lsub, 1) := by decide +kernel
theorem dX6_payments_8 : decode cX6_payments 8 = .ok (.iload_n 1, 1) := by decide +kernel
theorem dX6_payments_9 : decode cX6_payments 9 = .ok (.iload 4, 2) := by decide +kernel
theorem dX6_payments_11 : decode cX6_payments 11 = .ok (.if_icmp .le 7, 3) := by decide +kernel
theorem dX6_payments_14 : decode cX6_payments 14 = .ok (.iconst 0, 1) := by decide +kernel
theorem dX6_payments_15 : decode cX6_payments 15 = .ok (.goto 4, 3) := by decide +kernel
theorem dX6_payments_18 : decode cX6_payments 18 = .ok (.iconst 1, 1) := by decide +kernel
theorem dX6_payments_19 : decode cX6_payments 19 = .ok (.i2l, 1) := by decide +kernel
theorem dX6_payments_20 : decode cX6_payments 20 = .ok (.ladd, 1) := by decide +kernel
theorem dX6_payments_21 : decode cX6_payments 21 = .ok (.lstore 5, 2) := by decide +kernel
theorem dX6_payments_23 : decode cX6_payments 23 = .ok (.lload 5, 2) := by decide +kernel
theorem dX6_payments_25 : decode cX6_payments 25 = .ok (.lconst 0, 1) := by decide +kernel
theorem dX6_payments_26 : decode cX6_payments 26 = .ok (.lcmp, 1) := by decide +kernel
theorem dX6_payments_27 : decode cX6_payments 27 = .ok (.ifCond .gt 5, 3) := by decide +kernel
theorem dX6_payments_30 : decode cX6_payments 30 = .ok (.lconst 0, 1) := by decide +kernel
theorem dX6_payments_31 : decode cX6_payments 31 = .ok (.lreturn, 1) := by decide +kernel
theorem dX6_payments_32 : decode cX6_payments 32 = .ok (.lload 5, 2) := by decide +kernel
theorem dX6_payments_34 : decode cX6_payments 34 = .ok (.aload_n 0, 1) := by decide +kernel
theorem dX6_payments_35 : decode cX6_payments 35 = .ok (.iload_n 1, 1) := by decide +kernel
theorem dX6_payments_36 : decode cX6_payments 36 = .ok (.iconst 2, 1) := by decide +kernel
theorem dX6_payments_37 : decode cX6_payments 37 = .ok (.invokevirtual 36, 3) := by decide +kernel
theorem dX6_payments_40 : decode cX6_payments 40 = .ok (.i2l, 1) := by decide +kernel
theorem dX6_payments_41 : decode cX6_payments 41 = .ok (.lmul, 1) := by decide +kernel
theorem dX6_payments_42 : decode cX6_payments 42 = .ok (.aload_n 0, 1) := by decide +kernel
theorem dX6_payments_43 : decode cX6_payments 43 = .ok (.iload_n 1, 1) := by decide +kernel
theorem dX6_payments_44 : decode cX6_payments 44 = .ok (.iconst 3, 1) := by decide +kernel
theorem dX6_payments_45 : decode cX6_payments 45 = .ok (.invokevirtual 36, 3) := by decide +kernel
theorem dX6_payments_48 : decode cX6_payments 48 = .ok (.i2l, 1) := by decide +kernel
theorem dX6_payments_49 : decode cX6_payments 49 = .ok (.lsub, 1) := by decide +kernel
theorem dX6_payments_50 : decode cX6_payments 50 = .ok (.lstore 7, 2) := by decide +kernel
theorem dX6_payments_52 : decode cX6_payments 52 = .ok (.lload 7, 2) := by decide +kernel
theorem dX6_payments_54 : decode cX6_payments 54 = .ok (.lconst 0, 1) := by decide +kernel
theorem dX6_payments_55 : decode cX6_payments 55 = .ok (.lcmp, 1) := by decide +kernel
theorem dX6_payments_56 : decode cX6_payments 56 = .ok (.ifCond .gt 7, 3) := by decide +kernel
theorem dX6_payments_59 : decode cX6_payments 59 = .ok (.lconst 0, 1) := by decide +kernel
theorem dX6_payments_60 : decode cX6_payments 60 = .ok (.goto 13, 3) := by decide +kernel
theorem dX6_payments_63 : decode cX6_payments 63 = .ok (.lload 7, 2) := by decide +kernel
theorem dX6_payments_65 : decode cX6_payments 65 = .ok (.ldc2_w 183, 3) := by decide +kernel
theorem dX6_payments_68 : decode cX6_payments 68 = .ok (.ladd, 1) := by decide +kernel
theorem dX6_payments_69 : decode cX6_payments 69 = .ok (.ldc2_w 156, 3) := by decide +kernel
theorem dX6_payments_72 : decode cX6_payments 72 = .ok (.ldiv, 1) := by decide +kernel
theorem dX6_payments_73 : decode cX6_payments 73 = .ok (.lreturn, 1) := by decide +kernel
theorem dX6_bound_0 : decode cX6_bound 0 = .ok (.aload_n 0, 1) := by decide +kernel
theorem dX6_bound_1 : decode cX6_bound 1 = .ok (.iload_n 1, 1) := by decide +kernel
theorem dX6_bound_2 : decode cX6_bound 2 = .ok (.invokevirtual 158, 3) := by decide +kernel
theorem dX6_bound_5 : decode cX6_bound 5 = .ok (.ifCond .eq 13, 3) := by decide +kernel
theorem dX6_bound_8 : decode cX6_bound 8 = .ok (.aload_n 0, 1) := by decide +kernel
theorem dX6_bound_9 : decode cX6_bound 9 = .ok (.iload_n 1, 1) := by decide +kernel
theorem dX6_bound_10 : decode cX6_bound 10 = .ok (.bipush 6, 2) := by decide +kernel
theorem dX6_bound_12 : decode cX6_bound 12 = .ok (.invokevirtual 36, 3) := by decide +kernel
theorem dX6_bound_15 : decode cX6_bound 15 = .ok (.ifCond .eq 7, 3) := by decide +kernel
theorem dX6_bound_18 : decode cX6_bound 18 = .ok (.ldc2_w 176, 3) := by decide +kernel
theorem dX6_bound_21 : decode cX6_bound 21 = .ok (.lreturn, 1) := by decide +kernel
theorem dX6_bound_22 : decode cX6_bound 22 = .ok (.aload_n 0, 1) := by decide +kernel
theorem dX6_bound_23 : decode cX6_bound 23 = .ok (.iload_n 1, 1) := by decide +kernel
theorem dX6_bound_24 : decode cX6_bound 24 = .ok (.invokevirtual 67, 3) := by decide +kernel
theorem dX6_bound_27 : decode cX6_bound 27 = .ok (.istore_n 2, 1) := by decide +kernel
theorem dX6_bound_28 : decode cX6_bound 28 = .ok (.iconst 0, 1) := by decide +kernel
theorem dX6_bound_29 : decode cX6_bound 29 = .ok (.istore_n 3, 1) := by decide +kernel
theorem dX6_bound_30 : decode cX6_bound 30 = .ok (.lconst 0, 1) := by decide +kernel
theorem dX6_bound_31 : decode cX6_bound 31 = .ok (.lstore 4, 2) := by decide +kernel
theorem dX6_bound_33 : decode cX6_bound 33 = .ok (.iconst 0, 1) := by decide +kernel
theorem dX6_bound_34 : decode cX6_bound 34 = .ok (.istore 6, 2) := by decide +kernel
theorem dX6_bound_36 : decode cX6_bound 36 = .ok (.iload 6, 2) := by decide +kernel
theorem dX6_bound_38 : decode cX6_bound 38 = .ok (.aload_n 0, 1) := by decide +kernel
theorem dX6_bound_39 : decode cX6_bound 39 = .ok (.getfield 8, 3) := by decide +kernel
theorem dX6_bound_42 : decode cX6_bound 42 = .ok (.iconst 1, 1) := by decide +kernel
theorem dX6_bound_43 : decode cX6_bound 43 = .ok (.iaload, 1) := by decide +kernel
theorem dX6_bound_44 : decode cX6_bound 44 = .ok (.if_icmp .ge 184, 3) := by decide +kernel
theorem dX6_bound_47 : decode cX6_bound 47 = .ok (.aload_n 0, 1) := by decide +kernel
theorem dX6_bound_48 : decode cX6_bound 48 = .ok (.iload 6, 2) := by decide +kernel
theorem dX6_bound_50 : decode cX6_bound 50 = .ok (.bipush 6, 2) := by decide +kernel
theorem dX6_bound_52 : decode cX6_bound 52 = .ok (.invokevirtual 36, 3) := by decide +kernel
theorem dX6_bound_55 : decode cX6_bound 55 = .ok (.ifCond .ne 167, 3) := by decide +kernel
theorem dX6_bound_58 : decode cX6_bound 58 = .ok (.iload 6, 2) := by decide +kernel
theorem dX6_bound_60 : decode cX6_bound 60 = .ok (.iload_n 1, 1) := by decide +kernel
theorem dX6_bound_61 : decode cX6_bound 61 = .ok (.if_icmp .ne 6, 3) := by decide +kernel
theorem dX6_bound_64 : decode cX6_bound 64 = .ok (.goto 158, 3) := by decide +kernel
theorem dX6_bound_67 : decode cX6_bound 67 = .ok (.aload_n 0, 1) := by decide +kernel
theorem dX6_bound_68 : decode cX6_bound 68 = .ok (.iload 6, 2) := by decide +kernel
theorem dX6_bound_70 : decode cX6_bound 70 = .ok (.invokevirtual 67, 3) := by decide +kernel
theorem dX6_bound_73 : decode cX6_bound 73 = .ok (.istore 7, 2) := by decide +kernel
theorem dX6_bound_75 : decode cX6_bound 75 = .ok (.aload_n 0, 1) := by decide +kernel
theorem dX6_bound_76 : decode cX6_bound 76 = .ok (.iload 7, 2) := by decide +kernel
theorem dX6_bound_78 : decode cX6_bound 78 = .ok (.iload_n 2, 1) := by decide +kernel
theorem dX6_bound_79 : decode cX6_bound 79 = .ok (.invokevirtual 55, 3) := by decide +kernel
theorem dX6_bound_82 : decode cX6_bound 82 = .ok (.ifCond .ne 6, 3) := by decide +kernel
theorem dX6_bound_85 : decode cX6_bound 85 = .ok (.goto 137, 3) := by decide +kernel
theorem dX6_bound_88 : decode cX6_bound 88 = .ok (.iload 7, 2) := by decide +kernel
theorem dX6_bound_90 : decode cX6_bound 90 = .ok (.iload 6, 2) := by decide +kernel
theorem dX6_bound_92 : decode cX6_bound 92 = .ok (.if_icmp .eq 9, 3) := by decide +kernel
theorem dX6_bound_95 : decode cX6_bound 95 = .ok (.iinc 3 1, 3) := by decide +kernel
theorem dX6_bound_98 : decode cX6_bound 98 = .ok (.goto 124, 3) := by decide +kernel
theorem dX6_bound_101 : decode cX6_bound 101 = .ok (.aload_n 0, 1) := by decide +kernel
theorem dX6_bound_102 : decode cX6_bound 102 = .ok (.iload 6, 2) := by decide +kernel
theorem dX6_bound_104 : decode cX6_bound 104 = .ok (.invokevirtual 43, 3) := by decide +kernel
theorem dX6_bound_107 : decode cX6_bound 107 = .ok (.ifCond .eq 14, 3) := by decide +kernel
theorem dX6_bound_110 : decode cX6_bound 110 = .ok (.aload_n 0, 1) := by decide +kernel
theorem dX6_bound_111 : decode cX6_bound 111 = .ok (.iload 6, 2) := by decide +kernel
theorem dX6_bound_113 : decode cX6_bound 113 = .ok (.bipush 13, 2) := by decide +kernel
theorem dX6_bound_115 : decode cX6_bound 115 = .ok (.invokevirtual 36, 3) := by decide +kernel
theorem dX6_bound_118 : decode cX6_bound 118 = .ok (.goto 4, 3) := by decide +kernel
theorem dX6_bound_121 : decode cX6_bound 121 = .ok (.iconst 0, 1) := by decide +kernel
theorem dX6_bound_122 : decode cX6_bound 122 = .ok (.istore 8, 2) := by decide +kernel
theorem dX6_bound_124 : decode cX6_bound 124 = .ok (.aload_n 0, 1) := by decide +kernel
theorem dX6_bound_125 : decode cX6_bound 125 = .ok (.iload_n 2, 1) := by decide +kernel
theorem dX6_bound_126 : decode cX6_bound 126 = .ok (.invokevirtual 47, 3) := by decide +kernel
theorem dX6_bound_129 : decode cX6_bound 129 = .ok (.ifCond .ne 14, 3) := by decide +kernel
theorem dX6_bound_132 : decode cX6_bound 132 = .ok (.lload 4, 2) := by decide +kernel
theorem dX6_bound_134 : decode cX6_bound 134 = .ok (.iload 8, 2) := by decide +kernel
theorem dX6_bound_136 : decode cX6_bound 136 = .ok (.i2l, 1) := by decide +kernel
theorem dX6_bound_137 : decode cX6_bound 137 = .ok (.ladd, 1) := by decide +kernel
theorem dX6_bound_138 : decode cX6_bound 138 = .ok (.lstore 4, 2) := by decide +kernel
theorem dX6_bound_140 : decode cX6_bound 140 = .ok (.goto 82, 3) := by decide +kernel
theorem dX6_bound_143 : decode cX6_bound 143 = .ok (.aload_n 0, 1) := by decide +kernel
theorem dX6_bound_144 : decode cX6_bound 144 = .ok (.iload 6, 2) := by decide +kernel
theorem dX6_bound_146 : decode cX6_bound 146 = .ok (.aload_n 0, 1) := by decide +kernel
theorem dX6_bound_147 : decode cX6_bound 147 = .ok (.iload_n 2, 1) := by decide +kernel
theorem dX6_bound_148 : decode cX6_bound 148 = .ok (.invokevirtual 51, 3) := by decide +kernel
theorem dX6_bound_151 : decode cX6_bound 151 = .ok (.iload_n 2, 1) := by decide +kernel
theorem dX6_bound_152 : decode cX6_bound 152 = .ok (.invokevirtual 185, 3) := by decide +kernel
theorem dX6_bound_155 : decode cX6_bound 155 = .ok (.lstore 9, 2) := by decide +kernel
theorem dX6_bound_157 : decode cX6_bound 157 = .ok (.aload_n 0, 1) := by decide +kernel
theorem dX6_bound_158 : decode cX6_bound 158 = .ok (.iload 6, 2) := by decide +kernel
theorem dX6_bound_160 : decode cX6_bound 160 = .ok (.iconst 0, 1) := by decide +kernel
theorem dX6_bound_161 : decode cX6_bound 161 = .ok (.invokevirtual 36, 3) := by decide +kernel
theorem dX6_bound_164 : decode cX6_bound 164 = .ok (.istore 11, 2) := by decide +kernel
theorem dX6_bound_166 : decode cX6_bound 166 = .ok (.lload 4, 2) := by decide +kernel
theorem dX6_bound_168 : decode cX6_bound 168 = .ok (.iload 11, 2) := by decide +kernel
theorem dX6_bound_170 : decode cX6_bound 170 = .ok (.iconst 1, 1) := by decide +kernel
theorem dX6_bound_171 : decode cX6_bound 171 = .ok (.if_icmp .ne 12, 3) := by decide +kernel
theorem dX6_bound_174 : decode cX6_bound 174 = .ok (.iload 8, 2) := by decide +kernel
theorem dX6_bound_176 : decode cX6_bound 176 = .ok (.i2l, 1) := by decide +kernel
theorem dX6_bound_177 : decode cX6_bound 177 = .ok (.lload 9, 2) := by decide +kernel
theorem dX6_bound_179 : decode cX6_bound 179 = .ok (.ladd, 1) := by decide +kernel
theorem dX6_bound_180 : decode cX6_bound 180 = .ok (.goto 39, 3) := by decide +kernel
theorem dX6_bound_183 : decode cX6_bound 183 = .ok (.iload 11, 2) := by decide +kernel
theorem dX6_bound_185 : decode cX6_bound 185 = .ok (.iconst 2, 1) := by decide +kernel
theorem dX6_bound_186 : decode cX6_bound 186 = .ok (.if_icmp .ne 14, 3) := by decide +kernel
theorem dX6_bound_189 : decode cX6_bound 189 = .ok (.iload 8, 2) := by decide +kernel
theorem dX6_bound_191 : decode cX6_bound 191 = .ok (.i2l, 1) := by decide +kernel
theorem dX6_bound_192 : decode cX6_bound 192 = .ok (.lload 9, 2) := by decide +kernel
theorem dX6_bound_194 : decode cX6_bound 194 = .ok (.invokestatic 189, 3) := by decide +kernel
theorem dX6_bound_197 : decode cX6_bound 197 = .ok (.goto 22, 3) := by decide +kernel
theorem dX6_bound_200 : decode cX6_bound 200 = .ok (.iload 11, 2) := by decide +kernel
theorem dX6_bound_202 : decode cX6_bound 202 = .ok (.iconst 4, 1) := by decide +kernel
theorem dX6_bound_203 : decode cX6_bound 203 = .ok (.if_icmp .ne 14, 3) := by decide +kernel
theorem dX6_bound_206 : decode cX6_bound 206 = .ok (.lload 9, 2) := by decide +kernel
theorem dX6_bound_208 : decode cX6_bound 208 = .ok (.lconst 1, 1) := by decide +kernel
theorem dX6_bound_209 : decode cX6_bound 209 = .ok (.ladd, 1) := by decide +kernel
theorem dX6_bound_210 : decode cX6_bound 210 = .ok (.ldc2_w 178, 3) := by decide +kernel
theorem dX6_bound_213 : decode cX6_bound 213 = .ok (.ldiv, 1) := by decide +kernel
theorem dX6_bound_214 : decode cX6_bound 214 = .ok (.goto 5, 3) := by decide +kernel
theorem dX6_bound_217 : decode cX6_bound 217 = .ok (.lload 9, 2) := by decide +kernel
theorem dX6_bound_219 : decode cX6_bound 219 = .ok (.ladd, 1) := by decide +kernel
theorem dX6_bound_220 : decode cX6_bound 220 = .ok (.lstore 4, 2) := by decide +kernel
theorem dX6_bound_222 : decode cX6_bound 222 = .ok (.iinc 6 1, 3) := by decide +kernel
theorem dX6_bound_225 : decode cX6_bound 225 = .ok (.goto (-189), 3) := by decide +kernel
theorem dX6_bound_228 : decode cX6_bound 228 = .ok (.iload_n 3, 1) := by decide +kernel
theorem dX6_bound_229 : decode cX6_bound 229 = .ok (.aload_n 0, 1) := by decide +kernel
theorem dX6_bound_230 : decode cX6_bound 230 = .ok (.getfield 8, 3) := by decide +kernel
theorem dX6_bound_233 : decode cX6_bound 233 = .ok (.iconst 2, 1) := by decide +kernel
theorem dX6_bound_234 : decode cX6_bound 234 = .ok (.iaload, 1) := by decide +kernel
theorem dX6_bound_235 : decode cX6_bound 235 = .ok (.if_icmp .lt 9, 3) := by decide +kernel
theorem dX6_bound_238 : decode cX6_bound 238 = .ok (.ldc2_w 176, 3) := by decide +kernel
theorem dX6_bound_241 : decode cX6_bound 241 = .ok (.goto 17, 3) := by decide +kernel
theorem dX6_bound_244 : decode cX6_bound 244 = .ok (.lload 4, 2) := by decide +kernel
theorem dX6_bound_246 : decode cX6_bound 246 = .ok (.aload_n 0, 1) := by decide +kernel
theorem dX6_bound_247 : decode cX6_bound 247 = .ok (.getfield 8, 3) := by decide +kernel
theorem dX6_bound_250 : decode cX6_bound 250 = .ok (.iconst 2, 1) := by decide +kernel
theorem dX6_bound_251 : decode cX6_bound 251 = .ok (.iaload, 1) := by decide +kernel
theorem dX6_bound_252 : decode cX6_bound 252 = .ok (.iload_n 3, 1) := by decide +kernel
theorem dX6_bound_253 : decode cX6_bound 253 = .ok (.isub, 1) := by decide +kernel
theorem dX6_bound_254 : decode cX6_bound 254 = .ok (.i2l, 1) := by decide +kernel
theorem dX6_bound_255 : decode cX6_bound 255 = .ok (.ldiv, 1) := by decide +kernel
theorem dX6_bound_256 : decode cX6_bound 256 = .ok (.lconst 1, 1) := by decide +kernel
theorem dX6_bound_257 : decode cX6_bound 257 = .ok (.ladd, 1) := by decide +kernel
theorem dX6_bound_258 : decode cX6_bound 258 = .ok (.lreturn, 1) := by decide +kernel
theorem dX6_trace_0 : decode cX6_trace 0 = .ok (.iload_n 1, 1) := by decide +kernel
theorem dX6_trace_1 : decode cX6_trace 1 = .ok (.i2l, 1) := by decide +kernel
theorem dX6_trace_2 : decode cX6_trace 2 = .ok (.lconst 0, 1) := by decide +kernel
theorem dX6_trace_3 : decode cX6_trace 3 = .ok (.ldc2_w 192, 3) := by decide +kernel
theorem dX6_trace_6 : decode cX6_trace 6 = .ok (.invokestatic 32, 3) := by decide +kernel
theorem dX6_trace_9 : decode cX6_trace 9 = .ok (.ifCond .eq 16, 3) := by decide +kernel
theorem dX6_trace_12 : decode cX6_trace 12 = .ok (.aload_n 0, 1) := by decide +kernel
theorem dX6_trace_13 : decode cX6_trace 13 = .ok (.getfield 8, 3) := by decide +kernel
theorem dX6_trace_16 : decode cX6_trace 16 = .ok (.sipush 220, 3) := by decide +kernel
theorem dX6_trace_19 : decode cX6_trace 19 = .ok (.iload_n 1, 1) := by decide +kernel
theorem dX6_trace_20 : decode cX6_trace 20 = .ok (.iadd, 1) := by decide +kernel
theorem dX6_trace_21 : decode cX6_trace 21 = .ok (.iaload, 1) := by decide +kernel
theorem dX6_trace_22 : decode cX6_trace 22 = .ok (.goto 4, 3) := by decide +kernel
theorem dX6_trace_25 : decode cX6_trace 25 = .ok (.iconst (-1), 1) := by decide +kernel
theorem dX6_trace_26 : decode cX6_trace 26 = .ok (.ireturn, 1) := by decide +kernel
theorem dX6_count_0 : decode cX6_count 0 = .ok (.iconst 0, 1) := by decide +kernel
theorem dX6_count_1 : decode cX6_count 1 = .ok (.istore_n 2, 1) := by decide +kernel
theorem dX6_count_2 : decode cX6_count 2 = .ok (.iconst 0, 1) := by decide +kernel
theorem dX6_count_3 : decode cX6_count 3 = .ok (.istore_n 3, 1) := by decide +kernel
theorem dX6_count_4 : decode cX6_count 4 = .ok (.iconst 0, 1) := by decide +kernel
theorem dX6_count_5 : decode cX6_count 5 = .ok (.istore 4, 2) := by decide +kernel
theorem dX6_count_7 : decode cX6_count 7 = .ok (.iload 4, 2) := by decide +kernel
theorem dX6_count_9 : decode cX6_count 9 = .ok (.aload_n 0, 1) := by decide +kernel
theorem dX6_count_10 : decode cX6_count 10 = .ok (.getfield 8, 3) := by decide +kernel
theorem dX6_count_13 : decode cX6_count 13 = .ok (.iconst 1, 1) := by decide +kernel
theorem dX6_count_14 : decode cX6_count 14 = .ok (.iaload, 1) := by decide +kernel
theorem dX6_count_15 : decode cX6_count 15 = .ok (.if_icmp .ge 48, 3) := by decide +kernel
theorem dX6_count_18 : decode cX6_count 18 = .ok (.iload_n 2, 1) := by decide +kernel
theorem dX6_count_19 : decode cX6_count 19 = .ok (.aload_n 0, 1) := by decide +kernel
theorem dX6_count_20 : decode cX6_count 20 = .ok (.iload 4, 2) := by decide +kernel
theorem dX6_count_22 : decode cX6_count 22 = .ok (.bipush 6, 2) := by decide +kernel
theorem dX6_count_24 : decode cX6_count 24 = .ok (.invokevirtual 36, 3) := by decide +kernel
theorem dX6_count_27 : decode cX6_count 27 = .ok (.iconst 4, 1) := by decide +kernel
theorem dX6_count_28 : decode cX6_count 28 = .ok (.if_icmp .eq 7, 3) := by decide +kernel
theorem dX6_count_31 : decode cX6_count 31 = .ok (.iconst 1, 1) := by decide +kernel
theorem dX6_count_32 : decode cX6_count 32 = .ok (.goto 4, 3) := by decide +kernel
theorem dX6_count_35 : decode cX6_count 35 = .ok (.iconst 0, 1) := by decide +kernel
theorem dX6_count_36 : decode cX6_count 36 = .ok (.iadd, 1) := by decide +kernel
theorem dX6_count_37 : decode cX6_count 37 = .ok (.istore_n 2, 1) := by decide +kernel
theorem dX6_count_38 : decode cX6_count 38 = .ok (.iload_n 3, 1) := by decide +kernel
theorem dX6_count_39 : decode cX6_count 39 = .ok (.aload_n 0, 1) := by decide +kernel
theorem dX6_count_40 : decode cX6_count 40 = .ok (.iload 4, 2) := by decide +kernel
theorem dX6_count_42 : decode cX6_count 42 = .ok (.bipush 6, 2) := by decide +kernel
theorem dX6_count_44 : decode cX6_count 44 = .ok (.invokevirtual 36, 3) := by decide +kernel
theorem dX6_count_47 : decode cX6_count 47 = .ok (.ifCond .ne 7, 3) := by decide +kernel
theorem dX6_count_50 : decode cX6_count 50 = .ok (.iconst 1, 1) := by decide +kernel
theorem dX6_count_51 : decode cX6_count 51 = .ok (.goto 4, 3) := by decide +kernel
theorem dX6_count_54 : decode cX6_count 54 = .ok (.iconst 0, 1) := by decide +kernel
theorem dX6_count_55 : decode cX6_count 55 = .ok (.iadd, 1) := by decide +kernel
theorem dX6_count_56 : decode cX6_count 56 = .ok (.istore_n 3, 1) := by decide +kernel
theorem dX6_count_57 : decode cX6_count 57 = .ok (.iinc 4 1, 3) := by decide +kernel
theorem dX6_count_60 : decode cX6_count 60 = .ok (.goto (-53), 3) := by decide +kernel
theorem dX6_count_63 : decode cX6_count 63 = .ok (.iload_n 1, 1) := by decide +kernel
theorem dX6_count_64 : decode cX6_count 64 = .ok (.tableswitch 95 0 7 #[48, 55, 62, 64, 66, 73, 80, 87], 48) := by decide +kernel
theorem dX6_count_112 : decode cX6_count 112 = .ok (.aload_n 0, 1) := by decide +kernel
theorem dX6_count_113 : decode cX6_count 113 = .ok (.getfield 8, 3) := by decide +kernel
theorem dX6_count_116 : decode cX6_count 116 = .ok (.iconst 0, 1) := by decide +kernel
theorem dX6_count_117 : decode cX6_count 117 = .ok (.iaload, 1) := by decide +kernel
theorem dX6_count_118 : decode cX6_count 118 = .ok (.ireturn, 1) := by decide +kernel
theorem dX6_count_119 : decode cX6_count 119 = .ok (.aload_n 0, 1) := by decide +kernel
theorem dX6_count_120 : decode cX6_count 120 = .ok (.getfield 8, 3) := by decide +kernel
theorem dX6_count_123 : decode cX6_count 123 = .ok (.iconst 1, 1) := by decide +kernel
theorem dX6_count_124 : decode cX6_count 124 = .ok (.iaload, 1) := by decide +kernel
theorem dX6_count_125 : decode cX6_count 125 = .ok (.ireturn, 1) := by decide +kernel
theorem dX6_count_126 : decode cX6_count 126 = .ok (.iload_n 2, 1) := by decide +kernel
theorem dX6_count_127 : decode cX6_count 127 = .ok (.ireturn, 1) := by decide +kernel
theorem dX6_count_128 : decode cX6_count 128 = .ok (.iload_n 3, 1) := by decide +kernel
theorem dX6_count_129 : decode cX6_count 129 = .ok (.ireturn, 1) := by decide +kernel
theorem dX6_count_130 : decode cX6_count 130 = .ok (.aload_n 0, 1) := by decide +kernel
theorem dX6_count_131 : decode cX6_count 131 = .ok (.getfield 8, 3) := by decide +kernel
theorem dX6_count_134 : decode cX6_count 134 = .ok (.iconst 3, 1) := by decide +kernel
theorem dX6_count_135 : decode cX6_count 135 = .ok (.iaload, 1) := by decide +kernel
theorem dX6_count_136 : decode cX6_count 136 = .ok (.ireturn, 1) := by decide +kernel
theorem dX6_count_137 : decode cX6_count 137 = .ok (.aload_n 0, 1) := by decide +kernel
theorem dX6_count_138 : decode cX6_count 138 = .ok (.getfield 8, 3) := by decide +kernel
theorem dX6_count_141 : decode cX6_count 141 = .ok (.iconst 2, 1) := by decide +kernel
theorem dX6_count_142 : decode cX6_count 142 = .ok (.iaload, 1) := by decide +kernel
theorem dX6_count_143 : decode cX6_count 143 = .ok (.ireturn, 1) := by decide +kernel
theorem dX6_count_144 : decode cX6_count 144 = .ok (.aload_n 0, 1) := by decide +kernel
theorem dX6_count_145 : decode cX6_count 145 = .ok (.getfield 8, 3) := by decide +kernel
theorem dX6_count_148 : decode cX6_count 148 = .ok (.iconst 4, 1) := by decide +kernel
theorem dX6_count_149 : decode cX6_count 149 = .ok (.iaload, 1) := by decide +kernel
theorem dX6_count_150 : decode cX6_count 150 = .ok (.ireturn, 1) := by decide +kernel
theorem dX6_count_151 : decode cX6_count 151 = .ok (.aload_n 0, 1) := by decide +kernel
theorem dX6_count_152 : decode cX6_count 152 = .ok (.getfield 8, 3) := by decide +kernel
theorem dX6_count_155 : decode cX6_count 155 = .ok (.bipush 6, 2) := by decide +kernel
theorem dX6_count_157 : decode cX6_count 157 = .ok (.iaload, 1) := by decide +kernel
theorem dX6_count_158 : decode cX6_count 158 = .ok (.ireturn, 1) := by decide +kernel
theorem dX6_count_159 : decode cX6_count 159 = .ok (.iconst (-1), 1) := by decide +kernel
theorem dX6_count_160 : decode cX6_count 160 = .ok (.ireturn, 1) := by decide +kernel
theorem dX6_image_0 : decode cX6_image 0 = .ok (.iconst 0, 1) := by decide +kernel
theorem dX6_image_1 : decode cX6_image 1 = .ok (.istore_n 1, 1) := by decide +kernel
theorem dX6_image_2 : decode cX6_image 2 = .ok (.iload_n 1, 1) := by decide +kernel
theorem dX6_image_3 : decode cX6_image 3 = .ok (.ldc 7, 2) := by decide +kernel
theorem dX6_image_5 : decode cX6_image 5 = .ok (.if_icmp .ge 21, 3) := by decide +kernel
theorem dX6_image_8 : decode cX6_image 8 = .ok (.aload_n 0, 1) := by decide +kernel
theorem dX6_image_9 : decode cX6_image 9 = .ok (.getfield 18, 3) := by decide +kernel
theorem dX6_image_12 : decode cX6_image 12 = .ok (.iload_n 1, 1) := by decide +kernel
theorem dX6_image_13 : decode cX6_image 13 = .ok (.aload_n 0, 1) := by decide +kernel
theorem dX6_image_14 : decode cX6_image 14 = .ok (.getfield 8, 3) := by decide +kernel
theorem dX6_image_17 : decode cX6_image 17 = .ok (.iload_n 1, 1) := by decide +kernel
theorem dX6_image_18 : decode cX6_image 18 = .ok (.iaload, 1) := by decide +kernel
theorem dX6_image_19 : decode cX6_image 19 = .ok (.iastore, 1) := by decide +kernel
theorem dX6_image_20 : decode cX6_image 20 = .ok (.iinc 1 1, 3) := by decide +kernel
theorem dX6_image_23 : decode cX6_image 23 = .ok (.goto (-21), 3) := by decide +kernel
theorem dX6_image_26 : decode cX6_image 26 = .ok (.iconst 0, 1) := by decide +kernel
theorem dX6_image_27 : decode cX6_image 27 = .ok (.istore_n 1, 1) := by decide +kernel
theorem dX6_image_28 : decode cX6_image 28 = .ok (.iload_n 1, 1) := by decide +kernel
theorem dX6_image_29 : decode cX6_image 29 = .ok (.sipush 200, 3) := by decide +kernel
theorem dX6_image_32 : decode cX6_image 32 = .ok (.if_icmp .ge 21, 3) := by decide +kernel
theorem dX6_image_35 : decode cX6_image 35 = .ok (.aload_n 0, 1) := by decide +kernel
theorem dX6_image_36 : decode cX6_image 36 = .ok (.getfield 21, 3) := by decide +kernel
theorem dX6_image_39 : decode cX6_image 39 = .ok (.iload_n 1, 1) := by decide +kernel
theorem dX6_image_40 : decode cX6_image 40 = .ok (.aload_n 0, 1) := by decide +kernel
theorem dX6_image_41 : decode cX6_image 41 = .ok (.getfield 14, 3) := by decide +kernel
theorem dX6_image_44 : decode cX6_image 44 = .ok (.iload_n 1, 1) := by decide +kernel
theorem dX6_image_45 : decode cX6_image 45 = .ok (.laload, 1) := by decide +kernel
theorem dX6_image_46 : decode cX6_image 46 = .ok (.lastore, 1) := by decide +kernel
theorem dX6_image_47 : decode cX6_image 47 = .ok (.iinc 1 1, 3) := by decide +kernel
theorem dX6_image_50 : decode cX6_image 50 = .ok (.goto (-22), 3) := by decide +kernel
theorem dX6_image_53 : decode cX6_image 53 = .ok (.aload_n 0, 1) := by decide +kernel
theorem dX6_image_54 : decode cX6_image 54 = .ok (.iconst 1, 1) := by decide +kernel
theorem dX6_image_55 : decode cX6_image 55 = .ok (.putfield 194, 3) := by decide +kernel
theorem dX6_image_58 : decode cX6_image 58 = .ok (.aload_n 0, 1) := by decide +kernel
theorem dX6_image_59 : decode cX6_image 59 = .ok (.invokevirtual 198, 3) := by decide +kernel
theorem dX6_image_62 : decode cX6_image 62 = .ok (.lreturn, 1) := by decide +kernel
theorem dX6_load_0 : decode cX6_load 0 = .ok (.aload_n 0, 1) := by decide +kernel
theorem dX6_load_1 : decode cX6_load 1 = .ok (.aload_n 0, 1) := by decide +kernel
theorem dX6_load_2 : decode cX6_load 2 = .ok (.getfield 194, 3) := by decide +kernel
theorem dX6_load_5 : decode cX6_load 5 = .ok (.ifCond .eq 7, 3) := by decide +kernel
theorem dX6_load_8 : decode cX6_load 8 = .ok (.iconst 0, 1) := by decide +kernel
theorem dX6_load_9 : decode cX6_load 9 = .ok (.goto 4, 3) := by decide +kernel
theorem dX6_load_12 : decode cX6_load 12 = .ok (.iconst 2, 1) := by decide +kernel
theorem dX6_load_13 : decode cX6_load 13 = .ok (.putfield 40, 3) := by decide +kernel
theorem dX6_load_16 : decode cX6_load 16 = .ok (.aload_n 0, 1) := by decide +kernel
theorem dX6_load_17 : decode cX6_load 17 = .ok (.getfield 194, 3) := by decide +kernel
theorem dX6_load_20 : decode cX6_load 20 = .ok (.ifCond .ne 5, 3) := by decide +kernel
theorem dX6_load_23 : decode cX6_load 23 = .ok (.iconst 0, 1) := by decide +kernel
theorem dX6_load_24 : decode cX6_load 24 = .ok (.ireturn, 1) := by decide +kernel
theorem dX6_load_25 : decode cX6_load 25 = .ok (.iconst 0, 1) := by decide +kernel
theorem dX6_load_26 : decode cX6_load 26 = .ok (.istore_n 1, 1) := by decide +kernel
theorem dX6_load_27 : decode cX6_load 27 = .ok (.iload_n 1, 1) := by decide +kernel
theorem dX6_load_28 : decode cX6_load 28 = .ok (.ldc 7, 2) := by decide +kernel
theorem dX6_load_30 : decode cX6_load 30 = .ok (.if_icmp .ge 21, 3) := by decide +kernel
theorem dX6_load_33 : decode cX6_load 33 = .ok (.aload_n 0, 1) := by decide +kernel
theorem dX6_load_34 : decode cX6_load 34 = .ok (.getfield 8, 3) := by decide +kernel
theorem dX6_load_37 : decode cX6_load 37 = .ok (.iload_n 1, 1) := by decide +kernel
theorem dX6_load_38 : decode cX6_load 38 = .ok (.aload_n 0, 1) := by decide +kernel
theorem dX6_load_39 : decode cX6_load 39 = .ok (.getfield 18, 3) := by decide +kernel
theorem dX6_load_42 : decode cX6_load 42 = .ok (.iload_n 1, 1) := by decide +kernel
theorem dX6_load_43 : decode cX6_load 43 = .ok (.iaload, 1) := by decide +kernel
theorem dX6_load_44 : decode cX6_load 44 = .ok (.iastore, 1) := by decide +kernel
theorem dX6_load_45 : decode cX6_load 45 = .ok (.iinc 1 1, 3) := by decide +kernel
theorem dX6_load_48 : decode cX6_load 48 = .ok (.goto (-21), 3) := by decide +kernel
theorem dX6_load_51 : decode cX6_load 51 = .ok (.iconst 0, 1) := by decide +kernel
theorem dX6_load_52 : decode cX6_load 52 = .ok (.istore_n 1, 1) := by decide +kernel
theorem dX6_load_53 : decode cX6_load 53 = .ok (.iload_n 1, 1) := by decide +kernel
theorem dX6_load_54 : decode cX6_load 54 = .ok (.sipush 200, 3) := by decide +kernel
theorem dX6_load_57 : decode cX6_load 57 = .ok (.if_icmp .ge 21, 3) := by decide +kernel
theorem dX6_load_60 : decode cX6_load 60 = .ok (.aload_n 0, 1) := by decide +kernel
theorem dX6_load_61 : decode cX6_load 61 = .ok (.getfield 14, 3) := by decide +kernel
theorem dX6_load_64 : decode cX6_load 64 = .ok (.iload_n 1, 1) := by decide +kernel
theorem dX6_load_65 : decode cX6_load 65 = .ok (.aload_n 0, 1) := by decide +kernel
theorem dX6_load_66 : decode cX6_load 66 = .ok (.getfield 21, 3) := by decide +kernel
theorem dX6_load_69 : decode cX6_load 69 = .ok (.iload_n 1, 1) := by decide +kernel
theorem dX6_load_70 : decode cX6_load 70 = .ok (.laload, 1) := by decide +kernel
theorem dX6_load_71 : decode cX6_load 71 = .ok (.lastore, 1) := by decide +kernel
theorem dX6_load_72 : decode cX6_load 72 = .ok (.iinc 1 1, 3) := by decide +kernel
theorem dX6_load_75 : decode cX6_load 75 = .ok (.goto (-22), 3) := by decide +kernel
theorem dX6_load_78 : decode cX6_load 78 = .ok (.iconst 1, 1) := by decide +kernel
theorem dX6_load_79 : decode cX6_load 79 = .ok (.ireturn, 1) := by decide +kernel
theorem dX6_digest_0 : decode cX6_digest 0 = .ok (.ldc2_w 202, 3) := by decide +kernel
theorem dX6_digest_3 : decode cX6_digest 3 = .ok (.lstore_n 1, 1) := by decide +kernel
theorem dX6_digest_4 : decode cX6_digest 4 = .ok (.lload_n 1, 1) := by decide +kernel
theorem dX6_digest_5 : decode cX6_digest 5 = .ok (.ldc2_w 125, 3) := by decide +kernel
theorem dX6_digest_8 : decode cX6_digest 8 = .ok (.lmul, 1) := by decide +kernel
theorem dX6_digest_9 : decode cX6_digest 9 = .ok (.aload_n 0, 1) := by decide +kernel
theorem dX6_digest_10 : decode cX6_digest 10 = .ok (.getfield 8, 3) := by decide +kernel
theorem dX6_digest_13 : decode cX6_digest 13 = .ok (.iconst 0, 1) := by decide +kernel
theorem dX6_digest_14 : decode cX6_digest 14 = .ok (.iaload, 1) := by decide +kernel
theorem dX6_digest_15 : decode cX6_digest 15 = .ok (.i2l, 1) := by decide +kernel
theorem dX6_digest_16 : decode cX6_digest 16 = .ok (.ladd, 1) := by decide +kernel
theorem dX6_digest_17 : decode cX6_digest 17 = .ok (.lstore_n 1, 1) := by decide +kernel
theorem dX6_digest_18 : decode cX6_digest 18 = .ok (.lload_n 1, 1) := by decide +kernel
theorem dX6_digest_19 : decode cX6_digest 19 = .ok (.ldc2_w 125, 3) := by decide +kernel
theorem dX6_digest_22 : decode cX6_digest 22 = .ok (.lmul, 1) := by decide +kernel
theorem dX6_digest_23 : decode cX6_digest 23 = .ok (.aload_n 0, 1) := by decide +kernel
theorem dX6_digest_24 : decode cX6_digest 24 = .ok (.getfield 8, 3) := by decide +kernel
theorem dX6_digest_27 : decode cX6_digest 27 = .ok (.iconst 1, 1) := by decide +kernel
theorem dX6_digest_28 : decode cX6_digest 28 = .ok (.iaload, 1) := by decide +kernel
theorem dX6_digest_29 : decode cX6_digest 29 = .ok (.i2l, 1) := by decide +kernel
theorem dX6_digest_30 : decode cX6_digest 30 = .ok (.ladd, 1) := by decide +kernel
theorem dX6_digest_31 : decode cX6_digest 31 = .ok (.lstore_n 1, 1) := by decide +kernel
theorem dX6_digest_32 : decode cX6_digest 32 = .ok (.lload_n 1, 1) := by decide +kernel
theorem dX6_digest_33 : decode cX6_digest 33 = .ok (.ldc2_w 125, 3) := by decide +kernel
theorem dX6_digest_36 : decode cX6_digest 36 = .ok (.lmul, 1) := by decide +kernel
theorem dX6_digest_37 : decode cX6_digest 37 = .ok (.aload_n 0, 1) := by decide +kernel
theorem dX6_digest_38 : decode cX6_digest 38 = .ok (.getfield 8, 3) := by decide +kernel
theorem dX6_digest_41 : decode cX6_digest 41 = .ok (.iconst 2, 1) := by decide +kernel
theorem dX6_digest_42 : decode cX6_digest 42 = .ok (.iaload, 1) := by decide +kernel
theorem dX6_digest_43 : decode cX6_digest 43 = .ok (.i2l, 1) := by decide +kernel
theorem dX6_digest_44 : decode cX6_digest 44 = .ok (.ladd, 1) := by decide +kernel
theorem dX6_digest_45 : decode cX6_digest 45 = .ok (.lstore_n 1, 1) := by decide +kernel
theorem dX6_digest_46 : decode cX6_digest 46 = .ok (.iconst 0, 1) := by decide +kernel
theorem dX6_digest_47 : decode cX6_digest 47 = .ok (.istore_n 3, 1) := by decide +kernel
theorem dX6_digest_48 : decode cX6_digest 48 = .ok (.iload_n 3, 1) := by decide +kernel
theorem dX6_digest_49 : decode cX6_digest 49 = .ok (.aload_n 0, 1) := by decide +kernel
theorem dX6_digest_50 : decode cX6_digest 50 = .ok (.getfield 8, 3) := by decide +kernel
theorem dX6_digest_53 : decode cX6_digest 53 = .ok (.iconst 1, 1) := by decide +kernel
theorem dX6_digest_54 : decode cX6_digest 54 = .ok (.iaload, 1) := by decide +kernel
theorem dX6_digest_55 : decode cX6_digest 55 = .ok (.if_icmp .ge 99, 3) := by decide +kernel
theorem dX6_digest_58 : decode cX6_digest 58 = .ok (.iconst 0, 1) := by decide +kernel
theorem dX6_digest_59 : decode cX6_digest 59 = .ok (.istore 4, 2) := by decide +kernel
theorem dX6_digest_61 : decode cX6_digest 61 = .ok (.iload 4, 2) := by decide +kernel
theorem dX6_digest_63 : decode cX6_digest 63 = .ok (.bipush 15, 2) := by decide +kernel
theorem dX6_digest_65 : decode cX6_digest 65 = .ok (.if_icmp .ge 24, 3) := by decide +kernel
theorem dX6_digest_68 : decode cX6_digest 68 = .ok (.lload_n 1, 1) := by decide +kernel
theorem dX6_digest_69 : decode cX6_digest 69 = .ok (.ldc2_w 125, 3) := by decide +kernel
theorem dX6_digest_72 : decode cX6_digest 72 = .ok (.lmul, 1) := by decide +kernel
theorem dX6_digest_73 : decode cX6_digest 73 = .ok (.aload_n 0, 1) := by decide +kernel
theorem dX6_digest_74 : decode cX6_digest 74 = .ok (.iload_n 3, 1) := by decide +kernel
theorem dX6_digest_75 : decode cX6_digest 75 = .ok (.iload 4, 2) := by decide +kernel
theorem dX6_digest_77 : decode cX6_digest 77 = .ok (.invokevirtual 204, 3) := by decide +kernel
theorem dX6_digest_80 : decode cX6_digest 80 = .ok (.i2l, 1) := by decide +kernel
theorem dX6_digest_81 : decode cX6_digest 81 = .ok (.ladd, 1) := by decide +kernel
theorem dX6_digest_82 : decode cX6_digest 82 = .ok (.lstore_n 1, 1) := by decide +kernel
theorem dX6_digest_83 : decode cX6_digest 83 = .ok (.iinc 4 1, 3) := by decide +kernel
theorem dX6_digest_86 : decode cX6_digest 86 = .ok (.goto (-25), 3) := by decide +kernel
theorem dX6_digest_89 : decode cX6_digest 89 = .ok (.lload_n 1, 1) := by decide +kernel
theorem dX6_digest_90 : decode cX6_digest 90 = .ok (.ldc2_w 125, 3) := by decide +kernel
theorem dX6_digest_93 : decode cX6_digest 93 = .ok (.lmul, 1) := by decide +kernel
theorem dX6_digest_94 : decode cX6_digest 94 = .ok (.aload_n 0, 1) := by decide +kernel
theorem dX6_digest_95 : decode cX6_digest 95 = .ok (.getfield 14, 3) := by decide +kernel
theorem dX6_digest_98 : decode cX6_digest 98 = .ok (.iload_n 3, 1) := by decide +kernel
theorem dX6_digest_99 : decode cX6_digest 99 = .ok (.laload, 1) := by decide +kernel
theorem dX6_digest_100 : decode cX6_digest 100 = .ok (.ladd, 1) := by decide +kernel
theorem dX6_digest_101 : decode cX6_digest 101 = .ok (.lstore_n 1, 1) := by decide +kernel
theorem dX6_digest_102 : decode cX6_digest 102 = .ok (.iconst 0, 1) := by decide +kernel
theorem dX6_digest_103 : decode cX6_digest 103 = .ok (.istore 4, 2) := by decide +kernel
theorem dX6_digest_105 : decode cX6_digest 105 = .ok (.iload 4, 2) := by decide +kernel
theorem dX6_digest_107 : decode cX6_digest 107 = .ok (.aload_n 0, 1) := by decide +kernel
theorem dX6_digest_108 : decode cX6_digest 108 = .ok (.iload_n 3, 1) := by decide +kernel
theorem dX6_digest_109 : decode cX6_digest 109 = .ok (.bipush 14, 2) := by decide +kernel
theorem dX6_digest_111 : decode cX6_digest 111 = .ok (.invokevirtual 36, 3) := by decide +kernel
theorem dX6_digest_114 : decode cX6_digest 114 = .ok (.if_icmp .ge 34, 3) := by decide +kernel
theorem dX6_digest_117 : decode cX6_digest 117 = .ok (.lload_n 1, 1) := by decide +kernel
theorem dX6_digest_118 : decode cX6_digest 118 = .ok (.ldc2_w 125, 3) := by decide +kernel
theorem dX6_digest_121 : decode cX6_digest 121 = .ok (.lmul, 1) := by decide +kernel
theorem dX6_digest_122 : decode cX6_digest 122 = .ok (.aload_n 0, 1) := by decide +kernel
theorem dX6_digest_123 : decode cX6_digest 123 = .ok (.getfield 8, 3) := by decide +kernel
theorem dX6_digest_126 : decode cX6_digest 126 = .ok (.sipush 4400, 3) := by decide +kernel
theorem dX6_digest_129 : decode cX6_digest 129 = .ok (.sipush 128, 3) := by decide +kernel
theorem dX6_digest_132 : decode cX6_digest 132 = .ok (.iload_n 3, 1) := by decide +kernel
theorem dX6_digest_133 : decode cX6_digest 133 = .ok (.imul, 1) := by decide +kernel
theorem dX6_digest_134 : decode cX6_digest 134 = .ok (.iadd, 1) := by decide +kernel
theorem dX6_digest_135 : decode cX6_digest 135 = .ok (.iload 4, 2) := by decide +kernel
theorem dX6_digest_137 : decode cX6_digest 137 = .ok (.iadd, 1) := by decide +kernel
theorem dX6_digest_138 : decode cX6_digest 138 = .ok (.iaload, 1) := by decide +kernel
theorem dX6_digest_139 : decode cX6_digest 139 = .ok (.i2l, 1) := by decide +kernel
theorem dX6_digest_140 : decode cX6_digest 140 = .ok (.ladd, 1) := by decide +kernel
theorem dX6_digest_141 : decode cX6_digest 141 = .ok (.lstore_n 1, 1) := by decide +kernel
theorem dX6_digest_142 : decode cX6_digest 142 = .ok (.iinc 4 1, 3) := by decide +kernel
theorem dX6_digest_145 : decode cX6_digest 145 = .ok (.goto (-40), 3) := by decide +kernel
theorem dX6_digest_148 : decode cX6_digest 148 = .ok (.iinc 3 1, 3) := by decide +kernel
theorem dX6_digest_151 : decode cX6_digest 151 = .ok (.goto (-103), 3) := by decide +kernel
theorem dX6_digest_154 : decode cX6_digest 154 = .ok (.iconst 0, 1) := by decide +kernel
theorem dX6_digest_155 : decode cX6_digest 155 = .ok (.istore_n 3, 1) := by decide +kernel
theorem dX6_digest_156 : decode cX6_digest 156 = .ok (.iload_n 3, 1) := by decide +kernel
theorem dX6_digest_157 : decode cX6_digest 157 = .ok (.bipush 100, 2) := by decide +kernel
theorem dX6_digest_159 : decode cX6_digest 159 = .ok (.if_icmp .ge 27, 3) := by decide +kernel
theorem dX6_digest_162 : decode cX6_digest 162 = .ok (.lload_n 1, 1) := by decide +kernel
theorem dX6_digest_163 : decode cX6_digest 163 = .ok (.ldc2_w 125, 3) := by decide +kernel
theorem dX6_digest_166 : decode cX6_digest 166 = .ok (.lmul, 1) := by decide +kernel
theorem dX6_digest_167 : decode cX6_digest 167 = .ok (.aload_n 0, 1) := by decide +kernel
theorem dX6_digest_168 : decode cX6_digest 168 = .ok (.getfield 8, 3) := by decide +kernel
theorem dX6_digest_171 : decode cX6_digest 171 = .ok (.sipush 240, 3) := by decide +kernel
theorem dX6_digest_174 : decode cX6_digest 174 = .ok (.iload_n 3, 1) := by decide +kernel
theorem dX6_digest_175 : decode cX6_digest 175 = .ok (.iadd, 1) := by decide +kernel
theorem dX6_digest_176 : decode cX6_digest 176 = .ok (.iaload, 1) := by decide +kernel
theorem dX6_digest_177 : decode cX6_digest 177 = .ok (.i2l, 1) := by decide +kernel
theorem dX6_digest_178 : decode cX6_digest 178 = .ok (.ladd, 1) := by decide +kernel
theorem dX6_digest_179 : decode cX6_digest 179 = .ok (.lstore_n 1, 1) := by decide +kernel
theorem dX6_digest_180 : decode cX6_digest 180 = .ok (.iinc 3 1, 3) := by decide +kernel
theorem dX6_digest_183 : decode cX6_digest 183 = .ok (.goto (-27), 3) := by decide +kernel
theorem dX6_digest_186 : decode cX6_digest 186 = .ok (.iconst 0, 1) := by decide +kernel
theorem dX6_digest_187 : decode cX6_digest 187 = .ok (.istore_n 3, 1) := by decide +kernel
theorem dX6_digest_188 : decode cX6_digest 188 = .ok (.iload_n 3, 1) := by decide +kernel
theorem dX6_digest_189 : decode cX6_digest 189 = .ok (.iconst 5, 1) := by decide +kernel
theorem dX6_digest_190 : decode cX6_digest 190 = .ok (.aload_n 0, 1) := by decide +kernel
theorem dX6_digest_191 : decode cX6_digest 191 = .ok (.getfield 8, 3) := by decide +kernel
theorem dX6_digest_194 : decode cX6_digest 194 = .ok (.iconst 3, 1) := by decide +kernel
theorem dX6_digest_195 : decode cX6_digest 195 = .ok (.iaload, 1) := by decide +kernel
theorem dX6_digest_196 : decode cX6_digest 196 = .ok (.imul, 1) := by decide +kernel
theorem dX6_digest_197 : decode cX6_digest 197 = .ok (.if_icmp .ge 26, 3) := by decide +kernel
theorem dX6_digest_200 : decode cX6_digest 200 = .ok (.lload_n 1, 1) := by decide +kernel
theorem dX6_digest_201 : decode cX6_digest 201 = .ok (.ldc2_w 125, 3) := by decide +kernel
theorem dX6_digest_204 : decode cX6_digest 204 = .ok (.lmul, 1) := by decide +kernel
theorem dX6_digest_205 : decode cX6_digest 205 = .ok (.aload_n 0, 1) := by decide +kernel
theorem dX6_digest_206 : decode cX6_digest 206 = .ok (.getfield 8, 3) := by decide +kernel
theorem dX6_digest_209 : decode cX6_digest 209 = .ok (.ldc 140, 2) := by decide +kernel
theorem dX6_digest_211 : decode cX6_digest 211 = .ok (.iload_n 3, 1) := by decide +kernel
theorem dX6_digest_212 : decode cX6_digest 212 = .ok (.iadd, 1) := by decide +kernel
theorem dX6_digest_213 : decode cX6_digest 213 = .ok (.iaload, 1) := by decide +kernel
theorem dX6_digest_214 : decode cX6_digest 214 = .ok (.i2l, 1) := by decide +kernel
theorem dX6_digest_215 : decode cX6_digest 215 = .ok (.ladd, 1) := by decide +kernel
theorem dX6_digest_216 : decode cX6_digest 216 = .ok (.lstore_n 1, 1) := by decide +kernel
theorem dX6_digest_217 : decode cX6_digest 217 = .ok (.iinc 3 1, 3) := by decide +kernel
theorem dX6_digest_220 : decode cX6_digest 220 = .ok (.goto (-32), 3) := by decide +kernel
theorem dX6_digest_223 : decode cX6_digest 223 = .ok (.iconst 0, 1) := by decide +kernel
theorem dX6_digest_224 : decode cX6_digest 224 = .ok (.istore_n 3, 1) := by decide +kernel
theorem dX6_digest_225 : decode cX6_digest 225 = .ok (.iload_n 3, 1) := by decide +kernel
theorem dX6_digest_226 : decode cX6_digest 226 = .ok (.bipush 12, 2) := by decide +kernel
theorem dX6_digest_228 : decode cX6_digest 228 = .ok (.if_icmp .ge 27, 3) := by decide +kernel
theorem dX6_digest_231 : decode cX6_digest 231 = .ok (.lload_n 1, 1) := by decide +kernel
theorem dX6_digest_232 : decode cX6_digest 232 = .ok (.ldc2_w 125, 3) := by decide +kernel
theorem dX6_digest_235 : decode cX6_digest 235 = .ok (.lmul, 1) := by decide +kernel
theorem dX6_digest_236 : decode cX6_digest 236 = .ok (.aload_n 0, 1) := by decide +kernel
theorem dX6_digest_237 : decode cX6_digest 237 = .ok (.getfield 8, 3) := by decide +kernel
theorem dX6_digest_240 : decode cX6_digest 240 = .ok (.sipush 220, 3) := by decide +kernel
theorem dX6_digest_243 : decode cX6_digest 243 = .ok (.iload_n 3, 1) := by decide +kernel
theorem dX6_digest_244 : decode cX6_digest 244 = .ok (.iadd, 1) := by decide +kernel
theorem dX6_digest_245 : decode cX6_digest 245 = .ok (.iaload, 1) := by decide +kernel
theorem dX6_digest_246 : decode cX6_digest 246 = .ok (.i2l, 1) := by decide +kernel
theorem dX6_digest_247 : decode cX6_digest 247 = .ok (.ladd, 1) := by decide +kernel
theorem dX6_digest_248 : decode cX6_digest 248 = .ok (.lstore_n 1, 1) := by decide +kernel
theorem dX6_digest_249 : decode cX6_digest 249 = .ok (.iinc 3 1, 3) := by decide +kernel
theorem dX6_digest_252 : decode cX6_digest 252 = .ok (.goto (-27), 3) := by decide +kernel
theorem dX6_digest_255 : decode cX6_digest 255 = .ok (.lload_n 1, 1) := by decide +kernel
theorem dX6_digest_256 : decode cX6_digest 256 = .ok (.lreturn, 1) := by decide +kernel
theorem dX6_status_0 : decode cX6_status 0 = .ok (.aload_n 0, 1) := by decide +kernel
theorem dX6_status_1 : decode cX6_status 1 = .ok (.getfield 40, 3) := by decide +kernel
theorem dX6_status_4 : decode cX6_status 4 = .ok (.ireturn, 1) := by decide +kernel
end
section
theorem dX1_init_0 : decode cX1_init 0 = .ok (.aload_n 0, 1) := by decide +kernel
theorem dX1_init_1 : decode cX1_init 1 = .ok (.invokespecial 3, 3) := by decide +kernel
theorem dX1_init_4 : decode cX1_init 4 = .ok (.aload_n 0, 1) := by decide +kernel
theorem dX1_init_5 : decode cX1_init 5 = .ok (.iconst 0, 1) := by decide +kernel
theorem dX1_init_6 : decode cX1_init 6 = .ok (.putfield 9, 3) := by decide +kernel
theorem dX1_init_9 : decode cX1_init 9 = .ok (.aload_n 0, 1) := by decide +kernel
theorem dX1_init_10 : decode cX1_init 10 = .ok (.sipush 256, 3) := by decide +kernel
theorem dX1_init_13 : decode cX1_init 13 = .ok (.newarray .long, 2) := by decide +kernel
theorem dX1_init_15 : decode cX1_init 15 = .ok (.putfield 15, 3) := by decide +kernel
theorem dX1_init_18 : decode cX1_init 18 = .ok (.return_, 1) := by decide +kernel
theorem dX1_become_0 : decode cX1_become 0 = .ok (.aload_n 0, 1) := by decide +kernel
theorem dX1_become_1 : decode cX1_become 1 = .ok (.getfield 15, 3) := by decide +kernel
theorem dX1_become_4 : decode cX1_become 4 = .ok (.arraylength, 1) := by decide +kernel
theorem dX1_become_5 : decode cX1_become 5 = .ok (.aload_n 1, 1) := by decide +kernel
theorem dX1_become_6 : decode cX1_become 6 = .ok (.getfield 15, 3) := by decide +kernel
theorem dX1_become_9 : decode cX1_become 9 = .ok (.arraylength, 1) := by decide +kernel
theorem dX1_become_10 : decode cX1_become 10 = .ok (.if_icmp .ge 14, 3) := by decide +kernel
theorem dX1_become_13 : decode cX1_become 13 = .ok (.aload_n 0, 1) := by decide +kernel
theorem dX1_become_14 : decode cX1_become 14 = .ok (.aload_n 1, 1) := by decide +kernel
theorem dX1_become_15 : decode cX1_become 15 = .ok (.getfield 15, 3) := by decide +kernel
theorem dX1_become_18 : decode cX1_become 18 = .ok (.arraylength, 1) := by decide +kernel
theorem dX1_become_19 : decode cX1_become 19 = .ok (.newarray .long, 2) := by decide +kernel
theorem dX1_become_21 : decode cX1_become 21 = .ok (.putfield 15, 3) := by decide +kernel
theorem dX1_become_24 : decode cX1_become 24 = .ok (.aload_n 1, 1) := by decide +kernel
theorem dX1_become_25 : decode cX1_become 25 = .ok (.getfield 15, 3) := by decide +kernel
theorem dX1_become_28 : decode cX1_become 28 = .ok (.iconst 0, 1) := by decide +kernel
theorem dX1_become_29 : decode cX1_become 29 = .ok (.aload_n 0, 1) := by decide +kernel
theorem dX1_become_30 : decode cX1_become 30 = .ok (.getfield 15, 3) := by decide +kernel
theorem dX1_become_33 : decode cX1_become 33 = .ok (.iconst 0, 1) := by decide +kernel
theorem dX1_become_34 : decode cX1_become 34 = .ok (.aload_n 1, 1) := by decide +kernel
theorem dX1_become_35 : decode cX1_become 35 = .ok (.getfield 9, 3) := by decide +kernel
theorem dX1_become_38 : decode cX1_become 38 = .ok (.iconst 4, 1) := by decide +kernel
theorem dX1_become_39 : decode cX1_become 39 = .ok (.imul, 1) := by decide +kernel
theorem dX1_become_40 : decode cX1_become 40 = .ok (.invokestatic 19, 3) := by decide +kernel
theorem dX1_become_43 : decode cX1_become 43 = .ok (.aload_n 0, 1) := by decide +kernel
theorem dX1_become_44 : decode cX1_become 44 = .ok (.aload_n 1, 1) := by decide +kernel
theorem dX1_become_45 : decode cX1_become 45 = .ok (.getfield 9, 3) := by decide +kernel
theorem dX1_become_48 : decode cX1_become 48 = .ok (.putfield 9, 3) := by decide +kernel
theorem dX1_become_51 : decode cX1_become 51 = .ok (.return_, 1) := by decide +kernel
theorem dX1_add_0 : decode cX1_add 0 = .ok (.aload_n 0, 1) := by decide +kernel
theorem dX1_add_1 : decode cX1_add 1 = .ok (.getfield 9, 3) := by decide +kernel
theorem dX1_add_4 : decode cX1_add 4 = .ok (.sipush 1000, 3) := by decide +kernel
theorem dX1_add_7 : decode cX1_add 7 = .ok (.if_icmp .lt 5, 3) := by decide +kernel
theorem dX1_add_10 : decode cX1_add 10 = .ok (.iconst 0, 1) := by decide +kernel
theorem dX1_add_11 : decode cX1_add 11 = .ok (.ireturn, 1) := by decide +kernel
theorem dX1_add_12 : decode cX1_add 12 = .ok (.aload_n 0, 1) := by decide +kernel
theorem dX1_add_13 : decode cX1_add 13 = .ok (.getfield 9, 3) := by decide +kernel
theorem dX1_add_16 : decode cX1_add 16 = .ok (.iconst 4, 1) := by decide +kernel
theorem dX1_add_17 : decode cX1_add 17 = .ok (.imul, 1) := by decide +kernel
theorem dX1_add_18 : decode cX1_add 18 = .ok (.istore 8, 2) := by decide +kernel
theorem dX1_add_20 : decode cX1_add 20 = .ok (.iload 8, 2) := by decide +kernel
theorem dX1_add_22 : decode cX1_add 22 = .ok (.iconst 4, 1) := by decide +kernel
theorem dX1_add_23 : decode cX1_add 23 = .ok (.iadd, 1) := by decide +kernel
theorem dX1_add_24 : decode cX1_add 24 = .ok (.aload_n 0, 1) := by decide +kernel
theorem dX1_add_25 : decode cX1_add 25 = .ok (.getfield 15, 3) := by decide +kernel
theorem dX1_add_28 : decode cX1_add 28 = .ok (.arraylength, 1) := by decide +kernel
theorem dX1_add_29 : decode cX1_add 29 = .ok (.if_icmp .le 27, 3) := by decide +kernel
theorem dX1_add_32 : decode cX1_add 32 = .ok (.aload_n 0, 1) := by decide +kernel
theorem dX1_add_33 : decode cX1_add 33 = .ok (.aload_n 0, 1) := by decide +kernel
theorem dX1_add_34 : decode cX1_add 34 = .ok (.getfield 15, 3) := by decide +kernel
theorem dX1_add_37 : decode cX1_add 37 = .ok (.iconst 2, 1) := by decide +kernel
theorem dX1_add_38 : decode cX1_add 38 = .ok (.aload_n 0, 1) := by decide +kernel
theorem dX1_add_39 : decode cX1_add 39 = .ok (.getfield 15, 3) := by decide +kernel
theorem dX1_add_42 : decode cX1_add 42 = .ok (.arraylength, 1) := by decide +kernel
theorem dX1_add_43 : decode cX1_add 43 = .ok (.imul, 1) := by decide +kernel
theorem dX1_add_44 : decode cX1_add 44 = .ok (.sipush 4000, 3) := by decide +kernel
theorem dX1_add_47 : decode cX1_add 47 = .ok (.invokestatic 25, 3) := by decide +kernel
theorem dX1_add_50 : decode cX1_add 50 = .ok (.invokestatic 31, 3) := by decide +kernel
theorem dX1_add_53 : decode cX1_add 53 = .ok (.putfield 15, 3) := by decide +kernel
theorem dX1_add_56 : decode cX1_add 56 = .ok (.aload_n 0, 1) := by decide +kernel
theorem dX1_add_57 : decode cX1_add 57 = .ok (.getfield 15, 3) := by decide +kernel
theorem dX1_add_60 : decode cX1_add 60 = .ok (.iload 8, 2) := by decide +kernel
theorem dX1_add_62 : decode cX1_add 62 = .ok (.iload_n 1, 1) := by decide +kernel
theorem dX1_add_63 : decode cX1_add 63 = .ok (.i2l, 1) := by decide +kernel
theorem dX1_add_64 : decode cX1_add 64 = .ok (.lastore, 1) := by decide +kernel
theorem dX1_add_65 : decode cX1_add 65 = .ok (.aload_n 0, 1) := by decide +kernel
theorem dX1_add_66 : decode cX1_add 66 = .ok (.getfield 15, 3) := by decide +kernel
theorem dX1_add_69 : decode cX1_add 69 = .ok (.iload 8, 2) := by decide +kernel
theorem dX1_add_71 : decode cX1_add 71 = .ok (.iconst 1, 1) := by decide +kernel
theorem dX1_add_72 : decode cX1_add 72 = .ok (.iadd, 1) := by decide +kernel
theorem dX1_add_73 : decode cX1_add 73 = .ok (.lload_n 2, 1) := by decide +kernel
theorem dX1_add_74 : decode cX1_add 74 = .ok (.lastore, 1) := by decide +kernel
theorem dX1_add_75 : decode cX1_add 75 = .ok (.aload_n 0, 1) := by decide +kernel
theorem dX1_add_76 : decode cX1_add 76 = .ok (.getfield 15, 3) := by decide +kernel
theorem dX1_add_79 : decode cX1_add 79 = .ok (.iload 8, 2) := by decide +kernel
theorem dX1_add_81 : decode cX1_add 81 = .ok (.iconst 2, 1) := by decide +kernel
theorem dX1_add_82 : decode cX1_add 82 = .ok (.iadd, 1) := by decide +kernel
theorem dX1_add_83 : decode cX1_add 83 = .ok (.lload 4, 2) := by decide +kernel
theorem dX1_add_85 : decode cX1_add 85 = .ok (.lastore, 1) := by decide +kernel
theorem dX1_add_86 : decode cX1_add 86 = .ok (.aload_n 0, 1) := by decide +kernel
theorem dX1_add_87 : decode cX1_add 87 = .ok (.getfield 15, 3) := by decide +kernel
theorem dX1_add_90 : decode cX1_add 90 = .ok (.iload 8, 2) := by decide +kernel
theorem dX1_add_92 : decode cX1_add 92 = .ok (.iconst 3, 1) := by decide +kernel
theorem dX1_add_93 : decode cX1_add 93 = .ok (.iadd, 1) := by decide +kernel
theorem dX1_add_94 : decode cX1_add 94 = .ok (.lload 6, 2) := by decide +kernel
theorem dX1_add_96 : decode cX1_add 96 = .ok (.lastore, 1) := by decide +kernel
theorem dX1_add_97 : decode cX1_add 97 = .ok (.aload_n 0, 1) := by decide +kernel
theorem dX1_add_98 : decode cX1_add 98 = .ok (.dup, 1) := by decide +kernel
theorem dX1_add_99 : decode cX1_add 99 = .ok (.getfield 9, 3) := by decide +kernel
theorem dX1_add_102 : decode cX1_add 102 = .ok (.iconst 1, 1) := by decide +kernel
theorem dX1_add_103 : decode cX1_add 103 = .ok (.iadd, 1) := by decide +kernel
theorem dX1_add_104 : decode cX1_add 104 = .ok (.putfield 9, 3) := by decide +kernel
theorem dX1_add_107 : decode cX1_add 107 = .ok (.iconst 1, 1) := by decide +kernel
theorem dX1_add_108 : decode cX1_add 108 = .ok (.ireturn, 1) := by decide +kernel
theorem dX1_get_0 : decode cX1_get 0 = .ok (.iload_n 1, 1) := by decide +kernel
theorem dX1_get_1 : decode cX1_get 1 = .ok (.ifCond .lt 33, 3) := by decide +kernel
theorem dX1_get_4 : decode cX1_get 4 = .ok (.iload_n 1, 1) := by decide +kernel
theorem dX1_get_5 : decode cX1_get 5 = .ok (.aload_n 0, 1) := by decide +kernel
theorem dX1_get_6 : decode cX1_get 6 = .ok (.getfield 9, 3) := by decide +kernel
theorem dX1_get_9 : decode cX1_get 9 = .ok (.if_icmp .ge 25, 3) := by decide +kernel
theorem dX1_get_12 : decode cX1_get 12 = .ok (.iload_n 2, 1) := by decide +kernel
theorem dX1_get_13 : decode cX1_get 13 = .ok (.ifCond .lt 21, 3) := by decide +kernel
theorem dX1_get_16 : decode cX1_get 16 = .ok (.iload_n 2, 1) := by decide +kernel
theorem dX1_get_17 : decode cX1_get 17 = .ok (.iconst 4, 1) := by decide +kernel
theorem dX1_get_18 : decode cX1_get 18 = .ok (.if_icmp .ge 16, 3) := by decide +kernel
theorem dX1_get_21 : decode cX1_get 21 = .ok (.aload_n 0, 1) := by decide +kernel
theorem dX1_get_22 : decode cX1_get 22 = .ok (.getfield 15, 3) := by decide +kernel
theorem dX1_get_25 : decode cX1_get 25 = .ok (.iload_n 1, 1) := by decide +kernel
theorem dX1_get_26 : decode cX1_get 26 = .ok (.iconst 4, 1) := by decide +kernel
theorem dX1_get_27 : decode cX1_get 27 = .ok (.imul, 1) := by decide +kernel
theorem dX1_get_28 : decode cX1_get 28 = .ok (.iload_n 2, 1) := by decide +kernel
theorem dX1_get_29 : decode cX1_get 29 = .ok (.iadd, 1) := by decide +kernel
theorem dX1_get_30 : decode cX1_get 30 = .ok (.laload, 1) := by decide +kernel
theorem dX1_get_31 : decode cX1_get 31 = .ok (.goto 4, 3) := by decide +kernel
theorem dX1_get_34 : decode cX1_get 34 = .ok (.lconst 0, 1) := by decide +kernel
theorem dX1_get_35 : decode cX1_get 35 = .ok (.lreturn, 1) := by decide +kernel
theorem dX2_init_0 : decode cX2_init 0 = .ok (.aload_n 0, 1) := by decide +kernel
theorem dX2_init_1 : decode cX2_init 1 = .ok (.invokespecial 3, 3) := by decide +kernel
theorem dX2_init_4 : decode cX2_init 4 = .ok (.aload_n 0, 1) := by decide +kernel
theorem dX2_init_5 : decode cX2_init 5 = .ok (.iconst (-1), 1) := by decide +kernel
theorem dX2_init_6 : decode cX2_init 6 = .ok (.putfield 9, 3) := by decide +kernel
theorem dX2_init_9 : decode cX2_init 9 = .ok (.aload_n 0, 1) := by decide +kernel
theorem dX2_init_10 : decode cX2_init 10 = .ok (.bipush 32, 2) := by decide +kernel
theorem dX2_init_12 : decode cX2_init 12 = .ok (.newarray .byte, 2) := by decide +kernel
theorem dX2_init_14 : decode cX2_init 14 = .ok (.putfield 15, 3) := by decide +kernel
theorem dX2_init_17 : decode cX2_init 17 = .ok (.return_, 1) := by decide +kernel
theorem dX2_become_0 : decode cX2_become 0 = .ok (.aload_n 0, 1) := by decide +kernel
theorem dX2_become_1 : decode cX2_become 1 = .ok (.getfield 15, 3) := by decide +kernel
theorem dX2_become_4 : decode cX2_become 4 = .ok (.arraylength, 1) := by decide +kernel
theorem dX2_become_5 : decode cX2_become 5 = .ok (.aload_n 1, 1) := by decide +kernel
theorem dX2_become_6 : decode cX2_become 6 = .ok (.getfield 15, 3) := by decide +kernel
theorem dX2_become_9 : decode cX2_become 9 = .ok (.arraylength, 1) := by decide +kernel
theorem dX2_become_10 : decode cX2_become 10 = .ok (.if_icmp .ge 14, 3) := by decide +kernel
theorem dX2_become_13 : decode cX2_become 13 = .ok (.aload_n 0, 1) := by decide +kernel
theorem dX2_become_14 : decode cX2_become 14 = .ok (.aload_n 1, 1) := by decide +kernel
theorem dX2_become_15 : decode cX2_become 15 = .ok (.getfield 15, 3) := by decide +kernel
theorem dX2_become_18 : decode cX2_become 18 = .ok (.arraylength, 1) := by decide +kernel
theorem dX2_become_19 : decode cX2_become 19 = .ok (.newarray .byte, 2) := by decide +kernel
theorem dX2_become_21 : decode cX2_become 21 = .ok (.putfield 15, 3) := by decide +kernel
theorem dX2_become_24 : decode cX2_become 24 = .ok (.aload_n 0, 1) := by decide +kernel
theorem dX2_become_25 : decode cX2_become 25 = .ok (.aload_n 1, 1) := by decide +kernel
theorem dX2_become_26 : decode cX2_become 26 = .ok (.getfield 9, 3) := by decide +kernel
theorem dX2_become_29 : decode cX2_become 29 = .ok (.putfield 9, 3) := by decide +kernel
theorem dX2_become_32 : decode cX2_become 32 = .ok (.aload_n 1, 1) := by decide +kernel
theorem dX2_become_33 : decode cX2_become 33 = .ok (.getfield 15, 3) := by decide +kernel
theorem dX2_become_36 : decode cX2_become 36 = .ok (.iconst 0, 1) := by decide +kernel
theorem dX2_become_37 : decode cX2_become 37 = .ok (.aload_n 0, 1) := by decide +kernel
theorem dX2_become_38 : decode cX2_become 38 = .ok (.getfield 15, 3) := by decide +kernel
theorem dX2_become_41 : decode cX2_become 41 = .ok (.iconst 0, 1) := by decide +kernel
theorem dX2_become_42 : decode cX2_become 42 = .ok (.iconst 0, 1) := by decide +kernel
theorem dX2_become_43 : decode cX2_become 43 = .ok (.aload_n 0, 1) := by decide +kernel
theorem dX2_become_44 : decode cX2_become 44 = .ok (.getfield 9, 3) := by decide +kernel
theorem dX2_become_47 : decode cX2_become 47 = .ok (.invokestatic 19, 3) := by decide +kernel
theorem dX2_become_50 : decode cX2_become 50 = .ok (.invokestatic 25, 3) := by decide +kernel
theorem dX2_become_53 : decode cX2_become 53 = .ok (.return_, 1) := by decide +kernel
theorem dX2_length_0 : decode cX2_length 0 = .ok (.iconst 0, 1) := by decide +kernel
theorem dX2_length_1 : decode cX2_length 1 = .ok (.aload_n 0, 1) := by decide +kernel
theorem dX2_length_2 : decode cX2_length 2 = .ok (.getfield 9, 3) := by decide +kernel
theorem dX2_length_5 : decode cX2_length 5 = .ok (.invokestatic 19, 3) := by decide +kernel
theorem dX2_length_8 : decode cX2_length 8 = .ok (.ireturn, 1) := by decide +kernel
theorem dX2_byteAt_0 : decode cX2_byteAt 0 = .ok (.iload_n 1, 1) := by decide +kernel
theorem dX2_byteAt_1 : decode cX2_byteAt 1 = .ok (.ifCond .lt 20, 3) := by decide +kernel
theorem dX2_byteAt_4 : decode cX2_byteAt 4 = .ok (.iload_n 1, 1) := by decide +kernel
theorem dX2_byteAt_5 : decode cX2_byteAt 5 = .ok (.aload_n 0, 1) := by decide +kernel
theorem dX2_byteAt_6 : decode cX2_byteAt 6 = .ok (.getfield 9, 3) := by decide +kernel
theorem dX2_byteAt_9 : decode cX2_byteAt 9 = .ok (.if_icmp .ge 12, 3) := by decide +kernel
theorem dX2_byteAt_12 : decode cX2_byteAt 12 = .ok (.aload_n 0, 1) := by decide +kernel
theorem dX2_byteAt_13 : decode cX2_byteAt 13 = .ok (.getfield 15, 3) := by decide +kernel
theorem dX2_byteAt_16 : decode cX2_byteAt 16 = .ok (.iload_n 1, 1) := by decide +kernel
theorem dX2_byteAt_17 : decode cX2_byteAt 17 = .ok (.baload, 1) := by decide +kernel
theorem dX2_byteAt_18 : decode cX2_byteAt 18 = .ok (.goto 4, 3) := by decide +kernel
theorem dX2_byteAt_21 : decode cX2_byteAt 21 = .ok (.iconst 0, 1) := by decide +kernel
theorem dX2_byteAt_22 : decode cX2_byteAt 22 = .ok (.ireturn, 1) := by decide +kernel
theorem dX2_extend_0 : decode cX2_extend 0 = .ok (.aload_n 0, 1) := by decide +kernel
theorem dX2_extend_1 : decode cX2_extend 1 = .ok (.invokevirtual 31, 3) := by decide +kernel
theorem dX2_extend_4 : decode cX2_extend 4 = .ok (.istore 4, 2) := by decide +kernel
theorem dX2_extend_6 : decode cX2_extend 6 = .ok (.iload_n 3, 1) := by decide +kernel
theorem dX2_extend_7 : decode cX2_extend 7 = .ok (.ifCond .lt 19, 3) := by decide +kernel
theorem dX2_extend_10 : decode cX2_extend 10 = .ok (.iload_n 3, 1) := by decide +kernel
theorem dX2_extend_11 : decode cX2_extend 11 = .ok (.bipush 8, 2) := by decide +kernel
theorem dX2_extend_13 : decode cX2_extend 13 = .ok (.if_icmp .gt 13, 3) := by decide +kernel
theorem dX2_extend_16 : decode cX2_extend 16 = .ok (.iload 4, 2) := by decide +kernel
theorem dX2_extend_18 : decode cX2_extend 18 = .ok (.iload_n 3, 1) := by decide +kernel
theorem dX2_extend_19 : decode cX2_extend 19 = .ok (.iadd, 1) := by decide +kernel
theorem dX2_extend_20 : decode cX2_extend 20 = .ok (.sipush 1000, 3) := by decide +kernel
theorem dX2_extend_23 : decode cX2_extend 23 = .ok (.if_icmp .le 5, 3) := by decide +kernel
theorem dX2_extend_26 : decode cX2_extend 26 = .ok (.iconst (-1), 1) := by decide +kernel
theorem dX2_extend_27 : decode cX2_extend 27 = .ok (.ireturn, 1) := by decide +kernel
theorem dX2_extend_28 : decode cX2_extend 28 = .ok (.iload 4, 2) := by decide +kernel
theorem dX2_extend_30 : decode cX2_extend 30 = .ok (.iload_n 3, 1) := by decide +kernel
theorem dX2_extend_31 : decode cX2_extend 31 = .ok (.iadd, 1) := by decide +kernel
theorem dX2_extend_32 : decode cX2_extend 32 = .ok (.aload_n 0, 1) := by decide +kernel
theorem dX2_extend_33 : decode cX2_extend 33 = .ok (.getfield 15, 3) := by decide +kernel
theorem dX2_extend_36 : decode cX2_extend 36 = .ok (.arraylength, 1) := by decide +kernel
theorem dX2_extend_37 : decode cX2_extend 37 = .ok (.if_icmp .le 27, 3) := by decide +kernel
theorem dX2_extend_40 : decode cX2_extend 40 = .ok (.aload_n 0, 1) := by decide +kernel
theorem dX2_extend_41 : decode cX2_extend 41 = .ok (.aload_n 0, 1) := by decide +kernel
theorem dX2_extend_42 : decode cX2_extend 42 = .ok (.getfield 15, 3) := by decide +kernel
theorem dX2_extend_45 : decode cX2_extend 45 = .ok (.iconst 2, 1) := by decide +kernel
theorem dX2_extend_46 : decode cX2_extend 46 = .ok (.aload_n 0, 1) := by decide +kernel
theorem dX2_extend_47 : decode cX2_extend 47 = .ok (.getfield 15, 3) := by decide +kernel
theorem dX2_extend_50 : decode cX2_extend 50 = .ok (.arraylength, 1) := by decide +kernel
theorem dX2_extend_51 : decode cX2_extend 51 = .ok (.imul, 1) := by decide +kernel
theorem dX2_extend_52 : decode cX2_extend 52 = .ok (.sipush 1000, 3) := by decide +kernel
theorem dX2_extend_55 : decode cX2_extend 55 = .ok (.invokestatic 35, 3) := by decide +kernel
theorem dX2_extend_58 : decode cX2_extend 58 = .ok (.invokestatic 38, 3) := by decide +kernel
theorem dX2_extend_61 : decode cX2_extend 61 = .ok (.putfield 15, 3) := by decide +kernel
theorem dX2_extend_64 : decode cX2_extend 64 = .ok (.iconst 0, 1) := by decide +kernel
theorem dX2_extend_65 : decode cX2_extend 65 = .ok (.istore 5, 2) := by decide +kernel
theorem dX2_extend_67 : decode cX2_extend 67 = .ok (.iload 5, 2) := by decide +kernel
theorem dX2_extend_69 : decode cX2_extend 69 = .ok (.iload_n 3, 1) := by decide +kernel
theorem dX2_extend_70 : decode cX2_extend 70 = .ok (.if_icmp .ge 31, 3) := by decide +kernel
theorem dX2_extend_73 : decode cX2_extend 73 = .ok (.aload_n 0, 1) := by decide +kernel
theorem dX2_extend_74 : decode cX2_extend 74 = .ok (.getfield 15, 3) := by decide +kernel
theorem dX2_extend_77 : decode cX2_extend 77 = .ok (.iload 4, 2) := by decide +kernel
theorem dX2_extend_79 : decode cX2_extend 79 = .ok (.iload 5, 2) := by decide +kernel
theorem dX2_extend_81 : decode cX2_extend 81 = .ok (.iadd, 1) := by decide +kernel
theorem dX2_extend_82 : decode cX2_extend 82 = .ok (.lload_n 1, 1) := by decide +kernel
theorem dX2_extend_83 : decode cX2_extend 83 = .ok (.bipush 56, 2) := by decide +kernel
theorem dX2_extend_85 : decode cX2_extend 85 = .ok (.bipush 8, 2) := by decide +kernel
theorem dX2_extend_87 : decode cX2_extend 87 = .ok (.iload 5, 2) := by decide +kernel
theorem dX2_extend_89 : decode cX2_extend 89 = .ok (.imul, 1) := by decide +kernel
theorem dX2_extend_90 : decode cX2_extend 90 = .ok (.isub, 1) := by decide +kernel
theorem dX2_extend_91 : decode cX2_extend 91 = .ok (.lushr, 1) := by decide +kernel
theorem dX2_extend_92 : decode cX2_extend 92 = .ok (.l2i, 1) := by decide +kernel
theorem dX2_extend_93 : decode cX2_extend 93 = .ok (.i2b, 1) := by decide +kernel
theorem dX2_extend_94 : decode cX2_extend 94 = .ok (.bastore, 1) := by decide +kernel
theorem dX2_extend_95 : decode cX2_extend 95 = .ok (.iinc 5 1, 3) := by decide +kernel
theorem dX2_extend_98 : decode cX2_extend 98 = .ok (.goto (-31), 3) := by decide +kernel
theorem dX2_extend_101 : decode cX2_extend 101 = .ok (.aload_n 0, 1) := by decide +kernel
theorem dX2_extend_102 : decode cX2_extend 102 = .ok (.iload 4, 2) := by decide +kernel
theorem dX2_extend_104 : decode cX2_extend 104 = .ok (.iload_n 3, 1) := by decide +kernel
theorem dX2_extend_105 : decode cX2_extend 105 = .ok (.iadd, 1) := by decide +kernel
theorem dX2_extend_106 : decode cX2_extend 106 = .ok (.putfield 9, 3) := by decide +kernel
theorem dX2_extend_109 : decode cX2_extend 109 = .ok (.aload_n 0, 1) := by decide +kernel
theorem dX2_extend_110 : decode cX2_extend 110 = .ok (.getfield 9, 3) := by decide +kernel
theorem dX2_extend_113 : decode cX2_extend 113 = .ok (.ireturn, 1) := by decide +kernel
theorem dX3_init_0 : decode cX3_init 0 = .ok (.aload_n 0, 1) := by decide +kernel
theorem dX3_init_1 : decode cX3_init 1 = .ok (.invokespecial 3, 3) := by decide +kernel
theorem dX3_init_4 : decode cX3_init 4 = .ok (.aload_n 0, 1) := by decide +kernel
theorem dX3_init_5 : decode cX3_init 5 = .ok (.iconst 0, 1) := by decide +kernel
theorem dX3_init_6 : decode cX3_init 6 = .ok (.putfield 9, 3) := by decide +kernel
theorem dX3_init_9 : decode cX3_init 9 = .ok (.aload_n 0, 1) := by decide +kernel
theorem dX3_init_10 : decode cX3_init 10 = .ok (.sipush 320, 3) := by decide +kernel
theorem dX3_init_13 : decode cX3_init 13 = .ok (.newarray .int, 2) := by decide +kernel
theorem dX3_init_15 : decode cX3_init 15 = .ok (.putfield 15, 3) := by decide +kernel
theorem dX3_init_18 : decode cX3_init 18 = .ok (.return_, 1) := by decide +kernel
theorem dX3_become_0 : decode cX3_become 0 = .ok (.aload_n 0, 1) := by decide +kernel
theorem dX3_become_1 : decode cX3_become 1 = .ok (.getfield 15, 3) := by decide +kernel
theorem dX3_become_4 : decode cX3_become 4 = .ok (.arraylength, 1) := by decide +kernel
theorem dX3_become_5 : decode cX3_become 5 = .ok (.aload_n 1, 1) := by decide +kernel
theorem dX3_become_6 : decode cX3_become 6 = .ok (.getfield 15, 3) := by decide +kernel
theorem dX3_become_9 : decode cX3_become 9 = .ok (.arraylength, 1) := by decide +kernel
theorem dX3_become_10 : decode cX3_become 10 = .ok (.if_icmp .ge 14, 3) := by decide +kernel
theorem dX3_become_13 : decode cX3_become 13 = .ok (.aload_n 0, 1) := by decide +kernel
theorem dX3_become_14 : decode cX3_become 14 = .ok (.aload_n 1, 1) := by decide +kernel
theorem dX3_become_15 : decode cX3_become 15 = .ok (.getfield 15, 3) := by decide +kernel
theorem dX3_become_18 : decode cX3_become 18 = .ok (.arraylength, 1) := by decide +kernel
theorem dX3_become_19 : decode cX3_become 19 = .ok (.newarray .int, 2) := by decide +kernel
theorem dX3_become_21 : decode cX3_become 21 = .ok (.putfield 15, 3) := by decide +kernel
theorem dX3_become_24 : decode cX3_become 24 = .ok (.aload_n 1, 1) := by decide +kernel
theorem dX3_become_25 : decode cX3_become 25 = .ok (.getfield 15, 3) := by decide +kernel
theorem dX3_become_28 : decode cX3_become 28 = .ok (.iconst 0, 1) := by decide +kernel
theorem dX3_become_29 : decode cX3_become 29 = .ok (.aload_n 0, 1) := by decide +kernel
theorem dX3_become_30 : decode cX3_become 30 = .ok (.getfield 15, 3) := by decide +kernel
theorem dX3_become_33 : decode cX3_become 33 = .ok (.iconst 0, 1) := by decide +kernel
theorem dX3_become_34 : decode cX3_become 34 = .ok (.aload_n 1, 1) := by decide +kernel
theorem dX3_become_35 : decode cX3_become 35 = .ok (.getfield 9, 3) := by decide +kernel
theorem dX3_become_38 : decode cX3_become 38 = .ok (.iconst 5, 1) := by decide +kernel
theorem dX3_become_39 : decode cX3_become 39 = .ok (.imul, 1) := by decide +kernel
theorem dX3_become_40 : decode cX3_become 40 = .ok (.invokestatic 19, 3) := by decide +kernel
theorem dX3_become_43 : decode cX3_become 43 = .ok (.aload_n 0, 1) := by decide +kernel
theorem dX3_become_44 : decode cX3_become 44 = .ok (.aload_n 1, 1) := by decide +kernel
theorem dX3_become_45 : decode cX3_become 45 = .ok (.getfield 9, 3) := by decide +kernel
theorem dX3_become_48 : decode cX3_become 48 = .ok (.putfield 9, 3) := by decide +kernel
theorem dX3_become_51 : decode cX3_become 51 = .ok (.return_, 1) := by decide +kernel
theorem dX3_haveRoom_0 : decode cX3_haveRoom 0 = .ok (.sipush 8000, 3) := by decide +kernel
theorem dX3_haveRoom_3 : decode cX3_haveRoom 3 = .ok (.aload_n 0, 1) := by decide +kernel
theorem dX3_haveRoom_4 : decode cX3_haveRoom 4 = .ok (.getfield 9, 3) := by decide +kernel
theorem dX3_haveRoom_7 : decode cX3_haveRoom 7 = .ok (.isub, 1) := by decide +kernel
theorem dX3_haveRoom_8 : decode cX3_haveRoom 8 = .ok (.iconst 4, 1) := by decide +kernel
theorem dX3_haveRoom_9 : decode cX3_haveRoom 9 = .ok (.if_icmp .lt 7, 3) := by decide +kernel
theorem dX3_haveRoom_12 : decode cX3_haveRoom 12 = .ok (.iconst 1, 1) := by decide +kernel
theorem dX3_haveRoom_13 : decode cX3_haveRoom 13 = .ok (.goto 4, 3) := by decide +kernel
theorem dX3_haveRoom_16 : decode cX3_haveRoom 16 = .ok (.iconst 0, 1) := by decide +kernel
theorem dX3_haveRoom_17 : decode cX3_haveRoom 17 = .ok (.ireturn, 1) := by decide +kernel
theorem dX3_has_0 : decode cX3_has 0 = .ok (.iload_n 1, 1) := by decide +kernel
theorem dX3_has_1 : decode cX3_has 1 = .ok (.ifCond .lt 24, 3) := by decide +kernel
theorem dX3_has_4 : decode cX3_has 4 = .ok (.iload_n 1, 1) := by decide +kernel
theorem dX3_has_5 : decode cX3_has 5 = .ok (.aload_n 0, 1) := by decide +kernel
theorem dX3_has_6 : decode cX3_has 6 = .ok (.getfield 9, 3) := by decide +kernel
theorem dX3_has_9 : decode cX3_has 9 = .ok (.if_icmp .ge 16, 3) := by decide +kernel
theorem dX3_has_12 : decode cX3_has 12 = .ok (.iload_n 2, 1) := by decide +kernel
theorem dX3_has_13 : decode cX3_has 13 = .ok (.ifCond .lt 12, 3) := by decide +kernel
theorem dX3_has_16 : decode cX3_has 16 = .ok (.iload_n 2, 1) := by decide +kernel
theorem dX3_has_17 : decode cX3_has 17 = .ok (.iconst 5, 1) := by decide +kernel
theorem dX3_has_18 : decode cX3_has 18 = .ok (.if_icmp .ge 7, 3) := by decide +kernel
theorem dX3_has_21 : decode cX3_has 21 = .ok (.iconst 1, 1) := by decide +kernel
theorem dX3_has_22 : decode cX3_has 22 = .ok (.goto 4, 3) := by decide +kernel
theorem dX3_has_25 : decode cX3_has 25 = .ok (.iconst 0, 1) := by decide +kernel
theorem dX3_has_26 : decode cX3_has 26 = .ok (.ireturn, 1) := by decide +kernel
theorem dX3_get_0 : decode cX3_get 0 = .ok (.aload_n 0, 1) := by decide +kernel
theorem dX3_get_1 : decode cX3_get 1 = .ok (.iload_n 1, 1) := by decide +kernel
theorem dX3_get_2 : decode cX3_get 2 = .ok (.iload_n 2, 1) := by decide +kernel
theorem dX3_get_3 : decode cX3_get 3 = .ok (.invokevirtual 25, 3) := by decide +kernel
theorem dX3_get_6 : decode cX3_get 6 = .ok (.ifCond .eq 16, 3) := by decide +kernel
theorem dX3_get_9 : decode cX3_get 9 = .ok (.aload_n 0, 1) := by decide +kernel
theorem dX3_get_10 : decode cX3_get 10 = .ok (.getfield 15, 3) := by decide +kernel
theorem dX3_get_13 : decode cX3_get 13 = .ok (.iload_n 1, 1) := by decide +kernel
theorem dX3_get_14 : decode cX3_get 14 = .ok (.iconst 5, 1) := by decide +kernel
theorem dX3_get_15 : decode cX3_get 15 = .ok (.imul, 1) := by decide +kernel
theorem dX3_get_16 : decode cX3_get 16 = .ok (.iload_n 2, 1) := by decide +kernel
theorem dX3_get_17 : decode cX3_get 17 = .ok (.iadd, 1) := by decide +kernel
theorem dX3_get_18 : decode cX3_get 18 = .ok (.iaload, 1) := by decide +kernel
theorem dX3_get_19 : decode cX3_get 19 = .ok (.goto 4, 3) := by decide +kernel
theorem dX3_get_22 : decode cX3_get 22 = .ok (.iconst (-1), 1) := by decide +kernel
theorem dX3_get_23 : decode cX3_get 23 = .ok (.ireturn, 1) := by decide +kernel
theorem dX3_grow_0 : decode cX3_grow 0 = .ok (.aload_n 0, 1) := by decide +kernel
theorem dX3_grow_1 : decode cX3_grow 1 = .ok (.iload_n 1, 1) := by decide +kernel
theorem dX3_grow_2 : decode cX3_grow 2 = .ok (.iload_n 2, 1) := by decide +kernel
theorem dX3_grow_3 : decode cX3_grow 3 = .ok (.invokevirtual 25, 3) := by decide +kernel
theorem dX3_grow_6 : decode cX3_grow 6 = .ok (.ifCond .eq 17, 3) := by decide +kernel
theorem dX3_grow_9 : decode cX3_grow 9 = .ok (.aload_n 0, 1) := by decide +kernel
theorem dX3_grow_10 : decode cX3_grow 10 = .ok (.getfield 15, 3) := by decide +kernel
theorem dX3_grow_13 : decode cX3_grow 13 = .ok (.iload_n 1, 1) := by decide +kernel
theorem dX3_grow_14 : decode cX3_grow 14 = .ok (.iconst 5, 1) := by decide +kernel
theorem dX3_grow_15 : decode cX3_grow 15 = .ok (.imul, 1) := by decide +kernel
theorem dX3_grow_16 : decode cX3_grow 16 = .ok (.iload_n 2, 1) := by decide +kernel
theorem dX3_grow_17 : decode cX3_grow 17 = .ok (.iadd, 1) := by decide +kernel
theorem dX3_grow_18 : decode cX3_grow 18 = .ok (.dup2, 1) := by decide +kernel
theorem dX3_grow_19 : decode cX3_grow 19 = .ok (.iaload, 1) := by decide +kernel
theorem dX3_grow_20 : decode cX3_grow 20 = .ok (.iload_n 3, 1) := by decide +kernel
theorem dX3_grow_21 : decode cX3_grow 21 = .ok (.iadd, 1) := by decide +kernel
theorem dX3_grow_22 : decode cX3_grow 22 = .ok (.iastore, 1) := by decide +kernel
theorem dX3_grow_23 : decode cX3_grow 23 = .ok (.return_, 1) := by decide +kernel
theorem dX3_add_0 : decode cX3_add 0 = .ok (.aload_n 0, 1) := by decide +kernel
theorem dX3_add_1 : decode cX3_add 1 = .ok (.getfield 9, 3) := by decide +kernel
theorem dX3_add_4 : decode cX3_add 4 = .ok (.sipush 8000, 3) := by decide +kernel
theorem dX3_add_7 : decode cX3_add 7 = .ok (.if_icmp .lt 4, 3) := by decide +kernel
theorem dX3_add_10 : decode cX3_add 10 = .ok (.return_, 1) := by decide +kernel
theorem dX3_add_11 : decode cX3_add 11 = .ok (.aload_n 0, 1) := by decide +kernel
theorem dX3_add_12 : decode cX3_add 12 = .ok (.getfield 9, 3) := by decide +kernel
theorem dX3_add_15 : decode cX3_add 15 = .ok (.iconst 5, 1) := by decide +kernel
theorem dX3_add_16 : decode cX3_add 16 = .ok (.imul, 1) := by decide +kernel
theorem dX3_add_17 : decode cX3_add 17 = .ok (.istore 6, 2) := by decide +kernel
theorem dX3_add_19 : decode cX3_add 19 = .ok (.iload 6, 2) := by decide +kernel
theorem dX3_add_21 : decode cX3_add 21 = .ok (.iconst 5, 1) := by decide +kernel
theorem dX3_add_22 : decode cX3_add 22 = .ok (.iadd, 1) := by decide +kernel
theorem dX3_add_23 : decode cX3_add 23 = .ok (.aload_n 0, 1) := by decide +kernel
theorem dX3_add_24 : decode cX3_add 24 = .ok (.getfield 15, 3) := by decide +kernel
theorem dX3_add_27 : decode cX3_add 27 = .ok (.arraylength, 1) := by decide +kernel
theorem dX3_add_28 : decode cX3_add 28 = .ok (.if_icmp .le 26, 3) := by decide +kernel
theorem dX3_add_31 : decode cX3_add 31 = .ok (.aload_n 0, 1) := by decide +kernel
theorem dX3_add_32 : decode cX3_add 32 = .ok (.aload_n 0, 1) := by decide +kernel
theorem dX3_add_33 : decode cX3_add 33 = .ok (.getfield 15, 3) := by decide +kernel
theorem dX3_add_36 : decode cX3_add 36 = .ok (.iconst 2, 1) := by decide +kernel
theorem dX3_add_37 : decode cX3_add 37 = .ok (.aload_n 0, 1) := by decide +kernel
theorem dX3_add_38 : decode cX3_add 38 = .ok (.getfield 15, 3) := by decide +kernel
theorem dX3_add_41 : decode cX3_add 41 = .ok (.arraylength, 1) := by decide +kernel
theorem dX3_add_42 : decode cX3_add 42 = .ok (.imul, 1) := by decide +kernel
theorem dX3_add_43 : decode cX3_add 43 = .ok (.ldc 29, 2) := by decide +kernel
theorem dX3_add_45 : decode cX3_add 45 = .ok (.invokestatic 30, 3) := by decide +kernel
theorem dX3_add_48 : decode cX3_add 48 = .ok (.invokestatic 36, 3) := by decide +kernel
theorem dX3_add_51 : decode cX3_add 51 = .ok (.putfield 15, 3) := by decide +kernel
theorem dX3_add_54 : decode cX3_add 54 = .ok (.aload_n 0, 1) := by decide +kernel
theorem dX3_add_55 : decode cX3_add 55 = .ok (.getfield 15, 3) := by decide +kernel
theorem dX3_add_58 : decode cX3_add 58 = .ok (.iload 6, 2) := by decide +kernel
theorem dX3_add_60 : decode cX3_add 60 = .ok (.iload_n 1, 1) := by decide +kernel
theorem dX3_add_61 : decode cX3_add 61 = .ok (.iastore, 1) := by decide +kernel
theorem dX3_add_62 : decode cX3_add 62 = .ok (.aload_n 0, 1) := by decide +kernel
theorem dX3_add_63 : decode cX3_add 63 = .ok (.getfield 15, 3) := by decide +kernel
theorem dX3_add_66 : decode cX3_add 66 = .ok (.iload 6, 2) := by decide +kernel
theorem dX3_add_68 : decode cX3_add 68 = .ok (.iconst 1, 1) := by decide +kernel
theorem dX3_add_69 : decode cX3_add 69 = .ok (.iadd, 1) := by decide +kernel
theorem dX3_add_70 : decode cX3_add 70 = .ok (.iload_n 2, 1) := by decide +kernel
theorem dX3_add_71 : decode cX3_add 71 = .ok (.iastore, 1) := by decide +kernel
theorem dX3_add_72 : decode cX3_add 72 = .ok (.aload_n 0, 1) := by decide +kernel
theorem dX3_add_73 : decode cX3_add 73 = .ok (.getfield 15, 3) := by decide +kernel
theorem dX3_add_76 : decode cX3_add 76 = .ok (.iload 6, 2) := by decide +kernel
theorem dX3_add_78 : decode cX3_add 78 = .ok (.iconst 2, 1) := by decide +kernel
theorem dX3_add_79 : decode cX3_add 79 = .ok (.iadd, 1) := by decide +kernel
theorem dX3_add_80 : decode cX3_add 80 = .ok (.iload_n 3, 1) := by decide +kernel
theorem dX3_add_81 : decode cX3_add 81 = .ok (.iastore, 1) := by decide +kernel
theorem dX3_add_82 : decode cX3_add 82 = .ok (.aload_n 0, 1) := by decide +kernel
theorem dX3_add_83 : decode cX3_add 83 = .ok (.getfield 15, 3) := by decide +kernel
theorem dX3_add_86 : decode cX3_add 86 = .ok (.iload 6, 2) := by decide +kernel
theorem dX3_add_88 : decode cX3_add 88 = .ok (.iconst 3, 1) := by decide +kernel
theorem dX3_add_89 : decode cX3_add 89 = .ok (.iadd, 1) := by decide +kernel
theorem dX3_add_90 : decode cX3_add 90 = .ok (.iload 4, 2) := by decide +kernel
theorem dX3_add_92 : decode cX3_add 92 = .ok (.iastore, 1) := by decide +kernel
theorem dX3_add_93 : decode cX3_add 93 = .ok (.aload_n 0, 1) := by decide +kernel
theorem dX3_add_94 : decode cX3_add 94 = .ok (.getfield 15, 3) := by decide +kernel
theorem dX3_add_97 : decode cX3_add 97 = .ok (.iload 6, 2) := by decide +kernel
theorem dX3_add_99 : decode cX3_add 99 = .ok (.iconst 4, 1) := by decide +kernel
theorem dX3_add_100 : decode cX3_add 100 = .ok (.iadd, 1) := by decide +kernel
theorem dX3_add_101 : decode cX3_add 101 = .ok (.iload 5, 2) := by decide +kernel
theorem dX3_add_103 : decode cX3_add 103 = .ok (.iastore, 1) := by decide +kernel
theorem dX3_add_104 : decode cX3_add 104 = .ok (.aload_n 0, 1) := by decide +kernel
theorem dX3_add_105 : decode cX3_add 105 = .ok (.dup, 1) := by decide +kernel
theorem dX3_add_106 : decode cX3_add 106 = .ok (.getfield 9, 3) := by decide +kernel
theorem dX3_add_109 : decode cX3_add 109 = .ok (.iconst 1, 1) := by decide +kernel
theorem dX3_add_110 : decode cX3_add 110 = .ok (.iadd, 1) := by decide +kernel
theorem dX3_add_111 : decode cX3_add 111 = .ok (.putfield 9, 3) := by decide +kernel
theorem dX3_add_114 : decode cX3_add 114 = .ok (.return_, 1) := by decide +kernel
theorem dX3_firstUnlike_0 : decode cX3_firstUnlike 0 = .ok (.aload_n 0, 1) := by decide +kernel
theorem dX3_firstUnlike_1 : decode cX3_firstUnlike 1 = .ok (.getfield 9, 3) := by decide +kernel
theorem dX3_firstUnlike_4 : decode cX3_firstUnlike 4 = .ok (.aload_n 1, 1) := by decide +kernel
theorem dX3_firstUnlike_5 : decode cX3_firstUnlike 5 = .ok (.getfield 9, 3) := by decide +kernel
theorem dX3_firstUnlike_8 : decode cX3_firstUnlike 8 = .ok (.invokestatic 30, 3) := by decide +kernel
theorem dX3_firstUnlike_11 : decode cX3_firstUnlike 11 = .ok (.istore_n 2, 1) := by decide +kernel
theorem dX3_firstUnlike_12 : decode cX3_firstUnlike 12 = .ok (.iconst 0, 1) := by decide +kernel
theorem dX3_firstUnlike_13 : decode cX3_firstUnlike 13 = .ok (.istore_n 3, 1) := by decide +kernel
theorem dX3_firstUnlike_14 : decode cX3_firstUnlike 14 = .ok (.iload_n 3, 1) := by decide +kernel
theorem dX3_firstUnlike_15 : decode cX3_firstUnlike 15 = .ok (.iload_n 2, 1) := by decide +kernel
theorem dX3_firstUnlike_16 : decode cX3_firstUnlike 16 = .ok (.iconst 5, 1) := by decide +kernel
theorem dX3_firstUnlike_17 : decode cX3_firstUnlike 17 = .ok (.imul, 1) := by decide +kernel
theorem dX3_firstUnlike_18 : decode cX3_firstUnlike 18 = .ok (.if_icmp .ge 28, 3) := by decide +kernel
theorem dX3_firstUnlike_21 : decode cX3_firstUnlike 21 = .ok (.aload_n 0, 1) := by decide +kernel
theorem dX3_firstUnlike_22 : decode cX3_firstUnlike 22 = .ok (.getfield 15, 3) := by decide +kernel
theorem dX3_firstUnlike_25 : decode cX3_firstUnlike 25 = .ok (.iload_n 3, 1) := by decide +kernel
theorem dX3_firstUnlike_26 : decode cX3_firstUnlike 26 = .ok (.iaload, 1) := by decide +kernel
theorem dX3_firstUnlike_27 : decode cX3_firstUnlike 27 = .ok (.aload_n 1, 1) := by decide +kernel
theorem dX3_firstUnlike_28 : decode cX3_firstUnlike 28 = .ok (.getfield 15, 3) := by decide +kernel
theorem dX3_firstUnlike_31 : decode cX3_firstUnlike 31 = .ok (.iload_n 3, 1) := by decide +kernel
theorem dX3_firstUnlike_32 : decode cX3_firstUnlike 32 = .ok (.iaload, 1) := by decide +kernel
theorem dX3_firstUnlike_33 : decode cX3_firstUnlike 33 = .ok (.if_icmp .eq 7, 3) := by decide +kernel
theorem dX3_firstUnlike_36 : decode cX3_firstUnlike 36 = .ok (.iload_n 3, 1) := by decide +kernel
theorem dX3_firstUnlike_37 : decode cX3_firstUnlike 37 = .ok (.iconst 5, 1) := by decide +kernel
theorem dX3_firstUnlike_38 : decode cX3_firstUnlike 38 = .ok (.idiv, 1) := by decide +kernel
theorem dX3_firstUnlike_39 : decode cX3_firstUnlike 39 = .ok (.ireturn, 1) := by decide +kernel
theorem dX3_firstUnlike_40 : decode cX3_firstUnlike 40 = .ok (.iinc 3 1, 3) := by decide +kernel
theorem dX3_firstUnlike_43 : decode cX3_firstUnlike 43 = .ok (.goto (-29), 3) := by decide +kernel
theorem dX3_firstUnlike_46 : decode cX3_firstUnlike 46 = .ok (.aload_n 0, 1) := by decide +kernel
theorem dX3_firstUnlike_47 : decode cX3_firstUnlike 47 = .ok (.getfield 9, 3) := by decide +kernel
theorem dX3_firstUnlike_50 : decode cX3_firstUnlike 50 = .ok (.aload_n 1, 1) := by decide +kernel
theorem dX3_firstUnlike_51 : decode cX3_firstUnlike 51 = .ok (.getfield 9, 3) := by decide +kernel
theorem dX3_firstUnlike_54 : decode cX3_firstUnlike 54 = .ok (.if_icmp .ne 7, 3) := by decide +kernel
theorem dX3_firstUnlike_57 : decode cX3_firstUnlike 57 = .ok (.iconst (-1), 1) := by decide +kernel
theorem dX3_firstUnlike_58 : decode cX3_firstUnlike 58 = .ok (.goto 4, 3) := by decide +kernel
theorem dX3_firstUnlike_61 : decode cX3_firstUnlike 61 = .ok (.iload_n 2, 1) := by decide +kernel
theorem dX3_firstUnlike_62 : decode cX3_firstUnlike 62 = .ok (.ireturn, 1) := by decide +kernel
theorem dX3_summed_0 : decode cX3_summed 0 = .ok (.lload_n 1, 1) := by decide +kernel
theorem dX3_summed_1 : decode cX3_summed 1 = .ok (.lstore_n 3, 1) := by decide +kernel
theorem dX3_summed_2 : decode cX3_summed 2 = .ok (.iconst 0, 1) := by decide +kernel
theorem dX3_summed_3 : decode cX3_summed 3 = .ok (.istore 5, 2) := by decide +kernel
theorem dX3_summed_5 : decode cX3_summed 5 = .ok (.iload 5, 2) := by decide +kernel
theorem dX3_summed_7 : decode cX3_summed 7 = .ok (.aload_n 0, 1) := by decide +kernel
theorem dX3_summed_8 : decode cX3_summed 8 = .ok (.getfield 9, 3) := by decide +kernel
theorem dX3_summed_11 : decode cX3_summed 11 = .ok (.iconst 5, 1) := by decide +kernel
theorem dX3_summed_12 : decode cX3_summed 12 = .ok (.imul, 1) := by decide +kernel
theorem dX3_summed_13 : decode cX3_summed 13 = .ok (.if_icmp .ge 24, 3) := by decide +kernel
theorem dX3_summed_16 : decode cX3_summed 16 = .ok (.lload_n 3, 1) := by decide +kernel
theorem dX3_summed_17 : decode cX3_summed 17 = .ok (.ldc2_w 42, 3) := by decide +kernel
theorem dX3_summed_20 : decode cX3_summed 20 = .ok (.lmul, 1) := by decide +kernel
theorem dX3_summed_21 : decode cX3_summed 21 = .ok (.aload_n 0, 1) := by decide +kernel
theorem dX3_summed_22 : decode cX3_summed 22 = .ok (.getfield 15, 3) := by decide +kernel
theorem dX3_summed_25 : decode cX3_summed 25 = .ok (.iload 5, 2) := by decide +kernel
theorem dX3_summed_27 : decode cX3_summed 27 = .ok (.iaload, 1) := by decide +kernel
theorem dX3_summed_28 : decode cX3_summed 28 = .ok (.i2l, 1) := by decide +kernel
theorem dX3_summed_29 : decode cX3_summed 29 = .ok (.ladd, 1) := by decide +kernel
theorem dX3_summed_30 : decode cX3_summed 30 = .ok (.lstore_n 3, 1) := by decide +kernel
theorem dX3_summed_31 : decode cX3_summed 31 = .ok (.iinc 5 1, 3) := by decide +kernel
theorem dX3_summed_34 : decode cX3_summed 34 = .ok (.goto (-29), 3) := by decide +kernel
theorem dX3_summed_37 : decode cX3_summed 37 = .ok (.lload_n 3, 1) := by decide +kernel
theorem dX3_summed_38 : decode cX3_summed 38 = .ok (.lreturn, 1) := by decide +kernel
theorem dX4_init_0 : decode cX4_init 0 = .ok (.aload_n 0, 1) := by decide +kernel
theorem dX4_init_1 : decode cX4_init 1 = .ok (.invokespecial 3, 3) := by decide +kernel
theorem dX4_init_4 : decode cX4_init 4 = .ok (.aload_n 0, 1) := by decide +kernel
theorem dX4_init_5 : decode cX4_init 5 = .ok (.iconst 0, 1) := by decide +kernel
theorem dX4_init_6 : decode cX4_init 6 = .ok (.putfield 9, 3) := by decide +kernel
theorem dX4_init_9 : decode cX4_init 9 = .ok (.aload_n 0, 1) := by decide +kernel
theorem dX4_init_10 : decode cX4_init 10 = .ok (.iconst 0, 1) := by decide +kernel
theorem dX4_init_11 : decode cX4_init 11 = .ok (.putfield 15, 3) := by decide +kernel
theorem dX4_init_14 : decode cX4_init 14 = .ok (.aload_n 0, 1) := by decide +kernel
theorem dX4_init_15 : decode cX4_init 15 = .ok (.iconst 1, 1) := by decide +kernel
theorem dX4_init_16 : decode cX4_init 16 = .ok (.putfield 18, 3) := by decide +kernel
theorem dX4_init_19 : decode cX4_init 19 = .ok (.aload_n 0, 1) := by decide +kernel
theorem dX4_init_20 : decode cX4_init 20 = .ok (.lconst 0, 1) := by decide +kernel
theorem dX4_init_21 : decode cX4_init 21 = .ok (.putfield 21, 3) := by decide +kernel
theorem dX4_init_24 : decode cX4_init 24 = .ok (.aload_n 0, 1) := by decide +kernel
theorem dX4_init_25 : decode cX4_init 25 = .ok (.iconst 0, 1) := by decide +kernel
theorem dX4_init_26 : decode cX4_init 26 = .ok (.putfield 25, 3) := by decide +kernel
theorem dX4_init_29 : decode cX4_init 29 = .ok (.aload_n 0, 1) := by decide +kernel
theorem dX4_init_30 : decode cX4_init 30 = .ok (.iconst 0, 1) := by decide +kernel
theorem dX4_init_31 : decode cX4_init 31 = .ok (.putfield 28, 3) := by decide +kernel
theorem dX4_init_34 : decode cX4_init 34 = .ok (.aload_n 0, 1) := by decide +kernel
theorem dX4_init_35 : decode cX4_init 35 = .ok (.iconst 0, 1) := by decide +kernel
theorem dX4_init_36 : decode cX4_init 36 = .ok (.putfield 31, 3) := by decide +kernel
theorem dX4_init_39 : decode cX4_init 39 = .ok (.aload_n 0, 1) := by decide +kernel
theorem dX4_init_40 : decode cX4_init 40 = .ok (.iconst 0, 1) := by decide +kernel
theorem dX4_init_41 : decode cX4_init 41 = .ok (.putfield 34, 3) := by decide +kernel
theorem dX4_init_44 : decode cX4_init 44 = .ok (.aload_n 0, 1) := by decide +kernel
theorem dX4_init_45 : decode cX4_init 45 = .ok (.iconst (-1), 1) := by decide +kernel
theorem dX4_init_46 : decode cX4_init 46 = .ok (.putfield 37, 3) := by decide +kernel
theorem dX4_init_49 : decode cX4_init 49 = .ok (.aload_n 0, 1) := by decide +kernel
theorem dX4_init_50 : decode cX4_init 50 = .ok (.iconst (-1), 1) := by decide +kernel
theorem dX4_init_51 : decode cX4_init 51 = .ok (.putfield 40, 3) := by decide +kernel
theorem dX4_init_54 : decode cX4_init 54 = .ok (.aload_n 0, 1) := by decide +kernel
theorem dX4_init_55 : decode cX4_init 55 = .ok (.iconst 0, 1) := by decide +kernel
theorem dX4_init_56 : decode cX4_init 56 = .ok (.putfield 43, 3) := by decide +kernel
theorem dX4_init_59 : decode cX4_init 59 = .ok (.aload_n 0, 1) := by decide +kernel
theorem dX4_init_60 : decode cX4_init 60 = .ok (.bipush 100, 2) := by decide +kernel
theorem dX4_init_62 : decode cX4_init 62 = .ok (.putfield 46, 3) := by decide +kernel
theorem dX4_init_65 : decode cX4_init 65 = .ok (.aload_n 0, 1) := by decide +kernel
theorem dX4_init_66 : decode cX4_init 66 = .ok (.iconst 0, 1) := by decide +kernel
theorem dX4_init_67 : decode cX4_init 67 = .ok (.putfield 49, 3) := by decide +kernel
theorem dX4_init_70 : decode cX4_init 70 = .ok (.aload_n 0, 1) := by decide +kernel
theorem dX4_init_71 : decode cX4_init 71 = .ok (.iconst 0, 1) := by decide +kernel
theorem dX4_init_72 : decode cX4_init 72 = .ok (.putfield 52, 3) := by decide +kernel
theorem dX4_init_75 : decode cX4_init 75 = .ok (.aload_n 0, 1) := by decide +kernel
theorem dX4_init_76 : decode cX4_init 76 = .ok (.iconst 0, 1) := by decide +kernel
theorem dX4_init_77 : decode cX4_init 77 = .ok (.putfield 55, 3) := by decide +kernel
theorem dX4_init_80 : decode cX4_init 80 = .ok (.aload_n 0, 1) := by decide +kernel
theorem dX4_init_81 : decode cX4_init 81 = .ok (.iconst (-1), 1) := by decide +kernel
theorem dX4_init_82 : decode cX4_init 82 = .ok (.putfield 58, 3) := by decide +kernel
theorem dX4_init_85 : decode cX4_init 85 = .ok (.aload_n 0, 1) := by decide +kernel
theorem dX4_init_86 : decode cX4_init 86 = .ok (.aconst_null, 1) := by decide +kernel
theorem dX4_init_87 : decode cX4_init 87 = .ok (.putfield 61, 3) := by decide +kernel
theorem dX4_init_90 : decode cX4_init 90 = .ok (.aload_n 0, 1) := by decide +kernel
theorem dX4_init_91 : decode cX4_init 91 = .ok (.lconst 0, 1) := by decide +kernel
theorem dX4_init_92 : decode cX4_init 92 = .ok (.putfield 65, 3) := by decide +kernel
theorem dX4_init_95 : decode cX4_init 95 = .ok (.aload_n 0, 1) := by decide +kernel
theorem dX4_init_96 : decode cX4_init 96 = .ok (.iload_n 1, 1) := by decide +kernel
theorem dX4_init_97 : decode cX4_init 97 = .ok (.putfield 68, 3) := by decide +kernel
theorem dX4_init_100 : decode cX4_init 100 = .ok (.return_, 1) := by decide +kernel
theorem dX4_begin_0 : decode cX4_begin 0 = .ok (.aload_n 0, 1) := by decide +kernel
theorem dX4_begin_1 : decode cX4_begin 1 = .ok (.iload_n 1, 1) := by decide +kernel
theorem dX4_begin_2 : decode cX4_begin 2 = .ok (.putfield 9, 3) := by decide +kernel
theorem dX4_begin_5 : decode cX4_begin 5 = .ok (.aload_n 0, 1) := by decide +kernel
theorem dX4_begin_6 : decode cX4_begin 6 = .ok (.iload_n 2, 1) := by decide +kernel
theorem dX4_begin_7 : decode cX4_begin 7 = .ok (.putfield 15, 3) := by decide +kernel
theorem dX4_begin_10 : decode cX4_begin 10 = .ok (.aload_n 0, 1) := by decide +kernel
theorem dX4_begin_11 : decode cX4_begin 11 = .ok (.iload_n 3, 1) := by decide +kernel
theorem dX4_begin_12 : decode cX4_begin 12 = .ok (.putfield 18, 3) := by decide +kernel
theorem dX4_begin_15 : decode cX4_begin 15 = .ok (.aload_n 0, 1) := by decide +kernel
theorem dX4_begin_16 : decode cX4_begin 16 = .ok (.lload 4, 2) := by decide +kernel
theorem dX4_begin_18 : decode cX4_begin 18 = .ok (.putfield 21, 3) := by decide +kernel
theorem dX4_begin_21 : decode cX4_begin 21 = .ok (.aload_n 0, 1) := by decide +kernel
theorem dX4_begin_22 : decode cX4_begin 22 = .ok (.iconst 0, 1) := by decide +kernel
theorem dX4_begin_23 : decode cX4_begin 23 = .ok (.putfield 25, 3) := by decide +kernel
theorem dX4_begin_26 : decode cX4_begin 26 = .ok (.aload_n 0, 1) := by decide +kernel
theorem dX4_begin_27 : decode cX4_begin 27 = .ok (.iconst 0, 1) := by decide +kernel
theorem dX4_begin_28 : decode cX4_begin 28 = .ok (.putfield 28, 3) := by decide +kernel
theorem dX4_begin_31 : decode cX4_begin 31 = .ok (.aload_n 0, 1) := by decide +kernel
theorem dX4_begin_32 : decode cX4_begin 32 = .ok (.iconst 0, 1) := by decide +kernel
theorem dX4_begin_33 : decode cX4_begin 33 = .ok (.putfield 31, 3) := by decide +kernel
theorem dX4_begin_36 : decode cX4_begin 36 = .ok (.aload_n 0, 1) := by decide +kernel
theorem dX4_begin_37 : decode cX4_begin 37 = .ok (.iconst 0, 1) := by decide +kernel
theorem dX4_begin_38 : decode cX4_begin 38 = .ok (.putfield 34, 3) := by decide +kernel
theorem dX4_begin_41 : decode cX4_begin 41 = .ok (.aload_n 0, 1) := by decide +kernel
theorem dX4_begin_42 : decode cX4_begin 42 = .ok (.iconst (-1), 1) := by decide +kernel
theorem dX4_begin_43 : decode cX4_begin 43 = .ok (.putfield 37, 3) := by decide +kernel
theorem dX4_begin_46 : decode cX4_begin 46 = .ok (.aload_n 0, 1) := by decide +kernel
theorem dX4_begin_47 : decode cX4_begin 47 = .ok (.iconst (-1), 1) := by decide +kernel
theorem dX4_begin_48 : decode cX4_begin 48 = .ok (.putfield 40, 3) := by decide +kernel
theorem dX4_begin_51 : decode cX4_begin 51 = .ok (.aload_n 0, 1) := by decide +kernel
theorem dX4_begin_52 : decode cX4_begin 52 = .ok (.iconst 0, 1) := by decide +kernel
theorem dX4_begin_53 : decode cX4_begin 53 = .ok (.putfield 43, 3) := by decide +kernel
theorem dX4_begin_56 : decode cX4_begin 56 = .ok (.aload_n 0, 1) := by decide +kernel
theorem dX4_begin_57 : decode cX4_begin 57 = .ok (.iconst (-1), 1) := by decide +kernel
theorem dX4_begin_58 : decode cX4_begin 58 = .ok (.putfield 58, 3) := by decide +kernel
theorem dX4_begin_61 : decode cX4_begin 61 = .ok (.return_, 1) := by decide +kernel
theorem dX4_startPeriod_0 : decode cX4_startPeriod 0 = .ok (.aload_n 0, 1) := by decide +kernel
theorem dX4_startPeriod_1 : decode cX4_startPeriod 1 = .ok (.iload_n 1, 1) := by decide +kernel
theorem dX4_startPeriod_2 : decode cX4_startPeriod 2 = .ok (.putfield 46, 3) := by decide +kernel
theorem dX4_startPeriod_5 : decode cX4_startPeriod 5 = .ok (.aload_n 0, 1) := by decide +kernel
theorem dX4_startPeriod_6 : decode cX4_startPeriod 6 = .ok (.iload_n 2, 1) := by decide +kernel
theorem dX4_startPeriod_7 : decode cX4_startPeriod 7 = .ok (.putfield 49, 3) := by decide +kernel
theorem dX4_startPeriod_10 : decode cX4_startPeriod 10 = .ok (.aload_n 0, 1) := by decide +kernel
theorem dX4_startPeriod_11 : decode cX4_startPeriod 11 = .ok (.iload_n 3, 1) := by decide +kernel
theorem dX4_startPeriod_12 : decode cX4_startPeriod 12 = .ok (.iload_n 1, 1) := by decide +kernel
theorem dX4_startPeriod_13 : decode cX4_startPeriod 13 = .ok (.iadd, 1) := by decide +kernel
theorem dX4_startPeriod_14 : decode cX4_startPeriod 14 = .ok (.putfield 52, 3) := by decide +kernel
theorem dX4_startPeriod_17 : decode cX4_startPeriod 17 = .ok (.aload_n 0, 1) := by decide +kernel
theorem dX4_startPeriod_18 : decode cX4_startPeriod 18 = .ok (.iload_n 2, 1) := by decide +kernel
theorem dX4_startPeriod_19 : decode cX4_startPeriod 19 = .ok (.putfield 55, 3) := by decide +kernel
theorem dX4_startPeriod_22 : decode cX4_startPeriod 22 = .ok (.return_, 1) := by decide +kernel
theorem dX4_become_0 : decode cX4_become 0 = .ok (.aload_n 0, 1) := by decide +kernel
theorem dX4_become_1 : decode cX4_become 1 = .ok (.aload_n 1, 1) := by decide +kernel
theorem dX4_become_2 : decode cX4_become 2 = .ok (.getfield 9, 3) := by decide +kernel
theorem dX4_become_5 : decode cX4_become 5 = .ok (.aload_n 1, 1) := by decide +kernel
theorem dX4_become_6 : decode cX4_become 6 = .ok (.getfield 15, 3) := by decide +kernel
theorem dX4_become_9 : decode cX4_become 9 = .ok (.aload_n 1, 1) := by decide +kernel
theorem dX4_become_10 : decode cX4_become 10 = .ok (.getfield 18, 3) := by decide +kernel
theorem dX4_become_13 : decode cX4_become 13 = .ok (.aload_n 1, 1) := by decide +kernel
theorem dX4_become_14 : decode cX4_become 14 = .ok (.getfield 21, 3) := by decide +kernel
theorem dX4_become_17 : decode cX4_become 17 = .ok (.invokevirtual 71, 3) := by decide +kernel
theorem dX4_become_20 : decode cX4_become 20 = .ok (.aload_n 0, 1) := by decide +kernel
theorem dX4_become_21 : decode cX4_become 21 = .ok (.aload_n 1, 1) := by decide +kernel
theorem dX4_become_22 : decode cX4_become 22 = .ok (.getfield 25, 3) := by decide +kernel
theorem dX4_become_25 : decode cX4_become 25 = .ok (.putfield 25, 3) := by decide +kernel
theorem dX4_become_28 : decode cX4_become 28 = .ok (.aload_n 0, 1) := by decide +kernel
theorem dX4_become_29 : decode cX4_become 29 = .ok (.aload_n 1, 1) := by decide +kernel
theorem dX4_become_30 : decode cX4_become 30 = .ok (.getfield 28, 3) := by decide +kernel
theorem dX4_become_33 : decode cX4_become 33 = .ok (.putfield 28, 3) := by decide +kernel
theorem dX4_become_36 : decode cX4_become 36 = .ok (.aload_n 0, 1) := by decide +kernel
theorem dX4_become_37 : decode cX4_become 37 = .ok (.aload_n 1, 1) := by decide +kernel
theorem dX4_become_38 : decode cX4_become 38 = .ok (.getfield 31, 3) := by decide +kernel
theorem dX4_become_41 : decode cX4_become 41 = .ok (.putfield 31, 3) := by decide +kernel
theorem dX4_become_44 : decode cX4_become 44 = .ok (.aload_n 0, 1) := by decide +kernel
theorem dX4_become_45 : decode cX4_become 45 = .ok (.aload_n 1, 1) := by decide +kernel
theorem dX4_become_46 : decode cX4_become 46 = .ok (.getfield 34, 3) := by decide +kernel
theorem dX4_become_49 : decode cX4_become 49 = .ok (.putfield 34, 3) := by decide +kernel
theorem dX4_become_52 : decode cX4_become 52 = .ok (.aload_n 0, 1) := by decide +kernel
theorem dX4_become_53 : decode cX4_become 53 = .ok (.aload_n 1, 1) := by decide +kernel
theorem dX4_become_54 : decode cX4_become 54 = .ok (.getfield 37, 3) := by decide +kernel
theorem dX4_become_57 : decode cX4_become 57 = .ok (.putfield 37, 3) := by decide +kernel
theorem dX4_become_60 : decode cX4_become 60 = .ok (.aload_n 0, 1) := by decide +kernel
theorem dX4_become_61 : decode cX4_become 61 = .ok (.aload_n 1, 1) := by decide +kernel
theorem dX4_become_62 : decode cX4_become 62 = .ok (.getfield 40, 3) := by decide +kernel
theorem dX4_become_65 : decode cX4_become 65 = .ok (.putfield 40, 3) := by decide +kernel
theorem dX4_become_68 : decode cX4_become 68 = .ok (.aload_n 0, 1) := by decide +kernel
theorem dX4_become_69 : decode cX4_become 69 = .ok (.aload_n 1, 1) := by decide +kernel
theorem dX4_become_70 : decode cX4_become 70 = .ok (.getfield 43, 3) := by decide +kernel
theorem dX4_become_73 : decode cX4_become 73 = .ok (.putfield 43, 3) := by decide +kernel
theorem dX4_become_76 : decode cX4_become 76 = .ok (.aload_n 0, 1) := by decide +kernel
theorem dX4_become_77 : decode cX4_become 77 = .ok (.aload_n 1, 1) := by decide +kernel
theorem dX4_become_78 : decode cX4_become 78 = .ok (.getfield 46, 3) := by decide +kernel
theorem dX4_become_81 : decode cX4_become 81 = .ok (.putfield 46, 3) := by decide +kernel
theorem dX4_become_84 : decode cX4_become 84 = .ok (.aload_n 0, 1) := by decide +kernel
theorem dX4_become_85 : decode cX4_become 85 = .ok (.aload_n 1, 1) := by decide +kernel
theorem dX4_become_86 : decode cX4_become 86 = .ok (.getfield 49, 3) := by decide +kernel
theorem dX4_become_89 : decode cX4_become 89 = .ok (.putfield 49, 3) := by decide +kernel
theorem dX4_become_92 : decode cX4_become 92 = .ok (.aload_n 0, 1) := by decide +kernel
theorem dX4_become_93 : decode cX4_become 93 = .ok (.aload_n 1, 1) := by decide +kernel
theorem dX4_become_94 : decode cX4_become 94 = .ok (.getfield 52, 3) := by decide +kernel
theorem dX4_become_97 : decode cX4_become 97 = .ok (.putfield 52, 3) := by decide +kernel
theorem dX4_become_100 : decode cX4_become 100 = .ok (.aload_n 0, 1) := by decide +kernel
theorem dX4_become_101 : decode cX4_become 101 = .ok (.aload_n 1, 1) := by decide +kernel
theorem dX4_become_102 : decode cX4_become 102 = .ok (.getfield 55, 3) := by decide +kernel
theorem dX4_become_105 : decode cX4_become 105 = .ok (.putfield 55, 3) := by decide +kernel
theorem dX4_become_108 : decode cX4_become 108 = .ok (.aload_n 1, 1) := by decide +kernel
theorem dX4_become_109 : decode cX4_become 109 = .ok (.getfield 58, 3) := by decide +kernel
theorem dX4_become_112 : decode cX4_become 112 = .ok (.ifCond .lt 11, 3) := by decide +kernel
theorem dX4_become_115 : decode cX4_become 115 = .ok (.aload_n 0, 1) := by decide +kernel
theorem dX4_become_116 : decode cX4_become 116 = .ok (.aload_n 1, 1) := by decide +kernel
theorem dX4_become_117 : decode cX4_become 117 = .ok (.getfield 58, 3) := by decide +kernel
theorem dX4_become_120 : decode cX4_become 120 = .ok (.invokevirtual 75, 3) := by decide +kernel
theorem dX4_become_123 : decode cX4_become 123 = .ok (.iconst 0, 1) := by decide +kernel
theorem dX4_become_124 : decode cX4_become 124 = .ok (.istore_n 2, 1) := by decide +kernel
theorem dX4_become_125 : decode cX4_become 125 = .ok (.iload_n 2, 1) := by decide +kernel
theorem dX4_become_126 : decode cX4_become 126 = .ok (.aload_n 1, 1) := by decide +kernel
theorem dX4_become_127 : decode cX4_become 127 = .ok (.getfield 58, 3) := by decide +kernel
theorem dX4_become_130 : decode cX4_become 130 = .ok (.if_icmp .ge 19, 3) := by decide +kernel
theorem dX4_become_133 : decode cX4_become 133 = .ok (.aload_n 0, 1) := by decide +kernel
theorem dX4_become_134 : decode cX4_become 134 = .ok (.iload_n 2, 1) := by decide +kernel
theorem dX4_become_135 : decode cX4_become 135 = .ok (.aload_n 1, 1) := by decide +kernel
theorem dX4_become_136 : decode cX4_become 136 = .ok (.iload_n 2, 1) := by decide +kernel
theorem dX4_become_137 : decode cX4_become 137 = .ok (.invokevirtual 79, 3) := by decide +kernel
theorem dX4_become_140 : decode cX4_become 140 = .ok (.invokevirtual 83, 3) := by decide +kernel
theorem dX4_become_143 : decode cX4_become 143 = .ok (.iinc 2 1, 3) := by decide +kernel
theorem dX4_become_146 : decode cX4_become 146 = .ok (.goto (-21), 3) := by decide +kernel
theorem dX4_become_149 : decode cX4_become 149 = .ok (.return_, 1) := by decide +kernel
theorem dX4_hasDeadline_0 : decode cX4_hasDeadline 0 = .ok (.aload_n 0, 1) := by decide +kernel
theorem dX4_hasDeadline_1 : decode cX4_hasDeadline 1 = .ok (.getfield 9, 3) := by decide +kernel
theorem dX4_hasDeadline_4 : decode cX4_hasDeadline 4 = .ok (.iconst 1, 1) := by decide +kernel
theorem dX4_hasDeadline_5 : decode cX4_hasDeadline 5 = .ok (.if_icmp .eq 11, 3) := by decide +kernel
theorem dX4_hasDeadline_8 : decode cX4_hasDeadline 8 = .ok (.aload_n 0, 1) := by decide +kernel
theorem dX4_hasDeadline_9 : decode cX4_hasDeadline 9 = .ok (.getfield 9, 3) := by decide +kernel
theorem dX4_hasDeadline_12 : decode cX4_hasDeadline 12 = .ok (.iconst 2, 1) := by decide +kernel
theorem dX4_hasDeadline_13 : decode cX4_hasDeadline 13 = .ok (.if_icmp .ne 7, 3) := by decide +kernel
theorem dX4_hasDeadline_16 : decode cX4_hasDeadline 16 = .ok (.iconst 1, 1) := by decide +kernel
theorem dX4_hasDeadline_17 : decode cX4_hasDeadline 17 = .ok (.goto 4, 3) := by decide +kernel
theorem dX4_hasDeadline_20 : decode cX4_hasDeadline 20 = .ok (.iconst 0, 1) := by decide +kernel
theorem dX4_hasDeadline_21 : decode cX4_hasDeadline 21 = .ok (.ireturn, 1) := by decide +kernel
theorem dX4_isOf_0 : decode cX4_isOf 0 = .ok (.iload_n 1, 1) := by decide +kernel
theorem dX4_isOf_1 : decode cX4_isOf 1 = .ok (.ifCond .eq 37, 3) := by decide +kernel
theorem dX4_isOf_4 : decode cX4_isOf 4 = .ok (.iload_n 1, 1) := by decide +kernel
theorem dX4_isOf_5 : decode cX4_isOf 5 = .ok (.aload_n 0, 1) := by decide +kernel
theorem dX4_isOf_6 : decode cX4_isOf 6 = .ok (.getfield 9, 3) := by decide +kernel
theorem dX4_isOf_9 : decode cX4_isOf 9 = .ok (.if_icmp .eq 29, 3) := by decide +kernel
theorem dX4_isOf_12 : decode cX4_isOf 12 = .ok (.iload_n 1, 1) := by decide +kernel
theorem dX4_isOf_13 : decode cX4_isOf 13 = .ok (.iconst 1, 1) := by decide +kernel
theorem dX4_isOf_14 : decode cX4_isOf 14 = .ok (.if_icmp .ne 11, 3) := by decide +kernel
theorem dX4_isOf_17 : decode cX4_isOf 17 = .ok (.aload_n 0, 1) := by decide +kernel
theorem dX4_isOf_18 : decode cX4_isOf 18 = .ok (.getfield 9, 3) := by decide +kernel
theorem dX4_isOf_21 : decode cX4_isOf 21 = .ok (.iconst 2, 1) := by decide +kernel
theorem dX4_isOf_22 : decode cX4_isOf 22 = .ok (.if_icmp .eq 16, 3) := by decide +kernel
theorem dX4_isOf_25 : decode cX4_isOf 25 = .ok (.iload_n 1, 1) := by decide +kernel
theorem dX4_isOf_26 : decode cX4_isOf 26 = .ok (.iconst 3, 1) := by decide +kernel
theorem dX4_isOf_27 : decode cX4_isOf 27 = .ok (.if_icmp .ne 15, 3) := by decide +kernel
theorem dX4_isOf_30 : decode cX4_isOf 30 = .ok (.aload_n 0, 1) := by decide +kernel
theorem dX4_isOf_31 : decode cX4_isOf 31 = .ok (.getfield 9, 3) := by decide +kernel
theorem dX4_isOf_34 : decode cX4_isOf 34 = .ok (.iconst 4, 1) := by decide +kernel
theorem dX4_isOf_35 : decode cX4_isOf 35 = .ok (.if_icmp .ne 7, 3) := by decide +kernel
theorem dX4_isOf_38 : decode cX4_isOf 38 = .ok (.iconst 1, 1) := by decide +kernel
theorem dX4_isOf_39 : decode cX4_isOf 39 = .ok (.goto 4, 3) := by decide +kernel
theorem dX4_isOf_42 : decode cX4_isOf 42 = .ok (.iconst 0, 1) := by decide +kernel
theorem dX4_isOf_43 : decode cX4_isOf 43 = .ok (.ireturn, 1) := by decide +kernel
theorem dX4_rank_0 : decode cX4_rank 0 = .ok (.aload_n 0, 1) := by decide +kernel
theorem dX4_rank_1 : decode cX4_rank 1 = .ok (.getfield 55, 3) := by decide +kernel
theorem dX4_rank_4 : decode cX4_rank 4 = .ok (.ifCond .le 18, 3) := by decide +kernel
theorem dX4_rank_7 : decode cX4_rank 7 = .ok (.aload_n 0, 1) := by decide +kernel
theorem dX4_rank_8 : decode cX4_rank 8 = .ok (.getfield 52, 3) := by decide +kernel
theorem dX4_rank_11 : decode cX4_rank 11 = .ok (.i2l, 1) := by decide +kernel
theorem dX4_rank_12 : decode cX4_rank 12 = .ok (.bipush 8, 2) := by decide +kernel
theorem dX4_rank_14 : decode cX4_rank 14 = .ok (.lshl, 1) := by decide +kernel
theorem dX4_rank_15 : decode cX4_rank 15 = .ok (.aload_n 0, 1) := by decide +kernel
theorem dX4_rank_16 : decode cX4_rank 16 = .ok (.getfield 68, 3) := by decide +kernel
theorem dX4_rank_19 : decode cX4_rank 19 = .ok (.i2l, 1) := by decide +kernel
theorem dX4_rank_20 : decode cX4_rank 20 = .ok (.ladd, 1) := by decide +kernel
theorem dX4_rank_21 : decode cX4_rank 21 = .ok (.lreturn, 1) := by decide +kernel
theorem dX4_rank_22 : decode cX4_rank 22 = .ok (.ldc2_w 87, 3) := by decide +kernel
theorem dX4_rank_25 : decode cX4_rank 25 = .ok (.aload_n 0, 1) := by decide +kernel
theorem dX4_rank_26 : decode cX4_rank 26 = .ok (.getfield 21, 3) := by decide +kernel
theorem dX4_rank_29 : decode cX4_rank 29 = .ok (.bipush 8, 2) := by decide +kernel
theorem dX4_rank_31 : decode cX4_rank 31 = .ok (.lshl, 1) := by decide +kernel
theorem dX4_rank_32 : decode cX4_rank 32 = .ok (.ladd, 1) := by decide +kernel
theorem dX4_rank_33 : decode cX4_rank 33 = .ok (.aload_n 0, 1) := by decide +kernel
theorem dX4_rank_34 : decode cX4_rank 34 = .ok (.getfield 68, 3) := by decide +kernel
theorem dX4_rank_37 : decode cX4_rank 37 = .ok (.i2l, 1) := by decide +kernel
theorem dX4_rank_38 : decode cX4_rank 38 = .ok (.ladd, 1) := by decide +kernel
theorem dX4_rank_39 : decode cX4_rank 39 = .ok (.lreturn, 1) := by decide +kernel
theorem dX4_changeShare_0 : decode cX4_changeShare 0 = .ok (.aload_n 0, 1) := by decide +kernel
theorem dX4_changeShare_1 : decode cX4_changeShare 1 = .ok (.getfield 18, 3) := by decide +kernel
theorem dX4_changeShare_4 : decode cX4_changeShare 4 = .ok (.istore_n 2, 1) := by decide +kernel
theorem dX4_changeShare_5 : decode cX4_changeShare 5 = .ok (.aload_n 0, 1) := by decide +kernel
theorem dX4_changeShare_6 : decode cX4_changeShare 6 = .ok (.iload_n 1, 1) := by decide +kernel
theorem dX4_changeShare_7 : decode cX4_changeShare 7 = .ok (.putfield 18, 3) := by decide +kernel
theorem dX4_changeShare_10 : decode cX4_changeShare 10 = .ok (.aload_n 0, 1) := by decide +kernel
theorem dX4_changeShare_11 : decode cX4_changeShare 11 = .ok (.aload_n 0, 1) := by decide +kernel
theorem dX4_changeShare_12 : decode cX4_changeShare 12 = .ok (.getfield 25, 3) := by decide +kernel
theorem dX4_changeShare_15 : decode cX4_changeShare 15 = .ok (.iload_n 1, 1) := by decide +kernel
theorem dX4_changeShare_16 : decode cX4_changeShare 16 = .ok (.iconst 1, 1) := by decide +kernel
theorem dX4_changeShare_17 : decode cX4_changeShare 17 = .ok (.isub, 1) := by decide +kernel
theorem dX4_changeShare_18 : decode cX4_changeShare 18 = .ok (.invokestatic 89, 3) := by decide +kernel
theorem dX4_changeShare_21 : decode cX4_changeShare 21 = .ok (.putfield 25, 3) := by decide +kernel
theorem dX4_changeShare_24 : decode cX4_changeShare 24 = .ok (.iload_n 2, 1) := by decide +kernel
theorem dX4_changeShare_25 : decode cX4_changeShare 25 = .ok (.ireturn, 1) := by decide +kernel
theorem dX4_payOnce_0 : decode cX4_payOnce 0 = .ok (.aload_n 0, 1) := by decide +kernel
theorem dX4_payOnce_1 : decode cX4_payOnce 1 = .ok (.getfield 18, 3) := by decide +kernel
theorem dX4_payOnce_4 : decode cX4_payOnce 4 = .ok (.ifCond .le 38, 3) := by decide +kernel
theorem dX4_payOnce_7 : decode cX4_payOnce 7 = .ok (.sipush 1000, 3) := by decide +kernel
theorem dX4_payOnce_10 : decode cX4_payOnce 10 = .ok (.aload_n 0, 1) := by decide +kernel
theorem dX4_payOnce_11 : decode cX4_payOnce 11 = .ok (.getfield 25, 3) := by decide +kernel
theorem dX4_payOnce_14 : decode cX4_payOnce 14 = .ok (.iadd, 1) := by decide +kernel
theorem dX4_payOnce_15 : decode cX4_payOnce 15 = .ok (.istore_n 1, 1) := by decide +kernel
theorem dX4_payOnce_16 : decode cX4_payOnce 16 = .ok (.aload_n 0, 1) := by decide +kernel
theorem dX4_payOnce_17 : decode cX4_payOnce 17 = .ok (.dup, 1) := by decide +kernel
theorem dX4_payOnce_18 : decode cX4_payOnce 18 = .ok (.getfield 21, 3) := by decide +kernel
theorem dX4_payOnce_21 : decode cX4_payOnce 21 = .ok (.iload_n 1, 1) := by decide +kernel
theorem dX4_payOnce_22 : decode cX4_payOnce 22 = .ok (.aload_n 0, 1) := by decide +kernel
theorem dX4_payOnce_23 : decode cX4_payOnce 23 = .ok (.getfield 18, 3) := by decide +kernel
theorem dX4_payOnce_26 : decode cX4_payOnce 26 = .ok (.idiv, 1) := by decide +kernel
theorem dX4_payOnce_27 : decode cX4_payOnce 27 = .ok (.i2l, 1) := by decide +kernel
theorem dX4_payOnce_28 : decode cX4_payOnce 28 = .ok (.ladd, 1) := by decide +kernel
theorem dX4_payOnce_29 : decode cX4_payOnce 29 = .ok (.putfield 21, 3) := by decide +kernel
theorem dX4_payOnce_32 : decode cX4_payOnce 32 = .ok (.aload_n 0, 1) := by decide +kernel
theorem dX4_payOnce_33 : decode cX4_payOnce 33 = .ok (.iload_n 1, 1) := by decide +kernel
theorem dX4_payOnce_34 : decode cX4_payOnce 34 = .ok (.aload_n 0, 1) := by decide +kernel
theorem dX4_payOnce_35 : decode cX4_payOnce 35 = .ok (.getfield 18, 3) := by decide +kernel
theorem dX4_payOnce_38 : decode cX4_payOnce 38 = .ok (.irem, 1) := by decide +kernel
theorem dX4_payOnce_39 : decode cX4_payOnce 39 = .ok (.putfield 25, 3) := by decide +kernel
theorem dX4_payOnce_42 : decode cX4_payOnce 42 = .ok (.return_, 1) := by decide +kernel
theorem dX4_paymentsBehind_0 : decode cX4_paymentsBehind 0 = .ok (.lload_n 1, 1) := by decide +kernel
theorem dX4_paymentsBehind_1 : decode cX4_paymentsBehind 1 = .ok (.invokestatic 95, 3) := by decide +kernel
theorem dX4_paymentsBehind_4 : decode cX4_paymentsBehind 4 = .ok (.aload_n 0, 1) := by decide +kernel
theorem dX4_paymentsBehind_5 : decode cX4_paymentsBehind 5 = .ok (.getfield 68, 3) := by decide +kernel
theorem dX4_paymentsBehind_8 : decode cX4_paymentsBehind 8 = .ok (.lload_n 1, 1) := by decide +kernel
theorem dX4_paymentsBehind_9 : decode cX4_paymentsBehind 9 = .ok (.invokestatic 99, 3) := by decide +kernel
theorem dX4_paymentsBehind_12 : decode cX4_paymentsBehind 12 = .ok (.if_icmp .le 7, 3) := by decide +kernel
theorem dX4_paymentsBehind_15 : decode cX4_paymentsBehind 15 = .ok (.iconst 0, 1) := by decide +kernel
theorem dX4_paymentsBehind_16 : decode cX4_paymentsBehind 16 = .ok (.goto 4, 3) := by decide +kernel
theorem dX4_paymentsBehind_19 : decode cX4_paymentsBehind 19 = .ok (.iconst 1, 1) := by decide +kernel
theorem dX4_paymentsBehind_20 : decode cX4_paymentsBehind 20 = .ok (.i2l, 1) := by decide +kernel
theorem dX4_paymentsBehind_21 : decode cX4_paymentsBehind 21 = .ok (.ladd, 1) := by decide +kernel
theorem dX4_paymentsBehind_22 : decode cX4_paymentsBehind 22 = .ok (.lstore_n 3, 1) := by decide +kernel
theorem dX4_paymentsBehind_23 : decode cX4_paymentsBehind 23 = .ok (.aload_n 0, 1) := by decide +kernel
theorem dX4_paymentsBehind_24 : decode cX4_paymentsBehind 24 = .ok (.getfield 21, 3) := by decide +kernel
theorem dX4_paymentsBehind_27 : decode cX4_paymentsBehind 27 = .ok (.lload_n 3, 1) := by decide +kernel
theorem dX4_paymentsBehind_28 : decode cX4_paymentsBehind 28 = .ok (.lcmp, 1) := by decide +kernel
theorem dX4_paymentsBehind_29 : decode cX4_paymentsBehind 29 = .ok (.ifCond .lt 7, 3) := by decide +kernel
theorem dX4_paymentsBehind_32 : decode cX4_paymentsBehind 32 = .ok (.lconst 0, 1) := by decide +kernel
theorem dX4_paymentsBehind_33 : decode cX4_paymentsBehind 33 = .ok (.goto 29, 3) := by decide +kernel
theorem dX4_paymentsBehind_36 : decode cX4_paymentsBehind 36 = .ok (.lload_n 3, 1) := by decide +kernel
theorem dX4_paymentsBehind_37 : decode cX4_paymentsBehind 37 = .ok (.aload_n 0, 1) := by decide +kernel
theorem dX4_paymentsBehind_38 : decode cX4_paymentsBehind 38 = .ok (.getfield 21, 3) := by decide +kernel
theorem dX4_paymentsBehind_41 : decode cX4_paymentsBehind 41 = .ok (.lsub, 1) := by decide +kernel
theorem dX4_paymentsBehind_42 : decode cX4_paymentsBehind 42 = .ok (.aload_n 0, 1) := by decide +kernel
theorem dX4_paymentsBehind_43 : decode cX4_paymentsBehind 43 = .ok (.getfield 18, 3) := by decide +kernel
theorem dX4_paymentsBehind_46 : decode cX4_paymentsBehind 46 = .ok (.i2l, 1) := by decide +kernel
theorem dX4_paymentsBehind_47 : decode cX4_paymentsBehind 47 = .ok (.lmul, 1) := by decide +kernel
theorem dX4_paymentsBehind_48 : decode cX4_paymentsBehind 48 = .ok (.aload_n 0, 1) := by decide +kernel
theorem dX4_paymentsBehind_49 : decode cX4_paymentsBehind 49 = .ok (.getfield 25, 3) := by decide +kernel
theorem dX4_paymentsBehind_52 : decode cX4_paymentsBehind 52 = .ok (.i2l, 1) := by decide +kernel
theorem dX4_paymentsBehind_53 : decode cX4_paymentsBehind 53 = .ok (.lsub, 1) := by decide +kernel
theorem dX4_paymentsBehind_54 : decode cX4_paymentsBehind 54 = .ok (.ldc2_w 103, 3) := by decide +kernel
theorem dX4_paymentsBehind_57 : decode cX4_paymentsBehind 57 = .ok (.ladd, 1) := by decide +kernel
theorem dX4_paymentsBehind_58 : decode cX4_paymentsBehind 58 = .ok (.ldc2_w 105, 3) := by decide +kernel
theorem dX4_paymentsBehind_61 : decode cX4_paymentsBehind 61 = .ok (.ldiv, 1) := by decide +kernel
theorem dX4_paymentsBehind_62 : decode cX4_paymentsBehind 62 = .ok (.lreturn, 1) := by decide +kernel
theorem dX4_wake_0 : decode cX4_wake 0 = .ok (.aload_n 0, 1) := by decide +kernel
theorem dX4_wake_1 : decode cX4_wake 1 = .ok (.iconst 0, 1) := by decide +kernel
theorem dX4_wake_2 : decode cX4_wake 2 = .ok (.putfield 34, 3) := by decide +kernel
theorem dX4_wake_5 : decode cX4_wake 5 = .ok (.aload_n 0, 1) := by decide +kernel
theorem dX4_wake_6 : decode cX4_wake 6 = .ok (.iconst (-1), 1) := by decide +kernel
theorem dX4_wake_7 : decode cX4_wake 7 = .ok (.putfield 37, 3) := by decide +kernel
theorem dX4_wake_10 : decode cX4_wake 10 = .ok (.aload_n 0, 1) := by decide +kernel
theorem dX4_wake_11 : decode cX4_wake 11 = .ok (.iconst (-1), 1) := by decide +kernel
theorem dX4_wake_12 : decode cX4_wake 12 = .ok (.putfield 40, 3) := by decide +kernel
theorem dX4_wake_15 : decode cX4_wake 15 = .ok (.return_, 1) := by decide +kernel
theorem dX4_makeShorts_0 : decode cX4_makeShorts 0 = .ok (.aload_n 0, 1) := by decide +kernel
theorem dX4_makeShorts_1 : decode cX4_makeShorts 1 = .ok (.getfield 61, 3) := by decide +kernel
theorem dX4_makeShorts_4 : decode cX4_makeShorts 4 = .ok (.ifnonnull 11, 3) := by decide +kernel
theorem dX4_makeShorts_7 : decode cX4_makeShorts 7 = .ok (.aload_n 0, 1) := by decide +kernel
theorem dX4_makeShorts_8 : decode cX4_makeShorts 8 = .ok (.bipush 127, 2) := by decide +kernel
theorem dX4_makeShorts_10 : decode cX4_makeShorts 10 = .ok (.newarray .short, 2) := by decide +kernel
theorem dX4_makeShorts_12 : decode cX4_makeShorts 12 = .ok (.putfield 61, 3) := by decide +kernel
theorem dX4_makeShorts_15 : decode cX4_makeShorts 15 = .ok (.aload_n 0, 1) := by decide +kernel
theorem dX4_makeShorts_16 : decode cX4_makeShorts 16 = .ok (.getfield 61, 3) := by decide +kernel
theorem dX4_makeShorts_19 : decode cX4_makeShorts 19 = .ok (.iconst 0, 1) := by decide +kernel
theorem dX4_makeShorts_20 : decode cX4_makeShorts 20 = .ok (.invokestatic 107, 3) := by decide +kernel
theorem dX4_makeShorts_23 : decode cX4_makeShorts 23 = .ok (.aload_n 0, 1) := by decide +kernel
theorem dX4_makeShorts_24 : decode cX4_makeShorts 24 = .ok (.iload_n 1, 1) := by decide +kernel
theorem dX4_makeShorts_25 : decode cX4_makeShorts 25 = .ok (.putfield 58, 3) := by decide +kernel
theorem dX4_makeShorts_28 : decode cX4_makeShorts 28 = .ok (.return_, 1) := by decide +kernel
theorem dX4_hasShort_0 : decode cX4_hasShort 0 = .ok (.aload_n 0, 1) := by decide +kernel
theorem dX4_hasShort_1 : decode cX4_hasShort 1 = .ok (.getfield 61, 3) := by decide +kernel
theorem dX4_hasShort_4 : decode cX4_hasShort 4 = .ok (.ifnull 28, 3) := by decide +kernel
theorem dX4_hasShort_7 : decode cX4_hasShort 7 = .ok (.iload_n 1, 1) := by decide +kernel
theorem dX4_hasShort_8 : decode cX4_hasShort 8 = .ok (.ifCond .lt 24, 3) := by decide +kernel
theorem dX4_hasShort_11 : decode cX4_hasShort 11 = .ok (.iload_n 1, 1) := by decide +kernel
theorem dX4_hasShort_12 : decode cX4_hasShort 12 = .ok (.aload_n 0, 1) := by decide +kernel
theorem dX4_hasShort_13 : decode cX4_hasShort 13 = .ok (.getfield 58, 3) := by decide +kernel
theorem dX4_hasShort_16 : decode cX4_hasShort 16 = .ok (.if_icmp .ge 16, 3) := by decide +kernel
theorem dX4_hasShort_19 : decode cX4_hasShort 19 = .ok (.iload_n 1, 1) := by decide +kernel
theorem dX4_hasShort_20 : decode cX4_hasShort 20 = .ok (.aload_n 0, 1) := by decide +kernel
theorem dX4_hasShort_21 : decode cX4_hasShort 21 = .ok (.getfield 61, 3) := by decide +kernel
theorem dX4_hasShort_24 : decode cX4_hasShort 24 = .ok (.arraylength, 1) := by decide +kernel
theorem dX4_hasShort_25 : decode cX4_hasShort 25 = .ok (.if_icmp .ge 7, 3) := by decide +kernel
theorem dX4_hasShort_28 : decode cX4_hasShort 28 = .ok (.iconst 1, 1) := by decide +kernel
theorem dX4_hasShort_29 : decode cX4_hasShort 29 = .ok (.goto 4, 3) := by decide +kernel
theorem dX4_hasShort_32 : decode cX4_hasShort 32 = .ok (.iconst 0, 1) := by decide +kernel
theorem dX4_hasShort_33 : decode cX4_hasShort 33 = .ok (.ireturn, 1) := by decide +kernel
theorem dX4_shortAt_0 : decode cX4_shortAt 0 = .ok (.aload_n 0, 1) := by decide +kernel
theorem dX4_shortAt_1 : decode cX4_shortAt 1 = .ok (.iload_n 1, 1) := by decide +kernel
theorem dX4_shortAt_2 : decode cX4_shortAt 2 = .ok (.invokevirtual 113, 3) := by decide +kernel
theorem dX4_shortAt_5 : decode cX4_shortAt 5 = .ok (.ifCond .eq 12, 3) := by decide +kernel
theorem dX4_shortAt_8 : decode cX4_shortAt 8 = .ok (.aload_n 0, 1) := by decide +kernel
theorem dX4_shortAt_9 : decode cX4_shortAt 9 = .ok (.getfield 61, 3) := by decide +kernel
theorem dX4_shortAt_12 : decode cX4_shortAt 12 = .ok (.iload_n 1, 1) := by decide +kernel
theorem dX4_shortAt_13 : decode cX4_shortAt 13 = .ok (.saload, 1) := by decide +kernel
theorem dX4_shortAt_14 : decode cX4_shortAt 14 = .ok (.goto 4, 3) := by decide +kernel
theorem dX4_shortAt_17 : decode cX4_shortAt 17 = .ok (.iconst 0, 1) := by decide +kernel
theorem dX4_shortAt_18 : decode cX4_shortAt 18 = .ok (.ireturn, 1) := by decide +kernel
theorem dX4_setShort_0 : decode cX4_setShort 0 = .ok (.aload_n 0, 1) := by decide +kernel
theorem dX4_setShort_1 : decode cX4_setShort 1 = .ok (.iload_n 1, 1) := by decide +kernel
theorem dX4_setShort_2 : decode cX4_setShort 2 = .ok (.invokevirtual 113, 3) := by decide +kernel
theorem dX4_setShort_5 : decode cX4_setShort 5 = .ok (.ifCond .eq 11, 3) := by decide +kernel
theorem dX4_setShort_8 : decode cX4_setShort 8 = .ok (.aload_n 0, 1) := by decide +kernel
theorem dX4_setShort_9 : decode cX4_setShort 9 = .ok (.getfield 61, 3) := by decide +kernel
theorem dX4_setShort_12 : decode cX4_setShort 12 = .ok (.iload_n 1, 1) := by decide +kernel
theorem dX4_setShort_13 : decode cX4_setShort 13 = .ok (.iload_n 2, 1) := by decide +kernel
theorem dX4_setShort_14 : decode cX4_setShort 14 = .ok (.i2s, 1) := by decide +kernel
theorem dX4_setShort_15 : decode cX4_setShort 15 = .ok (.sastore, 1) := by decide +kernel
theorem dX4_setShort_16 : decode cX4_setShort 16 = .ok (.return_, 1) := by decide +kernel
theorem dX4_tell_0 : decode cX4_tell 0 = .ok (.iload_n 1, 1) := by decide +kernel
theorem dX4_tell_1 : decode cX4_tell 1 = .ok (.tableswitch 194 0 14 #[75, 80, 85, 90, 95, 100, 105, 110, 115, 120, 125, 141, 157, 173, 189], 75) := by decide +kernel
theorem dX4_tell_76 : decode cX4_tell 76 = .ok (.aload_n 0, 1) := by decide +kernel
theorem dX4_tell_77 : decode cX4_tell 77 = .ok (.getfield 9, 3) := by decide +kernel
theorem dX4_tell_80 : decode cX4_tell 80 = .ok (.ireturn, 1) := by decide +kernel
theorem dX4_tell_81 : decode cX4_tell 81 = .ok (.aload_n 0, 1) := by decide +kernel
theorem dX4_tell_82 : decode cX4_tell 82 = .ok (.getfield 15, 3) := by decide +kernel
theorem dX4_tell_85 : decode cX4_tell 85 = .ok (.ireturn, 1) := by decide +kernel
theorem dX4_tell_86 : decode cX4_tell 86 = .ok (.aload_n 0, 1) := by decide +kernel
theorem dX4_tell_87 : decode cX4_tell 87 = .ok (.getfield 18, 3) := by decide +kernel
theorem dX4_tell_90 : decode cX4_tell 90 = .ok (.ireturn, 1) := by decide +kernel
theorem dX4_tell_91 : decode cX4_tell 91 = .ok (.aload_n 0, 1) := by decide +kernel
theorem dX4_tell_92 : decode cX4_tell 92 = .ok (.getfield 25, 3) := by decide +kernel
theorem dX4_tell_95 : decode cX4_tell 95 = .ok (.ireturn, 1) := by decide +kernel
theorem dX4_tell_96 : decode cX4_tell 96 = .ok (.aload_n 0, 1) := by decide +kernel
theorem dX4_tell_97 : decode cX4_tell 97 = .ok (.getfield 28, 3) := by decide +kernel
theorem dX4_tell_100 : decode cX4_tell 100 = .ok (.ireturn, 1) := by decide +kernel
theorem dX4_tell_101 : decode cX4_tell 101 = .ok (.aload_n 0, 1) := by decide +kernel
theorem dX4_tell_102 : decode cX4_tell 102 = .ok (.getfield 31, 3) := by decide +kernel
theorem dX4_tell_105 : decode cX4_tell 105 = .ok (.ireturn, 1) := by decide +kernel
theorem dX4_tell_106 : decode cX4_tell 106 = .ok (.aload_n 0, 1) := by decide +kernel
theorem dX4_tell_107 : decode cX4_tell 107 = .ok (.getfield 34, 3) := by decide +kernel
theorem dX4_tell_110 : decode cX4_tell 110 = .ok (.ireturn, 1) := by decide +kernel
theorem dX4_tell_111 : decode cX4_tell 111 = .ok (.aload_n 0, 1) := by decide +kernel
theorem dX4_tell_112 : decode cX4_tell 112 = .ok (.getfield 37, 3) := by decide +kernel
theorem dX4_tell_115 : decode cX4_tell 115 = .ok (.ireturn, 1) := by decide +kernel
theorem dX4_tell_116 : decode cX4_tell 116 = .ok (.aload_n 0, 1) := by decide +kernel
theorem dX4_tell_117 : decode cX4_tell 117 = .ok (.getfield 40, 3) := by decide +kernel
theorem dX4_tell_120 : decode cX4_tell 120 = .ok (.ireturn, 1) := by decide +kernel
theorem dX4_tell_121 : decode cX4_tell 121 = .ok (.aload_n 0, 1) := by decide +kernel
theorem dX4_tell_122 : decode cX4_tell 122 = .ok (.getfield 43, 3) := by decide +kernel
theorem dX4_tell_125 : decode cX4_tell 125 = .ok (.ireturn, 1) := by decide +kernel
theorem dX4_tell_126 : decode cX4_tell 126 = .ok (.aload_n 0, 1) := by decide +kernel
theorem dX4_tell_127 : decode cX4_tell 127 = .ok (.invokevirtual 117, 3) := by decide +kernel
theorem dX4_tell_130 : decode cX4_tell 130 = .ok (.ifCond .eq 10, 3) := by decide +kernel
theorem dX4_tell_133 : decode cX4_tell 133 = .ok (.aload_n 0, 1) := by decide +kernel
theorem dX4_tell_134 : decode cX4_tell 134 = .ok (.getfield 46, 3) := by decide +kernel
theorem dX4_tell_137 : decode cX4_tell 137 = .ok (.goto 4, 3) := by decide +kernel
theorem dX4_tell_140 : decode cX4_tell 140 = .ok (.iconst (-1), 1) := by decide +kernel
theorem dX4_tell_141 : decode cX4_tell 141 = .ok (.ireturn, 1) := by decide +kernel
theorem dX4_tell_142 : decode cX4_tell 142 = .ok (.aload_n 0, 1) := by decide +kernel
theorem dX4_tell_143 : decode cX4_tell 143 = .ok (.invokevirtual 117, 3) := by decide +kernel
theorem dX4_tell_146 : decode cX4_tell 146 = .ok (.ifCond .eq 10, 3) := by decide +kernel
theorem dX4_tell_149 : decode cX4_tell 149 = .ok (.aload_n 0, 1) := by decide +kernel
theorem dX4_tell_150 : decode cX4_tell 150 = .ok (.getfield 49, 3) := by decide +kernel
theorem dX4_tell_153 : decode cX4_tell 153 = .ok (.goto 4, 3) := by decide +kernel
theorem dX4_tell_156 : decode cX4_tell 156 = .ok (.iconst (-1), 1) := by decide +kernel
theorem dX4_tell_157 : decode cX4_tell 157 = .ok (.ireturn, 1) := by decide +kernel
theorem dX4_tell_158 : decode cX4_tell 158 = .ok (.aload_n 0, 1) := by decide +kernel
theorem dX4_tell_159 : decode cX4_tell 159 = .ok (.invokevirtual 117, 3) := by decide +kernel
theorem dX4_tell_162 : decode cX4_tell 162 = .ok (.ifCond .eq 10, 3) := by decide +kernel
theorem dX4_tell_165 : decode cX4_tell 165 = .ok (.aload_n 0, 1) := by decide +kernel
theorem dX4_tell_166 : decode cX4_tell 166 = .ok (.getfield 52, 3) := by decide +kernel
theorem dX4_tell_169 : decode cX4_tell 169 = .ok (.goto 4, 3) := by decide +kernel
theorem dX4_tell_172 : decode cX4_tell 172 = .ok (.iconst (-1), 1) := by decide +kernel
theorem dX4_tell_173 : decode cX4_tell 173 = .ok (.ireturn, 1) := by decide +kernel
theorem dX4_tell_174 : decode cX4_tell 174 = .ok (.aload_n 0, 1) := by decide +kernel
theorem dX4_tell_175 : decode cX4_tell 175 = .ok (.invokevirtual 117, 3) := by decide +kernel
theorem dX4_tell_178 : decode cX4_tell 178 = .ok (.ifCond .eq 10, 3) := by decide +kernel
theorem dX4_tell_181 : decode cX4_tell 181 = .ok (.aload_n 0, 1) := by decide +kernel
theorem dX4_tell_182 : decode cX4_tell 182 = .ok (.getfield 55, 3) := by decide +kernel
theorem dX4_tell_185 : decode cX4_tell 185 = .ok (.goto 4, 3) := by decide +kernel
theorem dX4_tell_188 : decode cX4_tell 188 = .ok (.iconst (-1), 1) := by decide +kernel
theorem dX4_tell_189 : decode cX4_tell 189 = .ok (.ireturn, 1) := by decide +kernel
theorem dX4_tell_190 : decode cX4_tell 190 = .ok (.aload_n 0, 1) := by decide +kernel
theorem dX4_tell_191 : decode cX4_tell 191 = .ok (.getfield 58, 3) := by decide +kernel
theorem dX4_tell_194 : decode cX4_tell 194 = .ok (.ireturn, 1) := by decide +kernel
theorem dX4_tell_195 : decode cX4_tell 195 = .ok (.iconst (-1), 1) := by decide +kernel
theorem dX4_tell_196 : decode cX4_tell 196 = .ok (.ireturn, 1) := by decide +kernel
theorem dX5_init_0 : decode cX5_init 0 = .ok (.aload_n 0, 1) := by decide +kernel
theorem dX5_init_1 : decode cX5_init 1 = .ok (.invokespecial 3, 3) := by decide +kernel
theorem dX5_init_4 : decode cX5_init 4 = .ok (.aload_n 0, 1) := by decide +kernel
theorem dX5_init_5 : decode cX5_init 5 = .ok (.new 9, 3) := by decide +kernel
theorem dX5_init_8 : decode cX5_init 8 = .ok (.dup, 1) := by decide +kernel
theorem dX5_init_9 : decode cX5_init 9 = .ok (.invokespecial 11, 3) := by decide +kernel
theorem dX5_init_12 : decode cX5_init 12 = .ok (.putfield 12, 3) := by decide +kernel
theorem dX5_init_15 : decode cX5_init 15 = .ok (.aload_n 0, 1) := by decide +kernel
theorem dX5_init_16 : decode cX5_init 16 = .ok (.new 16, 3) := by decide +kernel
theorem dX5_init_19 : decode cX5_init 19 = .ok (.dup, 1) := by decide +kernel
theorem dX5_init_20 : decode cX5_init 20 = .ok (.invokespecial 18, 3) := by decide +kernel
theorem dX5_init_23 : decode cX5_init 23 = .ok (.putfield 19, 3) := by decide +kernel
theorem dX5_init_26 : decode cX5_init 26 = .ok (.aload_n 0, 1) := by decide +kernel
theorem dX5_init_27 : decode cX5_init 27 = .ok (.aconst_null, 1) := by decide +kernel
theorem dX5_init_28 : decode cX5_init 28 = .ok (.putfield 23, 3) := by decide +kernel
theorem dX5_init_31 : decode cX5_init 31 = .ok (.aload_n 0, 1) := by decide +kernel
theorem dX5_init_32 : decode cX5_init 32 = .ok (.aconst_null, 1) := by decide +kernel
theorem dX5_init_33 : decode cX5_init 33 = .ok (.putfield 26, 3) := by decide +kernel
theorem dX5_init_36 : decode cX5_init 36 = .ok (.aload_n 0, 1) := by decide +kernel
theorem dX5_init_37 : decode cX5_init 37 = .ok (.aconst_null, 1) := by decide +kernel
theorem dX5_init_38 : decode cX5_init 38 = .ok (.putfield 29, 3) := by decide +kernel
theorem dX5_init_41 : decode cX5_init 41 = .ok (.aload_n 0, 1) := by decide +kernel
theorem dX5_init_42 : decode cX5_init 42 = .ok (.iconst 0, 1) := by decide +kernel
theorem dX5_init_43 : decode cX5_init 43 = .ok (.putfield 32, 3) := by decide +kernel
theorem dX5_init_46 : decode cX5_init 46 = .ok (.aload_n 0, 1) := by decide +kernel
theorem dX5_init_47 : decode cX5_init 47 = .ok (.iconst (-1), 1) := by decide +kernel
theorem dX5_init_48 : decode cX5_init 48 = .ok (.putfield 36, 3) := by decide +kernel
theorem dX5_init_51 : decode cX5_init 51 = .ok (.return_, 1) := by decide +kernel
theorem dX5_program_0 : decode cX5_program 0 = .ok (.aload_n 0, 1) := by decide +kernel
theorem dX5_program_1 : decode cX5_program 1 = .ok (.getfield 12, 3) := by decide +kernel
theorem dX5_program_4 : decode cX5_program 4 = .ok (.iload_n 1, 1) := by decide +kernel
theorem dX5_program_5 : decode cX5_program 5 = .ok (.invokevirtual 39, 3) := by decide +kernel
theorem dX5_program_8 : decode cX5_program 8 = .ok (.astore 5, 2) := by decide +kernel
theorem dX5_program_10 : decode cX5_program 10 = .ok (.aload 5, 2) := by decide +kernel
theorem dX5_program_12 : decode cX5_program 12 = .ok (.ifnull 15, 3) := by decide +kernel
theorem dX5_program_15 : decode cX5_program 15 = .ok (.iload 4, 2) := by decide +kernel
theorem dX5_program_17 : decode cX5_program 17 = .ok (.ifCond .lt 10, 3) := by decide +kernel
theorem dX5_program_20 : decode cX5_program 20 = .ok (.iload 4, 2) := by decide +kernel
theorem dX5_program_22 : decode cX5_program 22 = .ok (.bipush 8, 2) := by decide +kernel
theorem dX5_program_24 : decode cX5_program 24 = .ok (.if_icmp .le 9, 3) := by decide +kernel
theorem dX5_program_27 : decode cX5_program 27 = .ok (.aload_n 0, 1) := by decide +kernel
theorem dX5_program_28 : decode cX5_program 28 = .ok (.iconst 1, 1) := by decide +kernel
theorem dX5_program_29 : decode cX5_program 29 = .ok (.invokevirtual 43, 3) := by decide +kernel
theorem dX5_program_32 : decode cX5_program 32 = .ok (.ireturn, 1) := by decide +kernel
theorem dX5_program_33 : decode cX5_program 33 = .ok (.aload 5, 2) := by decide +kernel
theorem dX5_program_35 : decode cX5_program 35 = .ok (.invokevirtual 47, 3) := by decide +kernel
theorem dX5_program_38 : decode cX5_program 38 = .ok (.iload 4, 2) := by decide +kernel
theorem dX5_program_40 : decode cX5_program 40 = .ok (.iadd, 1) := by decide +kernel
theorem dX5_program_41 : decode cX5_program 41 = .ok (.sipush 1000, 3) := by decide +kernel
theorem dX5_program_44 : decode cX5_program 44 = .ok (.if_icmp .le 9, 3) := by decide +kernel
theorem dX5_program_47 : decode cX5_program 47 = .ok (.aload_n 0, 1) := by decide +kernel
theorem dX5_program_48 : decode cX5_program 48 = .ok (.iconst 2, 1) := by decide +kernel
theorem dX5_program_49 : decode cX5_program 49 = .ok (.invokevirtual 43, 3) := by decide +kernel
theorem dX5_program_52 : decode cX5_program 52 = .ok (.ireturn, 1) := by decide +kernel
theorem dX5_program_53 : decode cX5_program 53 = .ok (.aload_n 0, 1) := by decide +kernel
theorem dX5_program_54 : decode cX5_program 54 = .ok (.iconst 0, 1) := by decide +kernel
theorem dX5_program_55 : decode cX5_program 55 = .ok (.iload_n 1, 1) := by decide +kernel
theorem dX5_program_56 : decode cX5_program 56 = .ok (.i2l, 1) := by decide +kernel
theorem dX5_program_57 : decode cX5_program 57 = .ok (.lload_n 2, 1) := by decide +kernel
theorem dX5_program_58 : decode cX5_program 58 = .ok (.iload 4, 2) := by decide +kernel
theorem dX5_program_60 : decode cX5_program 60 = .ok (.i2l, 1) := by decide +kernel
theorem dX5_program_61 : decode cX5_program 61 = .ok (.invokevirtual 53, 3) := by decide +kernel
theorem dX5_program_64 : decode cX5_program 64 = .ok (.ifCond .eq 14, 3) := by decide +kernel
theorem dX5_program_67 : decode cX5_program 67 = .ok (.aload 5, 2) := by decide +kernel
theorem dX5_program_69 : decode cX5_program 69 = .ok (.lload_n 2, 1) := by decide +kernel
theorem dX5_program_70 : decode cX5_program 70 = .ok (.iload 4, 2) := by decide +kernel
theorem dX5_program_72 : decode cX5_program 72 = .ok (.invokevirtual 57, 3) := by decide +kernel
theorem dX5_program_75 : decode cX5_program 75 = .ok (.goto 4, 3) := by decide +kernel
theorem dX5_program_78 : decode cX5_program 78 = .ok (.iconst (-1), 1) := by decide +kernel
theorem dX5_program_79 : decode cX5_program 79 = .ok (.ireturn, 1) := by decide +kernel
theorem dX5_task_0 : decode cX5_task 0 = .ok (.iload_n 1, 1) := by decide +kernel
theorem dX5_task_1 : decode cX5_task 1 = .ok (.ifCond .lt 25, 3) := by decide +kernel
theorem dX5_task_4 : decode cX5_task 4 = .ok (.iload_n 1, 1) := by decide +kernel
theorem dX5_task_5 : decode cX5_task 5 = .ok (.iconst 4, 1) := by decide +kernel
theorem dX5_task_6 : decode cX5_task 6 = .ok (.if_icmp .gt 20, 3) := by decide +kernel
theorem dX5_task_9 : decode cX5_task 9 = .ok (.iload_n 2, 1) := by decide +kernel
theorem dX5_task_10 : decode cX5_task 10 = .ok (.ifCond .lt 16, 3) := by decide +kernel
theorem dX5_task_13 : decode cX5_task 13 = .ok (.iload_n 2, 1) := by decide +kernel
theorem dX5_task_14 : decode cX5_task 14 = .ok (.bipush 32, 2) := by decide +kernel
theorem dX5_task_16 : decode cX5_task 16 = .ok (.if_icmp .ge 10, 3) := by decide +kernel
theorem dX5_task_19 : decode cX5_task 19 = .ok (.iload_n 3, 1) := by decide +kernel
theorem dX5_task_20 : decode cX5_task 20 = .ok (.invokestatic 61, 3) := by decide +kernel
theorem dX5_task_23 : decode cX5_task 23 = .ok (.ifCond .ne 9, 3) := by decide +kernel
theorem dX5_task_26 : decode cX5_task 26 = .ok (.aload_n 0, 1) := by decide +kernel
theorem dX5_task_27 : decode cX5_task 27 = .ok (.iconst 1, 1) := by decide +kernel
theorem dX5_task_28 : decode cX5_task 28 = .ok (.invokevirtual 43, 3) := by decide +kernel
theorem dX5_task_31 : decode cX5_task 31 = .ok (.ireturn, 1) := by decide +kernel
theorem dX5_task_32 : decode cX5_task 32 = .ok (.aload_n 0, 1) := by decide +kernel
theorem dX5_task_33 : decode cX5_task 33 = .ok (.getfield 12, 3) := by decide +kernel
theorem dX5_task_36 : decode cX5_task 36 = .ok (.getfield 65, 3) := by decide +kernel
theorem dX5_task_39 : decode cX5_task 39 = .ok (.sipush 200, 3) := by decide +kernel
theorem dX5_task_42 : decode cX5_task 42 = .ok (.if_icmp .lt 9, 3) := by decide +kernel
theorem dX5_task_45 : decode cX5_task 45 = .ok (.aload_n 0, 1) := by decide +kernel
theorem dX5_task_46 : decode cX5_task 46 = .ok (.iconst 2, 1) := by decide +kernel
theorem dX5_task_47 : decode cX5_task 47 = .ok (.invokevirtual 43, 3) := by decide +kernel
theorem dX5_task_50 : decode cX5_task 50 = .ok (.ireturn, 1) := by decide +kernel
theorem dX5_task_51 : decode cX5_task 51 = .ok (.aload_n 0, 1) := by decide +kernel
theorem dX5_task_52 : decode cX5_task 52 = .ok (.iconst 1, 1) := by decide +kernel
theorem dX5_task_53 : decode cX5_task 53 = .ok (.iload_n 1, 1) := by decide +kernel
theorem dX5_task_54 : decode cX5_task 54 = .ok (.i2l, 1) := by decide +kernel
theorem dX5_task_55 : decode cX5_task 55 = .ok (.iload_n 2, 1) := by decide +kernel
theorem dX5_task_56 : decode cX5_task 56 = .ok (.i2l, 1) := by decide +kernel
theorem dX5_task_57 : decode cX5_task 57 = .ok (.iload_n 3, 1) := by decide +kernel
theorem dX5_task_58 : decode cX5_task 58 = .ok (.i2l, 1) := by decide +kernel
theorem dX5_task_59 : decode cX5_task 59 = .ok (.invokevirtual 53, 3) := by decide +kernel
theorem dX5_task_62 : decode cX5_task 62 = .ok (.ifCond .eq 16, 3) := by decide +kernel
theorem dX5_task_65 : decode cX5_task 65 = .ok (.aload_n 0, 1) := by decide +kernel
theorem dX5_task_66 : decode cX5_task 66 = .ok (.getfield 12, 3) := by decide +kernel
theorem dX5_task_69 : decode cX5_task 69 = .ok (.iload_n 1, 1) := by decide +kernel
theorem dX5_task_70 : decode cX5_task 70 = .ok (.iload_n 2, 1) := by decide +kernel
theorem dX5_task_71 : decode cX5_task 71 = .ok (.iload_n 3, 1) := by decide +kernel
theorem dX5_task_72 : decode cX5_task 72 = .ok (.invokevirtual 68, 3) := by decide +kernel
theorem dX5_task_75 : decode cX5_task 75 = .ok (.goto 4, 3) := by decide +kernel
theorem dX5_task_78 : decode cX5_task 78 = .ok (.iconst (-1), 1) := by decide +kernel
theorem dX5_task_79 : decode cX5_task 79 = .ok (.ireturn, 1) := by decide +kernel
theorem dX5_share_0 : decode cX5_share 0 = .ok (.aload_n 0, 1) := by decide +kernel
theorem dX5_share_1 : decode cX5_share 1 = .ok (.getfield 12, 3) := by decide +kernel
theorem dX5_share_4 : decode cX5_share 4 = .ok (.iload_n 1, 1) := by decide +kernel
theorem dX5_share_5 : decode cX5_share 5 = .ok (.invokevirtual 72, 3) := by decide +kernel
theorem dX5_share_8 : decode cX5_share 8 = .ok (.astore_n 3, 1) := by decide +kernel
theorem dX5_share_9 : decode cX5_share 9 = .ok (.aload_n 3, 1) := by decide +kernel
theorem dX5_share_10 : decode cX5_share 10 = .ok (.ifnonnull 9, 3) := by decide +kernel
theorem dX5_share_13 : decode cX5_share 13 = .ok (.aload_n 0, 1) := by decide +kernel
theorem dX5_share_14 : decode cX5_share 14 = .ok (.iconst 3, 1) := by decide +kernel
theorem dX5_share_15 : decode cX5_share 15 = .ok (.invokevirtual 43, 3) := by decide +kernel
theorem dX5_share_18 : decode cX5_share 18 = .ok (.ireturn, 1) := by decide +kernel
theorem dX5_share_19 : decode cX5_share 19 = .ok (.iload_n 2, 1) := by decide +kernel
theorem dX5_share_20 : decode cX5_share 20 = .ok (.invokestatic 61, 3) := by decide +kernel
theorem dX5_share_23 : decode cX5_share 23 = .ok (.ifCond .ne 9, 3) := by decide +kernel
theorem dX5_share_26 : decode cX5_share 26 = .ok (.aload_n 0, 1) := by decide +kernel
theorem dX5_share_27 : decode cX5_share 27 = .ok (.iconst 1, 1) := by decide +kernel
theorem dX5_share_28 : decode cX5_share 28 = .ok (.invokevirtual 43, 3) := by decide +kernel
theorem dX5_share_31 : decode cX5_share 31 = .ok (.ireturn, 1) := by decide +kernel
theorem dX5_share_32 : decode cX5_share 32 = .ok (.aload_n 0, 1) := by decide +kernel
theorem dX5_share_33 : decode cX5_share 33 = .ok (.iconst 2, 1) := by decide +kernel
theorem dX5_share_34 : decode cX5_share 34 = .ok (.iload_n 1, 1) := by decide +kernel
theorem dX5_share_35 : decode cX5_share 35 = .ok (.i2l, 1) := by decide +kernel
theorem dX5_share_36 : decode cX5_share 36 = .ok (.iload_n 2, 1) := by decide +kernel
theorem dX5_share_37 : decode cX5_share 37 = .ok (.i2l, 1) := by decide +kernel
theorem dX5_share_38 : decode cX5_share 38 = .ok (.lconst 0, 1) := by decide +kernel
theorem dX5_share_39 : decode cX5_share 39 = .ok (.invokevirtual 53, 3) := by decide +kernel
theorem dX5_share_42 : decode cX5_share 42 = .ok (.ifCond .eq 11, 3) := by decide +kernel
theorem dX5_share_45 : decode cX5_share 45 = .ok (.aload_n 3, 1) := by decide +kernel
theorem dX5_share_46 : decode cX5_share 46 = .ok (.iload_n 2, 1) := by decide +kernel
theorem dX5_share_47 : decode cX5_share 47 = .ok (.invokevirtual 76, 3) := by decide +kernel
theorem dX5_share_50 : decode cX5_share 50 = .ok (.goto 4, 3) := by decide +kernel
theorem dX5_share_53 : decode cX5_share 53 = .ok (.iconst (-1), 1) := by decide +kernel
theorem dX5_share_54 : decode cX5_share 54 = .ok (.ireturn, 1) := by decide +kernel
theorem dX5_deadline_0 : decode cX5_deadline 0 = .ok (.aload_n 0, 1) := by decide +kernel
theorem dX5_deadline_1 : decode cX5_deadline 1 = .ok (.getfield 12, 3) := by decide +kernel
theorem dX5_deadline_4 : decode cX5_deadline 4 = .ok (.iload_n 1, 1) := by decide +kernel
theorem dX5_deadline_5 : decode cX5_deadline 5 = .ok (.invokevirtual 72, 3) := by decide +kernel
theorem dX5_deadline_8 : decode cX5_deadline 8 = .ok (.astore 4, 2) := by decide +kernel
theorem dX5_deadline_10 : decode cX5_deadline 10 = .ok (.iconst 0, 1) := by decide +kernel
theorem dX5_deadline_11 : decode cX5_deadline 11 = .ok (.istore 5, 2) := by decide +kernel
theorem dX5_deadline_13 : decode cX5_deadline 13 = .ok (.aload 4, 2) := by decide +kernel
theorem dX5_deadline_15 : decode cX5_deadline 15 = .ok (.ifnonnull 9, 3) := by decide +kernel
theorem dX5_deadline_18 : decode cX5_deadline 18 = .ok (.iconst 3, 1) := by decide +kernel
theorem dX5_deadline_19 : decode cX5_deadline 19 = .ok (.istore 5, 2) := by decide +kernel
theorem dX5_deadline_21 : decode cX5_deadline 21 = .ok (.goto 41, 3) := by decide +kernel
theorem dX5_deadline_24 : decode cX5_deadline 24 = .ok (.aload 4, 2) := by decide +kernel
theorem dX5_deadline_26 : decode cX5_deadline 26 = .ok (.invokevirtual 81, 3) := by decide +kernel
theorem dX5_deadline_29 : decode cX5_deadline 29 = .ok (.ifCond .ne 9, 3) := by decide +kernel
theorem dX5_deadline_32 : decode cX5_deadline 32 = .ok (.iconst 4, 1) := by decide +kernel
theorem dX5_deadline_33 : decode cX5_deadline 33 = .ok (.istore 5, 2) := by decide +kernel
theorem dX5_deadline_35 : decode cX5_deadline 35 = .ok (.goto 27, 3) := by decide +kernel
theorem dX5_deadline_38 : decode cX5_deadline 38 = .ok (.iload_n 2, 1) := by decide +kernel
theorem dX5_deadline_39 : decode cX5_deadline 39 = .ok (.iconst 1, 1) := by decide +kernel
theorem dX5_deadline_40 : decode cX5_deadline 40 = .ok (.if_icmp .lt 19, 3) := by decide +kernel
theorem dX5_deadline_43 : decode cX5_deadline 43 = .ok (.iload_n 2, 1) := by decide +kernel
theorem dX5_deadline_44 : decode cX5_deadline 44 = .ok (.sipush 1000, 3) := by decide +kernel
theorem dX5_deadline_47 : decode cX5_deadline 47 = .ok (.if_icmp .gt 12, 3) := by decide +kernel
theorem dX5_deadline_50 : decode cX5_deadline 50 = .ok (.iload_n 3, 1) := by decide +kernel
theorem dX5_deadline_51 : decode cX5_deadline 51 = .ok (.ifCond .lt 8, 3) := by decide +kernel
theorem dX5_deadline_54 : decode cX5_deadline 54 = .ok (.iload_n 3, 1) := by decide +kernel
theorem dX5_deadline_55 : decode cX5_deadline 55 = .ok (.iload_n 2, 1) := by decide +kernel
theorem dX5_deadline_56 : decode cX5_deadline 56 = .ok (.if_icmp .le 6, 3) := by decide +kernel
theorem dX5_deadline_59 : decode cX5_deadline 59 = .ok (.iconst 1, 1) := by decide +kernel
theorem dX5_deadline_60 : decode cX5_deadline 60 = .ok (.istore 5, 2) := by decide +kernel
theorem dX5_deadline_62 : decode cX5_deadline 62 = .ok (.aload 4, 2) := by decide +kernel
theorem dX5_deadline_64 : decode cX5_deadline 64 = .ok (.ifnull 8, 3) := by decide +kernel
theorem dX5_deadline_67 : decode cX5_deadline 67 = .ok (.iload 5, 2) := by decide +kernel
theorem dX5_deadline_69 : decode cX5_deadline 69 = .ok (.ifCond .eq 12, 3) := by decide +kernel
theorem dX5_deadline_72 : decode cX5_deadline 72 = .ok (.aload_n 0, 1) := by decide +kernel
theorem dX5_deadline_73 : decode cX5_deadline 73 = .ok (.iload 5, 2) := by decide +kernel
theorem dX5_deadline_75 : decode cX5_deadline 75 = .ok (.invokevirtual 43, 3) := by decide +kernel
theorem dX5_deadline_78 : decode cX5_deadline 78 = .ok (.pop, 1) := by decide +kernel
theorem dX5_deadline_79 : decode cX5_deadline 79 = .ok (.iconst 0, 1) := by decide +kernel
theorem dX5_deadline_80 : decode cX5_deadline 80 = .ok (.ireturn, 1) := by decide +kernel
theorem dX5_deadline_81 : decode cX5_deadline 81 = .ok (.aload_n 0, 1) := by decide +kernel
theorem dX5_deadline_82 : decode cX5_deadline 82 = .ok (.iconst 3, 1) := by decide +kernel
theorem dX5_deadline_83 : decode cX5_deadline 83 = .ok (.iload_n 1, 1) := by decide +kernel
theorem dX5_deadline_84 : decode cX5_deadline 84 = .ok (.i2l, 1) := by decide +kernel
theorem dX5_deadline_85 : decode cX5_deadline 85 = .ok (.iload_n 2, 1) := by decide +kernel
theorem dX5_deadline_86 : decode cX5_deadline 86 = .ok (.i2l, 1) := by decide +kernel
theorem dX5_deadline_87 : decode cX5_deadline 87 = .ok (.iload_n 3, 1) := by decide +kernel
theorem dX5_deadline_88 : decode cX5_deadline 88 = .ok (.i2l, 1) := by decide +kernel
theorem dX5_deadline_89 : decode cX5_deadline 89 = .ok (.invokevirtual 53, 3) := by decide +kernel
theorem dX5_deadline_92 : decode cX5_deadline 92 = .ok (.ifCond .ne 5, 3) := by decide +kernel
theorem dX5_deadline_95 : decode cX5_deadline 95 = .ok (.iconst 0, 1) := by decide +kernel
theorem dX5_deadline_96 : decode cX5_deadline 96 = .ok (.ireturn, 1) := by decide +kernel
theorem dX5_deadline_97 : decode cX5_deadline 97 = .ok (.aload 4, 2) := by decide +kernel
theorem dX5_deadline_99 : decode cX5_deadline 99 = .ok (.iload_n 2, 1) := by decide +kernel
theorem dX5_deadline_100 : decode cX5_deadline 100 = .ok (.iload_n 3, 1) := by decide +kernel
theorem dX5_deadline_101 : decode cX5_deadline 101 = .ok (.aload_n 0, 1) := by decide +kernel
theorem dX5_deadline_102 : decode cX5_deadline 102 = .ok (.getfield 12, 3) := by decide +kernel
theorem dX5_deadline_105 : decode cX5_deadline 105 = .ok (.getfield 85, 3) := by decide +kernel
theorem dX5_deadline_108 : decode cX5_deadline 108 = .ok (.invokevirtual 88, 3) := by decide +kernel
theorem dX5_deadline_111 : decode cX5_deadline 111 = .ok (.iconst 1, 1) := by decide +kernel
theorem dX5_deadline_112 : decode cX5_deadline 112 = .ok (.ireturn, 1) := by decide +kernel
theorem dX5_processors_0 : decode cX5_processors 0 = .ok (.iload_n 1, 1) := by decide +kernel
theorem dX5_processors_1 : decode cX5_processors 1 = .ok (.iconst 1, 1) := by decide +kernel
theorem dX5_processors_2 : decode cX5_processors 2 = .ok (.if_icmp .lt 8, 3) := by decide +kernel
theorem dX5_processors_5 : decode cX5_processors 5 = .ok (.iload_n 1, 1) := by decide +kernel
theorem dX5_processors_6 : decode cX5_processors 6 = .ok (.iconst 4, 1) := by decide +kernel
theorem dX5_processors_7 : decode cX5_processors 7 = .ok (.if_icmp .le 9, 3) := by decide +kernel
theorem dX5_processors_10 : decode cX5_processors 10 = .ok (.aload_n 0, 1) := by decide +kernel
theorem dX5_processors_11 : decode cX5_processors 11 = .ok (.iconst 1, 1) := by decide +kernel
theorem dX5_processors_12 : decode cX5_processors 12 = .ok (.invokevirtual 43, 3) := by decide +kernel
theorem dX5_processors_15 : decode cX5_processors 15 = .ok (.ireturn, 1) := by decide +kernel
theorem dX5_processors_16 : decode cX5_processors 16 = .ok (.aload_n 0, 1) := by decide +kernel
theorem dX5_processors_17 : decode cX5_processors 17 = .ok (.iconst 4, 1) := by decide +kernel
theorem dX5_processors_18 : decode cX5_processors 18 = .ok (.iload_n 1, 1) := by decide +kernel
theorem dX5_processors_19 : decode cX5_processors 19 = .ok (.i2l, 1) := by decide +kernel
theorem dX5_processors_20 : decode cX5_processors 20 = .ok (.lconst 0, 1) := by decide +kernel
theorem dX5_processors_21 : decode cX5_processors 21 = .ok (.lconst 0, 1) := by decide +kernel
theorem dX5_processors_22 : decode cX5_processors 22 = .ok (.invokevirtual 53, 3) := by decide +kernel
theorem dX5_processors_25 : decode cX5_processors 25 = .ok (.ifCond .eq 14, 3) := by decide +kernel
theorem dX5_processors_28 : decode cX5_processors 28 = .ok (.aload_n 0, 1) := by decide +kernel
theorem dX5_processors_29 : decode cX5_processors 29 = .ok (.getfield 12, 3) := by decide +kernel
theorem dX5_processors_32 : decode cX5_processors 32 = .ok (.iload_n 1, 1) := by decide +kernel
theorem dX5_processors_33 : decode cX5_processors 33 = .ok (.invokevirtual 92, 3) := by decide +kernel
theorem dX5_processors_36 : decode cX5_processors 36 = .ok (.goto 4, 3) := by decide +kernel
theorem dX5_processors_39 : decode cX5_processors 39 = .ok (.iconst (-1), 1) := by decide +kernel
theorem dX5_processors_40 : decode cX5_processors 40 = .ok (.ireturn, 1) := by decide +kernel
theorem dX5_lock_0 : decode cX5_lock 0 = .ok (.iload_n 1, 1) := by decide +kernel
theorem dX5_lock_1 : decode cX5_lock 1 = .ok (.ifCond .lt 9, 3) := by decide +kernel
theorem dX5_lock_4 : decode cX5_lock 4 = .ok (.iload_n 1, 1) := by decide +kernel
theorem dX5_lock_5 : decode cX5_lock 5 = .ok (.bipush 100, 2) := by decide +kernel
theorem dX5_lock_7 : decode cX5_lock 7 = .ok (.if_icmp .lt 11, 3) := by decide +kernel
theorem dX5_lock_10 : decode cX5_lock 10 = .ok (.aload_n 0, 1) := by decide +kernel
theorem dX5_lock_11 : decode cX5_lock 11 = .ok (.iconst 1, 1) := by decide +kernel
theorem dX5_lock_12 : decode cX5_lock 12 = .ok (.invokevirtual 43, 3) := by decide +kernel
theorem dX5_lock_15 : decode cX5_lock 15 = .ok (.pop, 1) := by decide +kernel
theorem dX5_lock_16 : decode cX5_lock 16 = .ok (.iconst 0, 1) := by decide +kernel
theorem dX5_lock_17 : decode cX5_lock 17 = .ok (.ireturn, 1) := by decide +kernel
theorem dX5_lock_18 : decode cX5_lock 18 = .ok (.aload_n 0, 1) := by decide +kernel
theorem dX5_lock_19 : decode cX5_lock 19 = .ok (.getfield 12, 3) := by decide +kernel
theorem dX5_lock_22 : decode cX5_lock 22 = .ok (.iload_n 1, 1) := by decide +kernel
theorem dX5_lock_23 : decode cX5_lock 23 = .ok (.invokevirtual 95, 3) := by decide +kernel
theorem dX5_lock_26 : decode cX5_lock 26 = .ok (.bipush (-2), 2) := by decide +kernel
theorem dX5_lock_28 : decode cX5_lock 28 = .ok (.if_icmp .eq 11, 3) := by decide +kernel
theorem dX5_lock_31 : decode cX5_lock 31 = .ok (.aload_n 0, 1) := by decide +kernel
theorem dX5_lock_32 : decode cX5_lock 32 = .ok (.iconst 2, 1) := by decide +kernel
theorem dX5_lock_33 : decode cX5_lock 33 = .ok (.invokevirtual 43, 3) := by decide +kernel
theorem dX5_lock_36 : decode cX5_lock 36 = .ok (.pop, 1) := by decide +kernel
theorem dX5_lock_37 : decode cX5_lock 37 = .ok (.iconst 0, 1) := by decide +kernel
theorem dX5_lock_38 : decode cX5_lock 38 = .ok (.ireturn, 1) := by decide +kernel
theorem dX5_lock_39 : decode cX5_lock 39 = .ok (.aload_n 0, 1) := by decide +kernel
theorem dX5_lock_40 : decode cX5_lock 40 = .ok (.iconst 5, 1) := by decide +kernel
theorem dX5_lock_41 : decode cX5_lock 41 = .ok (.iload_n 1, 1) := by decide +kernel
theorem dX5_lock_42 : decode cX5_lock 42 = .ok (.i2l, 1) := by decide +kernel
theorem dX5_lock_43 : decode cX5_lock 43 = .ok (.lconst 0, 1) := by decide +kernel
theorem dX5_lock_44 : decode cX5_lock 44 = .ok (.lconst 0, 1) := by decide +kernel
theorem dX5_lock_45 : decode cX5_lock 45 = .ok (.invokevirtual 53, 3) := by decide +kernel
theorem dX5_lock_48 : decode cX5_lock 48 = .ok (.ifCond .ne 5, 3) := by decide +kernel
theorem dX5_lock_51 : decode cX5_lock 51 = .ok (.iconst 0, 1) := by decide +kernel
theorem dX5_lock_52 : decode cX5_lock 52 = .ok (.ireturn, 1) := by decide +kernel
theorem dX5_lock_53 : decode cX5_lock 53 = .ok (.aload_n 0, 1) := by decide +kernel
theorem dX5_lock_54 : decode cX5_lock 54 = .ok (.getfield 12, 3) := by decide +kernel
theorem dX5_lock_57 : decode cX5_lock 57 = .ok (.iload_n 1, 1) := by decide +kernel
theorem dX5_lock_58 : decode cX5_lock 58 = .ok (.invokevirtual 98, 3) := by decide +kernel
theorem dX5_lock_61 : decode cX5_lock 61 = .ok (.iconst 1, 1) := by decide +kernel
theorem dX5_lock_62 : decode cX5_lock 62 = .ok (.ireturn, 1) := by decide +kernel
theorem dX5_ring_0 : decode cX5_ring 0 = .ok (.iload_n 1, 1) := by decide +kernel
theorem dX5_ring_1 : decode cX5_ring 1 = .ok (.ifCond .lt 9, 3) := by decide +kernel
theorem dX5_ring_4 : decode cX5_ring 4 = .ok (.iload_n 1, 1) := by decide +kernel
theorem dX5_ring_5 : decode cX5_ring 5 = .ok (.bipush 16, 2) := by decide +kernel
theorem dX5_ring_7 : decode cX5_ring 7 = .ok (.if_icmp .lt 9, 3) := by decide +kernel
theorem dX5_ring_10 : decode cX5_ring 10 = .ok (.aload_n 0, 1) := by decide +kernel
theorem dX5_ring_11 : decode cX5_ring 11 = .ok (.iconst 1, 1) := by decide +kernel
theorem dX5_ring_12 : decode cX5_ring 12 = .ok (.invokevirtual 43, 3) := by decide +kernel
theorem dX5_ring_15 : decode cX5_ring 15 = .ok (.ireturn, 1) := by decide +kernel
theorem dX5_ring_16 : decode cX5_ring 16 = .ok (.aload_n 0, 1) := by decide +kernel
theorem dX5_ring_17 : decode cX5_ring 17 = .ok (.bipush 6, 2) := by decide +kernel
theorem dX5_ring_19 : decode cX5_ring 19 = .ok (.iload_n 1, 1) := by decide +kernel
theorem dX5_ring_20 : decode cX5_ring 20 = .ok (.i2l, 1) := by decide +kernel
theorem dX5_ring_21 : decode cX5_ring 21 = .ok (.lconst 0, 1) := by decide +kernel
theorem dX5_ring_22 : decode cX5_ring 22 = .ok (.lconst 0, 1) := by decide +kernel
theorem dX5_ring_23 : decode cX5_ring 23 = .ok (.invokevirtual 53, 3) := by decide +kernel
theorem dX5_ring_26 : decode cX5_ring 26 = .ok (.ifCond .eq 14, 3) := by decide +kernel
theorem dX5_ring_29 : decode cX5_ring 29 = .ok (.aload_n 0, 1) := by decide +kernel
theorem dX5_ring_30 : decode cX5_ring 30 = .ok (.getfield 12, 3) := by decide +kernel
theorem dX5_ring_33 : decode cX5_ring 33 = .ok (.iload_n 1, 1) := by decide +kernel
theorem dX5_ring_34 : decode cX5_ring 34 = .ok (.invokevirtual 102, 3) := by decide +kernel
theorem dX5_ring_37 : decode cX5_ring 37 = .ok (.goto 4, 3) := by decide +kernel
theorem dX5_ring_40 : decode cX5_ring 40 = .ok (.iconst (-1), 1) := by decide +kernel
theorem dX5_ring_41 : decode cX5_ring 41 = .ok (.ireturn, 1) := by decide +kernel
theorem dX5_run_0 : decode cX5_run 0 = .ok (.iload_n 1, 1) := by decide +kernel
theorem dX5_run_1 : decode cX5_run 1 = .ok (.ifCond .lt 10, 3) := by decide +kernel
theorem dX5_run_4 : decode cX5_run 4 = .ok (.iload_n 1, 1) := by decide +kernel
theorem dX5_run_5 : decode cX5_run 5 = .ok (.sipush 1000, 3) := by decide +kernel
theorem dX5_run_8 : decode cX5_run 8 = .ok (.if_icmp .le 9, 3) := by decide +kernel
theorem dX5_run_11 : decode cX5_run 11 = .ok (.aload_n 0, 1) := by decide +kernel
theorem dX5_run_12 : decode cX5_run 12 = .ok (.iconst 1, 1) := by decide +kernel
theorem dX5_run_13 : decode cX5_run 13 = .ok (.invokevirtual 43, 3) := by decide +kernel
theorem dX5_run_16 : decode cX5_run 16 = .ok (.ireturn, 1) := by decide +kernel
theorem dX5_run_17 : decode cX5_run 17 = .ok (.aload_n 0, 1) := by decide +kernel
theorem dX5_run_18 : decode cX5_run 18 = .ok (.bipush 7, 2) := by decide +kernel
theorem dX5_run_20 : decode cX5_run 20 = .ok (.iload_n 1, 1) := by decide +kernel
theorem dX5_run_21 : decode cX5_run 21 = .ok (.i2l, 1) := by decide +kernel
theorem dX5_run_22 : decode cX5_run 22 = .ok (.lconst 0, 1) := by decide +kernel
theorem dX5_run_23 : decode cX5_run 23 = .ok (.lconst 0, 1) := by decide +kernel
theorem dX5_run_24 : decode cX5_run 24 = .ok (.invokevirtual 53, 3) := by decide +kernel
theorem dX5_run_27 : decode cX5_run 27 = .ok (.ifCond .eq 14, 3) := by decide +kernel
theorem dX5_run_30 : decode cX5_run 30 = .ok (.aload_n 0, 1) := by decide +kernel
theorem dX5_run_31 : decode cX5_run 31 = .ok (.getfield 12, 3) := by decide +kernel
theorem dX5_run_34 : decode cX5_run 34 = .ok (.iload_n 1, 1) := by decide +kernel
theorem dX5_run_35 : decode cX5_run 35 = .ok (.invokevirtual 105, 3) := by decide +kernel
theorem dX5_run_38 : decode cX5_run 38 = .ok (.goto 4, 3) := by decide +kernel
theorem dX5_run_41 : decode cX5_run 41 = .ok (.iconst (-1), 1) := by decide +kernel
theorem dX5_run_42 : decode cX5_run 42 = .ok (.ireturn, 1) := by decide +kernel
theorem dX5_chosen_0 : decode cX5_chosen 0 = .ok (.iload_n 1, 1) := by decide +kernel
theorem dX5_chosen_1 : decode cX5_chosen 1 = .ok (.ifCond .lt 20, 3) := by decide +kernel
theorem dX5_chosen_4 : decode cX5_chosen 4 = .ok (.iload_n 1, 1) := by decide +kernel
theorem dX5_chosen_5 : decode cX5_chosen 5 = .ok (.iconst 4, 1) := by decide +kernel
theorem dX5_chosen_6 : decode cX5_chosen 6 = .ok (.if_icmp .ge 15, 3) := by decide +kernel
theorem dX5_chosen_9 : decode cX5_chosen 9 = .ok (.aload_n 0, 1) := by decide +kernel
theorem dX5_chosen_10 : decode cX5_chosen 10 = .ok (.getfield 12, 3) := by decide +kernel
theorem dX5_chosen_13 : decode cX5_chosen 13 = .ok (.getfield 108, 3) := by decide +kernel
theorem dX5_chosen_16 : decode cX5_chosen 16 = .ok (.iload_n 1, 1) := by decide +kernel
theorem dX5_chosen_17 : decode cX5_chosen 17 = .ok (.iaload, 1) := by decide +kernel
theorem dX5_chosen_18 : decode cX5_chosen 18 = .ok (.goto 4, 3) := by decide +kernel
theorem dX5_chosen_21 : decode cX5_chosen 21 = .ok (.iconst (-1), 1) := by decide +kernel
theorem dX5_chosen_22 : decode cX5_chosen 22 = .ok (.ireturn, 1) := by decide +kernel
theorem dX5_about_0 : decode cX5_about 0 = .ok (.aload_n 0, 1) := by decide +kernel
theorem dX5_about_1 : decode cX5_about 1 = .ok (.getfield 12, 3) := by decide +kernel
theorem dX5_about_4 : decode cX5_about 4 = .ok (.iload_n 1, 1) := by decide +kernel
theorem dX5_about_5 : decode cX5_about 5 = .ok (.invokevirtual 112, 3) := by decide +kernel
theorem dX5_about_8 : decode cX5_about 8 = .ok (.astore_n 3, 1) := by decide +kernel
theorem dX5_about_9 : decode cX5_about 9 = .ok (.aload_n 3, 1) := by decide +kernel
theorem dX5_about_10 : decode cX5_about 10 = .ok (.ifnonnull 7, 3) := by decide +kernel
theorem dX5_about_13 : decode cX5_about 13 = .ok (.iconst (-1), 1) := by decide +kernel
theorem dX5_about_14 : decode cX5_about 14 = .ok (.goto 8, 3) := by decide +kernel
theorem dX5_about_17 : decode cX5_about 17 = .ok (.aload_n 3, 1) := by decide +kernel
theorem dX5_about_18 : decode cX5_about 18 = .ok (.iload_n 2, 1) := by decide +kernel
theorem dX5_about_19 : decode cX5_about 19 = .ok (.invokevirtual 115, 3) := by decide +kernel
theorem dX5_about_22 : decode cX5_about 22 = .ok (.ireturn, 1) := by decide +kernel
theorem dX5_virtual_0 : decode cX5_virtual 0 = .ok (.aload_n 0, 1) := by decide +kernel
theorem dX5_virtual_1 : decode cX5_virtual 1 = .ok (.getfield 12, 3) := by decide +kernel
theorem dX5_virtual_4 : decode cX5_virtual 4 = .ok (.iload_n 1, 1) := by decide +kernel
theorem dX5_virtual_5 : decode cX5_virtual 5 = .ok (.invokevirtual 112, 3) := by decide +kernel
theorem dX5_virtual_8 : decode cX5_virtual 8 = .ok (.astore_n 2, 1) := by decide +kernel
theorem dX5_virtual_9 : decode cX5_virtual 9 = .ok (.aload_n 2, 1) := by decide +kernel
theorem dX5_virtual_10 : decode cX5_virtual 10 = .ok (.ifnonnull 9, 3) := by decide +kernel
theorem dX5_virtual_13 : decode cX5_virtual 13 = .ok (.ldc2_w 118, 3) := by decide +kernel
theorem dX5_virtual_16 : decode cX5_virtual 16 = .ok (.goto 7, 3) := by decide +kernel
theorem dX5_virtual_19 : decode cX5_virtual 19 = .ok (.aload_n 2, 1) := by decide +kernel
theorem dX5_virtual_20 : decode cX5_virtual 20 = .ok (.getfield 120, 3) := by decide +kernel
theorem dX5_virtual_23 : decode cX5_virtual 23 = .ok (.lreturn, 1) := by decide +kernel
theorem dX5_small_0 : decode cX5_small 0 = .ok (.aload_n 0, 1) := by decide +kernel
theorem dX5_small_1 : decode cX5_small 1 = .ok (.getfield 12, 3) := by decide +kernel
theorem dX5_small_4 : decode cX5_small 4 = .ok (.iload_n 1, 1) := by decide +kernel
theorem dX5_small_5 : decode cX5_small 5 = .ok (.invokevirtual 112, 3) := by decide +kernel
theorem dX5_small_8 : decode cX5_small 8 = .ok (.astore_n 3, 1) := by decide +kernel
theorem dX5_small_9 : decode cX5_small 9 = .ok (.aload_n 3, 1) := by decide +kernel
theorem dX5_small_10 : decode cX5_small 10 = .ok (.ifnonnull 7, 3) := by decide +kernel
theorem dX5_small_13 : decode cX5_small 13 = .ok (.iconst 0, 1) := by decide +kernel
theorem dX5_small_14 : decode cX5_small 14 = .ok (.goto 8, 3) := by decide +kernel
theorem dX5_small_17 : decode cX5_small 17 = .ok (.aload_n 3, 1) := by decide +kernel
theorem dX5_small_18 : decode cX5_small 18 = .ok (.iload_n 2, 1) := by decide +kernel
theorem dX5_small_19 : decode cX5_small 19 = .ok (.invokevirtual 124, 3) := by decide +kernel
theorem dX5_small_22 : decode cX5_small 22 = .ok (.ireturn, 1) := by decide +kernel
theorem dX5_standing_0 : decode cX5_standing 0 = .ok (.aload_n 0, 1) := by decide +kernel
theorem dX5_standing_1 : decode cX5_standing 1 = .ok (.getfield 12, 3) := by decide +kernel
theorem dX5_standing_4 : decode cX5_standing 4 = .ok (.iload_n 1, 1) := by decide +kernel
theorem dX5_standing_5 : decode cX5_standing 5 = .ok (.invokevirtual 72, 3) := by decide +kernel
theorem dX5_standing_8 : decode cX5_standing 8 = .ok (.astore_n 3, 1) := by decide +kernel
theorem dX5_standing_9 : decode cX5_standing 9 = .ok (.aload_n 3, 1) := by decide +kernel
theorem dX5_standing_10 : decode cX5_standing 10 = .ok (.ifnonnull 7, 3) := by decide +kernel
theorem dX5_standing_13 : decode cX5_standing 13 = .ok (.ldc2_w 118, 3) := by decide +kernel
theorem dX5_standing_16 : decode cX5_standing 16 = .ok (.lreturn, 1) := by decide +kernel
theorem dX5_standing_17 : decode cX5_standing 17 = .ok (.aload_n 0, 1) := by decide +kernel
theorem dX5_standing_18 : decode cX5_standing 18 = .ok (.getfield 12, 3) := by decide +kernel
theorem dX5_standing_21 : decode cX5_standing 21 = .ok (.invokevirtual 127, 3) := by decide +kernel
theorem dX5_standing_24 : decode cX5_standing 24 = .ok (.iload_n 2, 1) := by decide +kernel
theorem dX5_standing_25 : decode cX5_standing 25 = .ok (.tableswitch 53 0 2 #[27, 36, 44], 27) := by decide +kernel
theorem dX5_standing_52 : decode cX5_standing 52 = .ok (.aload_n 3, 1) := by decide +kernel
theorem dX5_standing_53 : decode cX5_standing 53 = .ok (.getfield 130, 3) := by decide +kernel
theorem dX5_standing_56 : decode cX5_standing 56 = .ok (.invokestatic 133, 3) := by decide +kernel
theorem dX5_standing_59 : decode cX5_standing 59 = .ok (.i2l, 1) := by decide +kernel
theorem dX5_standing_60 : decode cX5_standing 60 = .ok (.lreturn, 1) := by decide +kernel
theorem dX5_standing_61 : decode cX5_standing 61 = .ok (.aload_n 3, 1) := by decide +kernel
theorem dX5_standing_62 : decode cX5_standing 62 = .ok (.getfield 130, 3) := by decide +kernel
theorem dX5_standing_65 : decode cX5_standing 65 = .ok (.invokestatic 137, 3) := by decide +kernel
theorem dX5_standing_68 : decode cX5_standing 68 = .ok (.lreturn, 1) := by decide +kernel
theorem dX5_standing_69 : decode cX5_standing 69 = .ok (.aload_n 3, 1) := by decide +kernel
theorem dX5_standing_70 : decode cX5_standing 70 = .ok (.getfield 130, 3) := by decide +kernel
theorem dX5_standing_73 : decode cX5_standing 73 = .ok (.invokestatic 141, 3) := by decide +kernel
theorem dX5_standing_76 : decode cX5_standing 76 = .ok (.i2l, 1) := by decide +kernel
theorem dX5_standing_77 : decode cX5_standing 77 = .ok (.lreturn, 1) := by decide +kernel
theorem dX5_standing_78 : decode cX5_standing 78 = .ok (.ldc2_w 118, 3) := by decide +kernel
theorem dX5_standing_81 : decode cX5_standing 81 = .ok (.lreturn, 1) := by decide +kernel
theorem dX5_holder_0 : decode cX5_holder 0 = .ok (.aload_n 0, 1) := by decide +kernel
theorem dX5_holder_1 : decode cX5_holder 1 = .ok (.getfield 12, 3) := by decide +kernel
theorem dX5_holder_4 : decode cX5_holder 4 = .ok (.iload_n 1, 1) := by decide +kernel
theorem dX5_holder_5 : decode cX5_holder 5 = .ok (.invokevirtual 95, 3) := by decide +kernel
theorem dX5_holder_8 : decode cX5_holder 8 = .ok (.ireturn, 1) := by decide +kernel
theorem dX5_ringed_0 : decode cX5_ringed 0 = .ok (.iload_n 1, 1) := by decide +kernel
theorem dX5_ringed_1 : decode cX5_ringed 1 = .ok (.ifCond .lt 26, 3) := by decide +kernel
theorem dX5_ringed_4 : decode cX5_ringed 4 = .ok (.iload_n 1, 1) := by decide +kernel
theorem dX5_ringed_5 : decode cX5_ringed 5 = .ok (.aload_n 0, 1) := by decide +kernel
theorem dX5_ringed_6 : decode cX5_ringed 6 = .ok (.getfield 12, 3) := by decide +kernel
theorem dX5_ringed_9 : decode cX5_ringed 9 = .ok (.getfield 144, 3) := by decide +kernel
theorem dX5_ringed_12 : decode cX5_ringed 12 = .ok (.if_icmp .ge 15, 3) := by decide +kernel
theorem dX5_ringed_15 : decode cX5_ringed 15 = .ok (.aload_n 0, 1) := by decide +kernel
theorem dX5_ringed_16 : decode cX5_ringed 16 = .ok (.getfield 12, 3) := by decide +kernel
theorem dX5_ringed_19 : decode cX5_ringed 19 = .ok (.getfield 147, 3) := by decide +kernel
theorem dX5_ringed_22 : decode cX5_ringed 22 = .ok (.iload_n 1, 1) := by decide +kernel
theorem dX5_ringed_23 : decode cX5_ringed 23 = .ok (.iaload, 1) := by decide +kernel
theorem dX5_ringed_24 : decode cX5_ringed 24 = .ok (.goto 4, 3) := by decide +kernel
theorem dX5_ringed_27 : decode cX5_ringed 27 = .ok (.iconst (-1), 1) := by decide +kernel
theorem dX5_ringed_28 : decode cX5_ringed 28 = .ok (.ireturn, 1) := by decide +kernel
theorem dX5_row_0 : decode cX5_row 0 = .ok (.aload_n 0, 1) := by decide +kernel
theorem dX5_row_1 : decode cX5_row 1 = .ok (.getfield 12, 3) := by decide +kernel
theorem dX5_row_4 : decode cX5_row 4 = .ok (.getfield 150, 3) := by decide +kernel
theorem dX5_row_7 : decode cX5_row 7 = .ok (.iload_n 1, 1) := by decide +kernel
theorem dX5_row_8 : decode cX5_row 8 = .ok (.iload_n 2, 1) := by decide +kernel
theorem dX5_row_9 : decode cX5_row 9 = .ok (.invokevirtual 154, 3) := by decide +kernel
theorem dX5_row_12 : decode cX5_row 12 = .ok (.ifCond .eq 18, 3) := by decide +kernel
theorem dX5_row_15 : decode cX5_row 15 = .ok (.aload_n 0, 1) := by decide +kernel
theorem dX5_row_16 : decode cX5_row 16 = .ok (.getfield 12, 3) := by decide +kernel
theorem dX5_row_19 : decode cX5_row 19 = .ok (.getfield 150, 3) := by decide +kernel
theorem dX5_row_22 : decode cX5_row 22 = .ok (.iload_n 1, 1) := by decide +kernel
theorem dX5_row_23 : decode cX5_row 23 = .ok (.iload_n 2, 1) := by decide +kernel
theorem dX5_row_24 : decode cX5_row 24 = .ok (.invokevirtual 160, 3) := by decide +kernel
theorem dX5_row_27 : decode cX5_row 27 = .ok (.goto 4, 3) := by decide +kernel
theorem dX5_row_30 : decode cX5_row 30 = .ok (.iconst (-1), 1) := by decide +kernel
theorem dX5_row_31 : decode cX5_row 31 = .ok (.ireturn, 1) := by decide +kernel
theorem dX5_forge_0 : decode cX5_forge 0 = .ok (.aload_n 0, 1) := by decide +kernel
theorem dX5_forge_1 : decode cX5_forge 1 = .ok (.getfield 12, 3) := by decide +kernel
theorem dX5_forge_4 : decode cX5_forge 4 = .ok (.getfield 150, 3) := by decide +kernel
theorem dX5_forge_7 : decode cX5_forge 7 = .ok (.iload_n 1, 1) := by decide +kernel
theorem dX5_forge_8 : decode cX5_forge 8 = .ok (.iload_n 2, 1) := by decide +kernel
theorem dX5_forge_9 : decode cX5_forge 9 = .ok (.invokevirtual 154, 3) := by decide +kernel
theorem dX5_forge_12 : decode cX5_forge 12 = .ok (.ifCond .ne 11, 3) := by decide +kernel
theorem dX5_forge_15 : decode cX5_forge 15 = .ok (.aload_n 0, 1) := by decide +kernel
theorem dX5_forge_16 : decode cX5_forge 16 = .ok (.iconst 1, 1) := by decide +kernel
theorem dX5_forge_17 : decode cX5_forge 17 = .ok (.invokevirtual 43, 3) := by decide +kernel
theorem dX5_forge_20 : decode cX5_forge 20 = .ok (.pop, 1) := by decide +kernel
theorem dX5_forge_21 : decode cX5_forge 21 = .ok (.iconst 0, 1) := by decide +kernel
theorem dX5_forge_22 : decode cX5_forge 22 = .ok (.ireturn, 1) := by decide +kernel
theorem dX5_forge_23 : decode cX5_forge 23 = .ok (.aload_n 0, 1) := by decide +kernel
theorem dX5_forge_24 : decode cX5_forge 24 = .ok (.getfield 12, 3) := by decide +kernel
theorem dX5_forge_27 : decode cX5_forge 27 = .ok (.getfield 150, 3) := by decide +kernel
theorem dX5_forge_30 : decode cX5_forge 30 = .ok (.iload_n 1, 1) := by decide +kernel
theorem dX5_forge_31 : decode cX5_forge 31 = .ok (.iload_n 2, 1) := by decide +kernel
theorem dX5_forge_32 : decode cX5_forge 32 = .ok (.iload_n 3, 1) := by decide +kernel
theorem dX5_forge_33 : decode cX5_forge 33 = .ok (.invokevirtual 164, 3) := by decide +kernel
theorem dX5_forge_36 : decode cX5_forge 36 = .ok (.aload_n 0, 1) := by decide +kernel
theorem dX5_forge_37 : decode cX5_forge 37 = .ok (.iconst 0, 1) := by decide +kernel
theorem dX5_forge_38 : decode cX5_forge 38 = .ok (.putfield 32, 3) := by decide +kernel
theorem dX5_forge_41 : decode cX5_forge 41 = .ok (.iconst 1, 1) := by decide +kernel
theorem dX5_forge_42 : decode cX5_forge 42 = .ok (.ireturn, 1) := by decide +kernel
theorem dX5_check_0 : decode cX5_check 0 = .ok (.aload_n 0, 1) := by decide +kernel
theorem dX5_check_1 : decode cX5_check 1 = .ok (.getfield 23, 3) := by decide +kernel
theorem dX5_check_4 : decode cX5_check 4 = .ok (.ifnonnull 14, 3) := by decide +kernel
theorem dX5_check_7 : decode cX5_check 7 = .ok (.aload_n 0, 1) := by decide +kernel
theorem dX5_check_8 : decode cX5_check 8 = .ok (.new 9, 3) := by decide +kernel
theorem dX5_check_11 : decode cX5_check 11 = .ok (.dup, 1) := by decide +kernel
theorem dX5_check_12 : decode cX5_check 12 = .ok (.invokespecial 11, 3) := by decide +kernel
theorem dX5_check_15 : decode cX5_check 15 = .ok (.putfield 23, 3) := by decide +kernel
theorem dX5_check_18 : decode cX5_check 18 = .ok (.aload_n 0, 1) := by decide +kernel
theorem dX5_check_19 : decode cX5_check 19 = .ok (.getfield 23, 3) := by decide +kernel
theorem dX5_check_22 : decode cX5_check 22 = .ok (.invokevirtual 167, 3) := by decide +kernel
theorem dX5_check_25 : decode cX5_check 25 = .ok (.iconst 0, 1) := by decide +kernel
theorem dX5_check_26 : decode cX5_check 26 = .ok (.istore_n 1, 1) := by decide +kernel
theorem dX5_check_27 : decode cX5_check 27 = .ok (.iload_n 1, 1) := by decide +kernel
theorem dX5_check_28 : decode cX5_check 28 = .ok (.aload_n 0, 1) := by decide +kernel
theorem dX5_check_29 : decode cX5_check 29 = .ok (.getfield 19, 3) := by decide +kernel
theorem dX5_check_32 : decode cX5_check 32 = .ok (.getfield 170, 3) := by decide +kernel
theorem dX5_check_35 : decode cX5_check 35 = .ok (.if_icmp .ge 18, 3) := by decide +kernel
theorem dX5_check_38 : decode cX5_check 38 = .ok (.aload_n 0, 1) := by decide +kernel
theorem dX5_check_39 : decode cX5_check 39 = .ok (.iload_n 1, 1) := by decide +kernel
theorem dX5_check_40 : decode cX5_check 40 = .ok (.aload_n 0, 1) := by decide +kernel
theorem dX5_check_41 : decode cX5_check 41 = .ok (.getfield 23, 3) := by decide +kernel
theorem dX5_check_44 : decode cX5_check 44 = .ok (.invokevirtual 173, 3) := by decide +kernel
theorem dX5_check_47 : decode cX5_check 47 = .ok (.iinc 1 1, 3) := by decide +kernel
theorem dX5_check_50 : decode cX5_check 50 = .ok (.goto (-23), 3) := by decide +kernel
theorem dX5_check_53 : decode cX5_check 53 = .ok (.aload_n 0, 1) := by decide +kernel
theorem dX5_check_54 : decode cX5_check 54 = .ok (.getfield 12, 3) := by decide +kernel
theorem dX5_check_57 : decode cX5_check 57 = .ok (.getfield 150, 3) := by decide +kernel
theorem dX5_check_60 : decode cX5_check 60 = .ok (.aload_n 0, 1) := by decide +kernel
theorem dX5_check_61 : decode cX5_check 61 = .ok (.getfield 23, 3) := by decide +kernel
theorem dX5_check_64 : decode cX5_check 64 = .ok (.getfield 150, 3) := by decide +kernel
theorem dX5_check_67 : decode cX5_check 67 = .ok (.invokevirtual 177, 3) := by decide +kernel
theorem dX5_check_70 : decode cX5_check 70 = .ok (.istore_n 1, 1) := by decide +kernel
theorem dX5_check_71 : decode cX5_check 71 = .ok (.aload_n 0, 1) := by decide +kernel
theorem dX5_check_72 : decode cX5_check 72 = .ok (.aload_n 0, 1) := by decide +kernel
theorem dX5_check_73 : decode cX5_check 73 = .ok (.getfield 23, 3) := by decide +kernel
theorem dX5_check_76 : decode cX5_check 76 = .ok (.getfield 150, 3) := by decide +kernel
theorem dX5_check_79 : decode cX5_check 79 = .ok (.iload_n 1, 1) := by decide +kernel
theorem dX5_check_80 : decode cX5_check 80 = .ok (.iconst 0, 1) := by decide +kernel
theorem dX5_check_81 : decode cX5_check 81 = .ok (.invokevirtual 154, 3) := by decide +kernel
theorem dX5_check_84 : decode cX5_check 84 = .ok (.ifCond .eq 18, 3) := by decide +kernel
theorem dX5_check_87 : decode cX5_check 87 = .ok (.aload_n 0, 1) := by decide +kernel
theorem dX5_check_88 : decode cX5_check 88 = .ok (.getfield 23, 3) := by decide +kernel
theorem dX5_check_91 : decode cX5_check 91 = .ok (.getfield 150, 3) := by decide +kernel
theorem dX5_check_94 : decode cX5_check 94 = .ok (.iload_n 1, 1) := by decide +kernel
theorem dX5_check_95 : decode cX5_check 95 = .ok (.iconst 0, 1) := by decide +kernel
theorem dX5_check_96 : decode cX5_check 96 = .ok (.invokevirtual 160, 3) := by decide +kernel
theorem dX5_check_99 : decode cX5_check 99 = .ok (.goto 10, 3) := by decide +kernel
theorem dX5_check_102 : decode cX5_check 102 = .ok (.aload_n 0, 1) := by decide +kernel
theorem dX5_check_103 : decode cX5_check 103 = .ok (.getfield 23, 3) := by decide +kernel
theorem dX5_check_106 : decode cX5_check 106 = .ok (.getfield 85, 3) := by decide +kernel
theorem dX5_check_109 : decode cX5_check 109 = .ok (.putfield 36, 3) := by decide +kernel
theorem dX5_check_112 : decode cX5_check 112 = .ok (.iload_n 1, 1) := by decide +kernel
theorem dX5_check_113 : decode cX5_check 113 = .ok (.ireturn, 1) := by decide +kernel
theorem dX5_checkedTo_0 : decode cX5_checkedTo 0 = .ok (.aload_n 0, 1) := by decide +kernel
theorem dX5_checkedTo_1 : decode cX5_checkedTo 1 = .ok (.getfield 36, 3) := by decide +kernel
theorem dX5_checkedTo_4 : decode cX5_checkedTo 4 = .ok (.ireturn, 1) := by decide +kernel
theorem dX5_bound_0 : decode cX5_bound 0 = .ok (.aload_n 0, 1) := by decide +kernel
theorem dX5_bound_1 : decode cX5_bound 1 = .ok (.getfield 12, 3) := by decide +kernel
theorem dX5_bound_4 : decode cX5_bound 4 = .ok (.iload_n 1, 1) := by decide +kernel
theorem dX5_bound_5 : decode cX5_bound 5 = .ok (.invokevirtual 112, 3) := by decide +kernel
theorem dX5_bound_8 : decode cX5_bound 8 = .ok (.astore_n 2, 1) := by decide +kernel
theorem dX5_bound_9 : decode cX5_bound 9 = .ok (.aload_n 2, 1) := by decide +kernel
theorem dX5_bound_10 : decode cX5_bound 10 = .ok (.ifnull 10, 3) := by decide +kernel
theorem dX5_bound_13 : decode cX5_bound 13 = .ok (.aload_n 2, 1) := by decide +kernel
theorem dX5_bound_14 : decode cX5_bound 14 = .ok (.getfield 181, 3) := by decide +kernel
theorem dX5_bound_17 : decode cX5_bound 17 = .ok (.ifCond .eq 9, 3) := by decide +kernel
theorem dX5_bound_20 : decode cX5_bound 20 = .ok (.ldc2_w 118, 3) := by decide +kernel
theorem dX5_bound_23 : decode cX5_bound 23 = .ok (.goto 11, 3) := by decide +kernel
theorem dX5_bound_26 : decode cX5_bound 26 = .ok (.aload_n 0, 1) := by decide +kernel
theorem dX5_bound_27 : decode cX5_bound 27 = .ok (.getfield 12, 3) := by decide +kernel
theorem dX5_bound_30 : decode cX5_bound 30 = .ok (.aload_n 2, 1) := by decide +kernel
theorem dX5_bound_31 : decode cX5_bound 31 = .ok (.invokevirtual 184, 3) := by decide +kernel
theorem dX5_bound_34 : decode cX5_bound 34 = .ok (.lreturn, 1) := by decide +kernel
theorem dX5_trace_0 : decode cX5_trace 0 = .ok (.iload_n 1, 1) := by decide +kernel
theorem dX5_trace_1 : decode cX5_trace 1 = .ok (.ifCond .lt 21, 3) := by decide +kernel
theorem dX5_trace_4 : decode cX5_trace 4 = .ok (.iload_n 1, 1) := by decide +kernel
theorem dX5_trace_5 : decode cX5_trace 5 = .ok (.bipush 12, 2) := by decide +kernel
theorem dX5_trace_7 : decode cX5_trace 7 = .ok (.if_icmp .ge 15, 3) := by decide +kernel
theorem dX5_trace_10 : decode cX5_trace 10 = .ok (.aload_n 0, 1) := by decide +kernel
theorem dX5_trace_11 : decode cX5_trace 11 = .ok (.getfield 12, 3) := by decide +kernel
theorem dX5_trace_14 : decode cX5_trace 14 = .ok (.getfield 188, 3) := by decide +kernel
theorem dX5_trace_17 : decode cX5_trace 17 = .ok (.iload_n 1, 1) := by decide +kernel
theorem dX5_trace_18 : decode cX5_trace 18 = .ok (.iaload, 1) := by decide +kernel
theorem dX5_trace_19 : decode cX5_trace 19 = .ok (.goto 4, 3) := by decide +kernel
theorem dX5_trace_22 : decode cX5_trace 22 = .ok (.iconst (-1), 1) := by decide +kernel
theorem dX5_trace_23 : decode cX5_trace 23 = .ok (.ireturn, 1) := by decide +kernel
theorem dX5_count_0 : decode cX5_count 0 = .ok (.iload_n 1, 1) := by decide +kernel
theorem dX5_count_1 : decode cX5_count 1 = .ok (.tableswitch 124 0 7 #[47, 55, 63, 80, 89, 100, 108, 116], 47) := by decide +kernel
theorem dX5_count_48 : decode cX5_count 48 = .ok (.aload_n 0, 1) := by decide +kernel
theorem dX5_count_49 : decode cX5_count 49 = .ok (.getfield 12, 3) := by decide +kernel
theorem dX5_count_52 : decode cX5_count 52 = .ok (.getfield 85, 3) := by decide +kernel
theorem dX5_count_55 : decode cX5_count 55 = .ok (.ireturn, 1) := by decide +kernel
theorem dX5_count_56 : decode cX5_count 56 = .ok (.aload_n 0, 1) := by decide +kernel
theorem dX5_count_57 : decode cX5_count 57 = .ok (.getfield 12, 3) := by decide +kernel
theorem dX5_count_60 : decode cX5_count 60 = .ok (.getfield 65, 3) := by decide +kernel
theorem dX5_count_63 : decode cX5_count 63 = .ok (.ireturn, 1) := by decide +kernel
theorem dX5_count_64 : decode cX5_count 64 = .ok (.aload_n 0, 1) := by decide +kernel
theorem dX5_count_65 : decode cX5_count 65 = .ok (.getfield 12, 3) := by decide +kernel
theorem dX5_count_68 : decode cX5_count 68 = .ok (.getfield 65, 3) := by decide +kernel
theorem dX5_count_71 : decode cX5_count 71 = .ok (.aload_n 0, 1) := by decide +kernel
theorem dX5_count_72 : decode cX5_count 72 = .ok (.getfield 12, 3) := by decide +kernel
theorem dX5_count_75 : decode cX5_count 75 = .ok (.iconst 4, 1) := by decide +kernel
theorem dX5_count_76 : decode cX5_count 76 = .ok (.invokevirtual 191, 3) := by decide +kernel
theorem dX5_count_79 : decode cX5_count 79 = .ok (.isub, 1) := by decide +kernel
theorem dX5_count_80 : decode cX5_count 80 = .ok (.ireturn, 1) := by decide +kernel
theorem dX5_count_81 : decode cX5_count 81 = .ok (.aload_n 0, 1) := by decide +kernel
theorem dX5_count_82 : decode cX5_count 82 = .ok (.getfield 12, 3) := by decide +kernel
theorem dX5_count_85 : decode cX5_count 85 = .ok (.iconst 0, 1) := by decide +kernel
theorem dX5_count_86 : decode cX5_count 86 = .ok (.invokevirtual 191, 3) := by decide +kernel
theorem dX5_count_89 : decode cX5_count 89 = .ok (.ireturn, 1) := by decide +kernel
theorem dX5_count_90 : decode cX5_count 90 = .ok (.aload_n 0, 1) := by decide +kernel
theorem dX5_count_91 : decode cX5_count 91 = .ok (.getfield 12, 3) := by decide +kernel
theorem dX5_count_94 : decode cX5_count 94 = .ok (.getfield 150, 3) := by decide +kernel
theorem dX5_count_97 : decode cX5_count 97 = .ok (.getfield 194, 3) := by decide +kernel
theorem dX5_count_100 : decode cX5_count 100 = .ok (.ireturn, 1) := by decide +kernel
theorem dX5_count_101 : decode cX5_count 101 = .ok (.aload_n 0, 1) := by decide +kernel
theorem dX5_count_102 : decode cX5_count 102 = .ok (.getfield 12, 3) := by decide +kernel
theorem dX5_count_105 : decode cX5_count 105 = .ok (.getfield 195, 3) := by decide +kernel
theorem dX5_count_108 : decode cX5_count 108 = .ok (.ireturn, 1) := by decide +kernel
theorem dX5_count_109 : decode cX5_count 109 = .ok (.aload_n 0, 1) := by decide +kernel
theorem dX5_count_110 : decode cX5_count 110 = .ok (.getfield 12, 3) := by decide +kernel
theorem dX5_count_113 : decode cX5_count 113 = .ok (.getfield 198, 3) := by decide +kernel
theorem dX5_count_116 : decode cX5_count 116 = .ok (.ireturn, 1) := by decide +kernel
theorem dX5_count_117 : decode cX5_count 117 = .ok (.aload_n 0, 1) := by decide +kernel
theorem dX5_count_118 : decode cX5_count 118 = .ok (.getfield 19, 3) := by decide +kernel
theorem dX5_count_121 : decode cX5_count 121 = .ok (.getfield 170, 3) := by decide +kernel
theorem dX5_count_124 : decode cX5_count 124 = .ok (.ireturn, 1) := by decide +kernel
theorem dX5_count_125 : decode cX5_count 125 = .ok (.iconst (-1), 1) := by decide +kernel
theorem dX5_count_126 : decode cX5_count 126 = .ok (.ireturn, 1) := by decide +kernel
theorem dX5_image_0 : decode cX5_image 0 = .ok (.aload_n 0, 1) := by decide +kernel
theorem dX5_image_1 : decode cX5_image 1 = .ok (.getfield 26, 3) := by decide +kernel
theorem dX5_image_4 : decode cX5_image 4 = .ok (.ifnonnull 14, 3) := by decide +kernel
theorem dX5_image_7 : decode cX5_image 7 = .ok (.aload_n 0, 1) := by decide +kernel
theorem dX5_image_8 : decode cX5_image 8 = .ok (.new 9, 3) := by decide +kernel
theorem dX5_image_11 : decode cX5_image 11 = .ok (.dup, 1) := by decide +kernel
theorem dX5_image_12 : decode cX5_image 12 = .ok (.invokespecial 11, 3) := by decide +kernel
theorem dX5_image_15 : decode cX5_image 15 = .ok (.putfield 26, 3) := by decide +kernel
theorem dX5_image_18 : decode cX5_image 18 = .ok (.aload_n 0, 1) := by decide +kernel
theorem dX5_image_19 : decode cX5_image 19 = .ok (.getfield 29, 3) := by decide +kernel
theorem dX5_image_22 : decode cX5_image 22 = .ok (.ifnonnull 14, 3) := by decide +kernel
theorem dX5_image_25 : decode cX5_image 25 = .ok (.aload_n 0, 1) := by decide +kernel
theorem dX5_image_26 : decode cX5_image 26 = .ok (.new 16, 3) := by decide +kernel
theorem dX5_image_29 : decode cX5_image 29 = .ok (.dup, 1) := by decide +kernel
theorem dX5_image_30 : decode cX5_image 30 = .ok (.invokespecial 18, 3) := by decide +kernel
theorem dX5_image_33 : decode cX5_image 33 = .ok (.putfield 29, 3) := by decide +kernel
theorem dX5_image_36 : decode cX5_image 36 = .ok (.aload_n 0, 1) := by decide +kernel
theorem dX5_image_37 : decode cX5_image 37 = .ok (.getfield 26, 3) := by decide +kernel
theorem dX5_image_40 : decode cX5_image 40 = .ok (.aload_n 0, 1) := by decide +kernel
theorem dX5_image_41 : decode cX5_image 41 = .ok (.getfield 12, 3) := by decide +kernel
theorem dX5_image_44 : decode cX5_image 44 = .ok (.invokevirtual 201, 3) := by decide +kernel
theorem dX5_image_47 : decode cX5_image 47 = .ok (.aload_n 0, 1) := by decide +kernel
theorem dX5_image_48 : decode cX5_image 48 = .ok (.getfield 29, 3) := by decide +kernel
theorem dX5_image_51 : decode cX5_image 51 = .ok (.aload_n 0, 1) := by decide +kernel
theorem dX5_image_52 : decode cX5_image 52 = .ok (.getfield 19, 3) := by decide +kernel
theorem dX5_image_55 : decode cX5_image 55 = .ok (.invokevirtual 205, 3) := by decide +kernel
theorem dX5_image_58 : decode cX5_image 58 = .ok (.aload_n 0, 1) := by decide +kernel
theorem dX5_image_59 : decode cX5_image 59 = .ok (.getfield 26, 3) := by decide +kernel
theorem dX5_image_62 : decode cX5_image 62 = .ok (.invokevirtual 208, 3) := by decide +kernel
theorem dX5_image_65 : decode cX5_image 65 = .ok (.lreturn, 1) := by decide +kernel
theorem dX5_load_0 : decode cX5_load 0 = .ok (.aload_n 0, 1) := by decide +kernel
theorem dX5_load_1 : decode cX5_load 1 = .ok (.getfield 26, 3) := by decide +kernel
theorem dX5_load_4 : decode cX5_load 4 = .ok (.ifnull 10, 3) := by decide +kernel
theorem dX5_load_7 : decode cX5_load 7 = .ok (.aload_n 0, 1) := by decide +kernel
theorem dX5_load_8 : decode cX5_load 8 = .ok (.getfield 29, 3) := by decide +kernel
theorem dX5_load_11 : decode cX5_load 11 = .ok (.ifnonnull 11, 3) := by decide +kernel
theorem dX5_load_14 : decode cX5_load 14 = .ok (.aload_n 0, 1) := by decide +kernel
theorem dX5_load_15 : decode cX5_load 15 = .ok (.iconst 2, 1) := by decide +kernel
theorem dX5_load_16 : decode cX5_load 16 = .ok (.invokevirtual 43, 3) := by decide +kernel
theorem dX5_load_19 : decode cX5_load 19 = .ok (.pop, 1) := by decide +kernel
theorem dX5_load_20 : decode cX5_load 20 = .ok (.iconst 0, 1) := by decide +kernel
theorem dX5_load_21 : decode cX5_load 21 = .ok (.ireturn, 1) := by decide +kernel
theorem dX5_load_22 : decode cX5_load 22 = .ok (.aload_n 0, 1) := by decide +kernel
theorem dX5_load_23 : decode cX5_load 23 = .ok (.getfield 12, 3) := by decide +kernel
theorem dX5_load_26 : decode cX5_load 26 = .ok (.aload_n 0, 1) := by decide +kernel
theorem dX5_load_27 : decode cX5_load 27 = .ok (.getfield 26, 3) := by decide +kernel
theorem dX5_load_30 : decode cX5_load 30 = .ok (.invokevirtual 201, 3) := by decide +kernel
theorem dX5_load_33 : decode cX5_load 33 = .ok (.aload_n 0, 1) := by decide +kernel
theorem dX5_load_34 : decode cX5_load 34 = .ok (.getfield 19, 3) := by decide +kernel
theorem dX5_load_37 : decode cX5_load 37 = .ok (.aload_n 0, 1) := by decide +kernel
theorem dX5_load_38 : decode cX5_load 38 = .ok (.getfield 29, 3) := by decide +kernel
theorem dX5_load_41 : decode cX5_load 41 = .ok (.invokevirtual 205, 3) := by decide +kernel
theorem dX5_load_44 : decode cX5_load 44 = .ok (.aload_n 0, 1) := by decide +kernel
theorem dX5_load_45 : decode cX5_load 45 = .ok (.iconst 0, 1) := by decide +kernel
theorem dX5_load_46 : decode cX5_load 46 = .ok (.putfield 32, 3) := by decide +kernel
theorem dX5_load_49 : decode cX5_load 49 = .ok (.iconst 1, 1) := by decide +kernel
theorem dX5_load_50 : decode cX5_load 50 = .ok (.ireturn, 1) := by decide +kernel
theorem dX5_digest_0 : decode cX5_digest 0 = .ok (.aload_n 0, 1) := by decide +kernel
theorem dX5_digest_1 : decode cX5_digest 1 = .ok (.getfield 12, 3) := by decide +kernel
theorem dX5_digest_4 : decode cX5_digest 4 = .ok (.invokevirtual 208, 3) := by decide +kernel
theorem dX5_digest_7 : decode cX5_digest 7 = .ok (.lreturn, 1) := by decide +kernel
theorem dX5_status_0 : decode cX5_status 0 = .ok (.aload_n 0, 1) := by decide +kernel
theorem dX5_status_1 : decode cX5_status 1 = .ok (.getfield 32, 3) := by decide +kernel
theorem dX5_status_4 : decode cX5_status 4 = .ok (.ireturn, 1) := by decide +kernel
theorem dX5_refused_0 : decode cX5_refused 0 = .ok (.aload_n 0, 1) := by decide +kernel
theorem dX5_refused_1 : decode cX5_refused 1 = .ok (.iload_n 1, 1) := by decide +kernel
theorem dX5_refused_2 : decode cX5_refused 2 = .ok (.putfield 32, 3) := by decide +kernel
theorem dX5_refused_5 : decode cX5_refused 5 = .ok (.iconst (-1), 1) := by decide +kernel
theorem dX5_refused_6 : decode cX5_refused 6 = .ok (.ireturn, 1) := by decide +kernel
theorem dX5_noted_0 : decode cX5_noted 0 = .ok (.aload_n 0, 1) := by decide +kernel
theorem dX5_noted_1 : decode cX5_noted 1 = .ok (.getfield 19, 3) := by decide +kernel
theorem dX5_noted_4 : decode cX5_noted 4 = .ok (.iload_n 1, 1) := by decide +kernel
theorem dX5_noted_5 : decode cX5_noted 5 = .ok (.lload_n 2, 1) := by decide +kernel
theorem dX5_noted_6 : decode cX5_noted 6 = .ok (.lload 4, 2) := by decide +kernel
theorem dX5_noted_8 : decode cX5_noted 8 = .ok (.lload 6, 2) := by decide +kernel
theorem dX5_noted_10 : decode cX5_noted 10 = .ok (.invokevirtual 212, 3) := by decide +kernel
theorem dX5_noted_13 : decode cX5_noted 13 = .ok (.istore 8, 2) := by decide +kernel
theorem dX5_noted_15 : decode cX5_noted 15 = .ok (.aload_n 0, 1) := by decide +kernel
theorem dX5_noted_16 : decode cX5_noted 16 = .ok (.iload 8, 2) := by decide +kernel
theorem dX5_noted_18 : decode cX5_noted 18 = .ok (.ifCond .eq 7, 3) := by decide +kernel
theorem dX5_noted_21 : decode cX5_noted 21 = .ok (.iconst 0, 1) := by decide +kernel
theorem dX5_noted_22 : decode cX5_noted 22 = .ok (.goto 4, 3) := by decide +kernel
theorem dX5_noted_25 : decode cX5_noted 25 = .ok (.iconst 5, 1) := by decide +kernel
theorem dX5_noted_26 : decode cX5_noted 26 = .ok (.putfield 32, 3) := by decide +kernel
theorem dX5_noted_29 : decode cX5_noted 29 = .ok (.iload 8, 2) := by decide +kernel
theorem dX5_noted_31 : decode cX5_noted 31 = .ok (.ireturn, 1) := by decide +kernel
theorem dX5_redo_0 : decode cX5_redo 0 = .ok (.aload_n 0, 1) := by decide +kernel
theorem dX5_redo_1 : decode cX5_redo 1 = .ok (.getfield 19, 3) := by decide +kernel
theorem dX5_redo_4 : decode cX5_redo 4 = .ok (.iload_n 1, 1) := by decide +kernel
theorem dX5_redo_5 : decode cX5_redo 5 = .ok (.iconst 1, 1) := by decide +kernel
theorem dX5_redo_6 : decode cX5_redo 6 = .ok (.invokevirtual 215, 3) := by decide +kernel
theorem dX5_redo_9 : decode cX5_redo 9 = .ok (.l2i, 1) := by decide +kernel
theorem dX5_redo_10 : decode cX5_redo 10 = .ok (.istore_n 3, 1) := by decide +kernel
theorem dX5_redo_11 : decode cX5_redo 11 = .ok (.aload_n 0, 1) := by decide +kernel
theorem dX5_redo_12 : decode cX5_redo 12 = .ok (.getfield 19, 3) := by decide +kernel
theorem dX5_redo_15 : decode cX5_redo 15 = .ok (.iload_n 1, 1) := by decide +kernel
theorem dX5_redo_16 : decode cX5_redo 16 = .ok (.iconst 2, 1) := by decide +kernel
theorem dX5_redo_17 : decode cX5_redo 17 = .ok (.invokevirtual 215, 3) := by decide +kernel
theorem dX5_redo_20 : decode cX5_redo 20 = .ok (.l2i, 1) := by decide +kernel
theorem dX5_redo_21 : decode cX5_redo 21 = .ok (.istore 4, 2) := by decide +kernel
theorem dX5_redo_23 : decode cX5_redo 23 = .ok (.aload_n 0, 1) := by decide +kernel
theorem dX5_redo_24 : decode cX5_redo 24 = .ok (.getfield 19, 3) := by decide +kernel
theorem dX5_redo_27 : decode cX5_redo 27 = .ok (.iload_n 1, 1) := by decide +kernel
theorem dX5_redo_28 : decode cX5_redo 28 = .ok (.iconst 3, 1) := by decide +kernel
theorem dX5_redo_29 : decode cX5_redo 29 = .ok (.invokevirtual 215, 3) := by decide +kernel
theorem dX5_redo_32 : decode cX5_redo 32 = .ok (.l2i, 1) := by decide +kernel
theorem dX5_redo_33 : decode cX5_redo 33 = .ok (.istore 5, 2) := by decide +kernel
theorem dX5_redo_35 : decode cX5_redo 35 = .ok (.aload_n 2, 1) := by decide +kernel
theorem dX5_redo_36 : decode cX5_redo 36 = .ok (.iload_n 3, 1) := by decide +kernel
theorem dX5_redo_37 : decode cX5_redo 37 = .ok (.invokevirtual 112, 3) := by decide +kernel
theorem dX5_redo_40 : decode cX5_redo 40 = .ok (.astore 6, 2) := by decide +kernel
theorem dX5_redo_42 : decode cX5_redo 42 = .ok (.aload_n 2, 1) := by decide +kernel
theorem dX5_redo_43 : decode cX5_redo 43 = .ok (.iload_n 3, 1) := by decide +kernel
theorem dX5_redo_44 : decode cX5_redo 44 = .ok (.invokevirtual 39, 3) := by decide +kernel
theorem dX5_redo_47 : decode cX5_redo 47 = .ok (.astore 7, 2) := by decide +kernel
theorem dX5_redo_49 : decode cX5_redo 49 = .ok (.aload_n 0, 1) := by decide +kernel
theorem dX5_redo_50 : decode cX5_redo 50 = .ok (.getfield 19, 3) := by decide +kernel
theorem dX5_redo_53 : decode cX5_redo 53 = .ok (.iload_n 1, 1) := by decide +kernel
theorem dX5_redo_54 : decode cX5_redo 54 = .ok (.iconst 0, 1) := by decide +kernel
theorem dX5_redo_55 : decode cX5_redo 55 = .ok (.invokevirtual 215, 3) := by decide +kernel
theorem dX5_redo_58 : decode cX5_redo 58 = .ok (.l2i, 1) := by decide +kernel
theorem dX5_redo_59 : decode cX5_redo 59 = .ok (.tableswitch 155 0 7 #[45, 70, 83, 99, 120, 129, 137, 146], 45) := by decide +kernel
theorem dX5_redo_104 : decode cX5_redo 104 = .ok (.aload 7, 2) := by decide +kernel
theorem dX5_redo_106 : decode cX5_redo 106 = .ok (.ifnull 108, 3) := by decide +kernel
theorem dX5_redo_109 : decode cX5_redo 109 = .ok (.aload 7, 2) := by decide +kernel
theorem dX5_redo_111 : decode cX5_redo 111 = .ok (.aload_n 0, 1) := by decide +kernel
theorem dX5_redo_112 : decode cX5_redo 112 = .ok (.getfield 19, 3) := by decide +kernel
theorem dX5_redo_115 : decode cX5_redo 115 = .ok (.iload_n 1, 1) := by decide +kernel
theorem dX5_redo_116 : decode cX5_redo 116 = .ok (.iconst 2, 1) := by decide +kernel
theorem dX5_redo_117 : decode cX5_redo 117 = .ok (.invokevirtual 215, 3) := by decide +kernel
theorem dX5_redo_120 : decode cX5_redo 120 = .ok (.iload 5, 2) := by decide +kernel
theorem dX5_redo_122 : decode cX5_redo 122 = .ok (.invokevirtual 57, 3) := by decide +kernel
theorem dX5_redo_125 : decode cX5_redo 125 = .ok (.pop, 1) := by decide +kernel
theorem dX5_redo_126 : decode cX5_redo 126 = .ok (.goto 88, 3) := by decide +kernel
theorem dX5_redo_129 : decode cX5_redo 129 = .ok (.aload_n 2, 1) := by decide +kernel
theorem dX5_redo_130 : decode cX5_redo 130 = .ok (.iload_n 3, 1) := by decide +kernel
theorem dX5_redo_131 : decode cX5_redo 131 = .ok (.iload 4, 2) := by decide +kernel
theorem dX5_redo_133 : decode cX5_redo 133 = .ok (.iload 5, 2) := by decide +kernel
theorem dX5_redo_135 : decode cX5_redo 135 = .ok (.invokevirtual 68, 3) := by decide +kernel
theorem dX5_redo_138 : decode cX5_redo 138 = .ok (.pop, 1) := by decide +kernel
theorem dX5_redo_139 : decode cX5_redo 139 = .ok (.goto 75, 3) := by decide +kernel
theorem dX5_redo_142 : decode cX5_redo 142 = .ok (.aload 6, 2) := by decide +kernel
theorem dX5_redo_144 : decode cX5_redo 144 = .ok (.ifnull 70, 3) := by decide +kernel
theorem dX5_redo_147 : decode cX5_redo 147 = .ok (.aload 6, 2) := by decide +kernel
theorem dX5_redo_149 : decode cX5_redo 149 = .ok (.iload 4, 2) := by decide +kernel
theorem dX5_redo_151 : decode cX5_redo 151 = .ok (.invokevirtual 76, 3) := by decide +kernel
theorem dX5_redo_154 : decode cX5_redo 154 = .ok (.pop, 1) := by decide +kernel
theorem dX5_redo_155 : decode cX5_redo 155 = .ok (.goto 59, 3) := by decide +kernel
theorem dX5_redo_158 : decode cX5_redo 158 = .ok (.aload 6, 2) := by decide +kernel
theorem dX5_redo_160 : decode cX5_redo 160 = .ok (.ifnull 54, 3) := by decide +kernel
theorem dX5_redo_163 : decode cX5_redo 163 = .ok (.aload 6, 2) := by decide +kernel
theorem dX5_redo_165 : decode cX5_redo 165 = .ok (.iload 4, 2) := by decide +kernel
theorem dX5_redo_167 : decode cX5_redo 167 = .ok (.iload 5, 2) := by decide +kernel
theorem dX5_redo_169 : decode cX5_redo 169 = .ok (.aload_n 2, 1) := by decide +kernel
theorem dX5_redo_170 : decode cX5_redo 170 = .ok (.getfield 85, 3) := by decide +kernel
theorem dX5_redo_173 : decode cX5_redo 173 = .ok (.invokevirtual 88, 3) := by decide +kernel
theorem dX5_redo_176 : decode cX5_redo 176 = .ok (.goto 38, 3) := by decide +kernel
theorem dX5_redo_179 : decode cX5_redo 179 = .ok (.aload_n 2, 1) := by decide +kernel
theorem dX5_redo_180 : decode cX5_redo 180 = .ok (.iload_n 3, 1) := by decide +kernel
theorem dX5_redo_181 : decode cX5_redo 181 = .ok (.invokevirtual 92, 3) := by decide +kernel
theorem dX5_redo_184 : decode cX5_redo 184 = .ok (.pop, 1) := by decide +kernel
theorem dX5_redo_185 : decode cX5_redo 185 = .ok (.goto 29, 3) := by decide +kernel
theorem dX5_redo_188 : decode cX5_redo 188 = .ok (.aload_n 2, 1) := by decide +kernel
theorem dX5_redo_189 : decode cX5_redo 189 = .ok (.iload_n 3, 1) := by decide +kernel
theorem dX5_redo_190 : decode cX5_redo 190 = .ok (.invokevirtual 98, 3) := by decide +kernel
theorem dX5_redo_193 : decode cX5_redo 193 = .ok (.goto 21, 3) := by decide +kernel
theorem dX5_redo_196 : decode cX5_redo 196 = .ok (.aload_n 2, 1) := by decide +kernel
theorem dX5_redo_197 : decode cX5_redo 197 = .ok (.iload_n 3, 1) := by decide +kernel
theorem dX5_redo_198 : decode cX5_redo 198 = .ok (.invokevirtual 102, 3) := by decide +kernel
theorem dX5_redo_201 : decode cX5_redo 201 = .ok (.pop, 1) := by decide +kernel
theorem dX5_redo_202 : decode cX5_redo 202 = .ok (.goto 12, 3) := by decide +kernel
theorem dX5_redo_205 : decode cX5_redo 205 = .ok (.aload_n 2, 1) := by decide +kernel
theorem dX5_redo_206 : decode cX5_redo 206 = .ok (.iload_n 3, 1) := by decide +kernel
theorem dX5_redo_207 : decode cX5_redo 207 = .ok (.invokevirtual 105, 3) := by decide +kernel
theorem dX5_redo_210 : decode cX5_redo 210 = .ok (.pop, 1) := by decide +kernel
theorem dX5_redo_211 : decode cX5_redo 211 = .ok (.goto 3, 3) := by decide +kernel
theorem dX5_redo_214 : decode cX5_redo 214 = .ok (.return_, 1) := by decide +kernel
theorem dX5_isShare_0 : decode cX5_isShare 0 = .ok (.iload_n 0, 1) := by decide +kernel
theorem dX5_isShare_1 : decode cX5_isShare 1 = .ok (.iconst 1, 1) := by decide +kernel
theorem dX5_isShare_2 : decode cX5_isShare 2 = .ok (.if_icmp .lt 14, 3) := by decide +kernel
theorem dX5_isShare_5 : decode cX5_isShare 5 = .ok (.iload_n 0, 1) := by decide +kernel
theorem dX5_isShare_6 : decode cX5_isShare 6 = .ok (.sipush 1000, 3) := by decide +kernel
theorem dX5_isShare_9 : decode cX5_isShare 9 = .ok (.if_icmp .gt 7, 3) := by decide +kernel
theorem dX5_isShare_12 : decode cX5_isShare 12 = .ok (.iconst 1, 1) := by decide +kernel
theorem dX5_isShare_13 : decode cX5_isShare 13 = .ok (.goto 4, 3) := by decide +kernel
theorem dX5_isShare_16 : decode cX5_isShare 16 = .ok (.iconst 0, 1) := by decide +kernel
theorem dX5_isShare_17 : decode cX5_isShare 17 = .ok (.ireturn, 1) := by decide +kernel
theorem dX5_classOf_0 : decode cX5_classOf 0 = .ok (.lload_n 0, 1) := by decide +kernel
theorem dX5_classOf_1 : decode cX5_classOf 1 = .ok (.bipush 48, 2) := by decide +kernel
theorem dX5_classOf_3 : decode cX5_classOf 3 = .ok (.lshr, 1) := by decide +kernel
theorem dX5_classOf_4 : decode cX5_classOf 4 = .ok (.l2i, 1) := by decide +kernel
theorem dX5_classOf_5 : decode cX5_classOf 5 = .ok (.ireturn, 1) := by decide +kernel
theorem dX5_keyOf_0 : decode cX5_keyOf 0 = .ok (.lload_n 0, 1) := by decide +kernel
theorem dX5_keyOf_1 : decode cX5_keyOf 1 = .ok (.bipush 8, 2) := by decide +kernel
theorem dX5_keyOf_3 : decode cX5_keyOf 3 = .ok (.lshr, 1) := by decide +kernel
theorem dX5_keyOf_4 : decode cX5_keyOf 4 = .ok (.ldc2_w 218, 3) := by decide +kernel
theorem dX5_keyOf_7 : decode cX5_keyOf 7 = .ok (.land, 1) := by decide +kernel
theorem dX5_keyOf_8 : decode cX5_keyOf 8 = .ok (.lreturn, 1) := by decide +kernel
theorem dX5_numberOf_0 : decode cX5_numberOf 0 = .ok (.lload_n 0, 1) := by decide +kernel
theorem dX5_numberOf_1 : decode cX5_numberOf 1 = .ok (.ldc2_w 220, 3) := by decide +kernel
theorem dX5_numberOf_4 : decode cX5_numberOf 4 = .ok (.land, 1) := by decide +kernel
theorem dX5_numberOf_5 : decode cX5_numberOf 5 = .ok (.l2i, 1) := by decide +kernel
theorem dX5_numberOf_6 : decode cX5_numberOf 6 = .ok (.ireturn, 1) := by decide +kernel
theorem dJ9_max_7cf53_0 : decode cJ9_max_7cf53 0 = .ok (.iload_n 0, 1) := by decide +kernel
theorem dJ9_max_7cf53_1 : decode cJ9_max_7cf53 1 = .ok (.iload_n 1, 1) := by decide +kernel
theorem dJ9_max_7cf53_2 : decode cJ9_max_7cf53 2 = .ok (.if_icmp .lt 7, 3) := by decide +kernel
theorem dJ9_max_7cf53_5 : decode cJ9_max_7cf53 5 = .ok (.iload_n 0, 1) := by decide +kernel
theorem dJ9_max_7cf53_6 : decode cJ9_max_7cf53 6 = .ok (.goto 4, 3) := by decide +kernel
theorem dJ9_max_7cf53_9 : decode cJ9_max_7cf53 9 = .ok (.iload_n 1, 1) := by decide +kernel
theorem dJ9_max_7cf53_10 : decode cJ9_max_7cf53 10 = .ok (.ireturn, 1) := by decide +kernel
theorem dJ9_max_f86c9_0 : decode cJ9_max_f86c9 0 = .ok (.lload_n 0, 1) := by decide +kernel
theorem dJ9_max_f86c9_1 : decode cJ9_max_f86c9 1 = .ok (.lload_n 2, 1) := by decide +kernel
theorem dJ9_max_f86c9_2 : decode cJ9_max_f86c9 2 = .ok (.lcmp, 1) := by decide +kernel
theorem dJ9_max_f86c9_3 : decode cJ9_max_f86c9 3 = .ok (.ifCond .lt 7, 3) := by decide +kernel
theorem dJ9_max_f86c9_6 : decode cJ9_max_f86c9 6 = .ok (.lload_n 0, 1) := by decide +kernel
theorem dJ9_max_f86c9_7 : decode cJ9_max_f86c9 7 = .ok (.goto 4, 3) := by decide +kernel
theorem dJ9_max_f86c9_10 : decode cJ9_max_f86c9 10 = .ok (.lload_n 2, 1) := by decide +kernel
theorem dJ9_max_f86c9_11 : decode cJ9_max_f86c9 11 = .ok (.lreturn, 1) := by decide +kernel
theorem dJ9_min_7cf53_0 : decode cJ9_min_7cf53 0 = .ok (.iload_n 0, 1) := by decide +kernel
theorem dJ9_min_7cf53_1 : decode cJ9_min_7cf53 1 = .ok (.iload_n 1, 1) := by decide +kernel
theorem dJ9_min_7cf53_2 : decode cJ9_min_7cf53 2 = .ok (.if_icmp .gt 7, 3) := by decide +kernel
theorem dJ9_min_7cf53_5 : decode cJ9_min_7cf53 5 = .ok (.iload_n 0, 1) := by decide +kernel
theorem dJ9_min_7cf53_6 : decode cJ9_min_7cf53 6 = .ok (.goto 4, 3) := by decide +kernel
theorem dJ9_min_7cf53_9 : decode cJ9_min_7cf53 9 = .ok (.iload_n 1, 1) := by decide +kernel
theorem dJ9_min_7cf53_10 : decode cJ9_min_7cf53 10 = .ok (.ireturn, 1) := by decide +kernel
theorem dJ7_fill_53178_0 : decode cJ7_fill_53178 0 = .ok (.iconst 0, 1) := by decide +kernel
theorem dJ7_fill_53178_1 : decode cJ7_fill_53178 1 = .ok (.istore_n 2, 1) := by decide +kernel
theorem dJ7_fill_53178_2 : decode cJ7_fill_53178 2 = .ok (.aload_n 0, 1) := by decide +kernel
theorem dJ7_fill_53178_3 : decode cJ7_fill_53178 3 = .ok (.arraylength, 1) := by decide +kernel
theorem dJ7_fill_53178_4 : decode cJ7_fill_53178 4 = .ok (.istore_n 3, 1) := by decide +kernel
theorem dJ7_fill_53178_5 : decode cJ7_fill_53178 5 = .ok (.iload_n 2, 1) := by decide +kernel
theorem dJ7_fill_53178_6 : decode cJ7_fill_53178 6 = .ok (.iload_n 3, 1) := by decide +kernel
theorem dJ7_fill_53178_7 : decode cJ7_fill_53178 7 = .ok (.if_icmp .ge 13, 3) := by decide +kernel
theorem dJ7_fill_53178_10 : decode cJ7_fill_53178 10 = .ok (.aload_n 0, 1) := by decide +kernel
theorem dJ7_fill_53178_11 : decode cJ7_fill_53178 11 = .ok (.iload_n 2, 1) := by decide +kernel
theorem dJ7_fill_53178_12 : decode cJ7_fill_53178 12 = .ok (.iload_n 1, 1) := by decide +kernel
theorem dJ7_fill_53178_13 : decode cJ7_fill_53178 13 = .ok (.iastore, 1) := by decide +kernel
theorem dJ7_fill_53178_14 : decode cJ7_fill_53178 14 = .ok (.iinc 2 1, 3) := by decide +kernel
theorem dJ7_fill_53178_17 : decode cJ7_fill_53178 17 = .ok (.goto (-12), 3) := by decide +kernel
theorem dJ7_fill_53178_20 : decode cJ7_fill_53178 20 = .ok (.return_, 1) := by decide +kernel
theorem dJ7_fill_fb410_0 : decode cJ7_fill_fb410 0 = .ok (.iconst 0, 1) := by decide +kernel
theorem dJ7_fill_fb410_1 : decode cJ7_fill_fb410 1 = .ok (.istore_n 2, 1) := by decide +kernel
theorem dJ7_fill_fb410_2 : decode cJ7_fill_fb410 2 = .ok (.aload_n 0, 1) := by decide +kernel
theorem dJ7_fill_fb410_3 : decode cJ7_fill_fb410 3 = .ok (.arraylength, 1) := by decide +kernel
theorem dJ7_fill_fb410_4 : decode cJ7_fill_fb410 4 = .ok (.istore_n 3, 1) := by decide +kernel
theorem dJ7_fill_fb410_5 : decode cJ7_fill_fb410 5 = .ok (.iload_n 2, 1) := by decide +kernel
theorem dJ7_fill_fb410_6 : decode cJ7_fill_fb410 6 = .ok (.iload_n 3, 1) := by decide +kernel
theorem dJ7_fill_fb410_7 : decode cJ7_fill_fb410 7 = .ok (.if_icmp .ge 13, 3) := by decide +kernel
theorem dJ7_fill_fb410_10 : decode cJ7_fill_fb410 10 = .ok (.aload_n 0, 1) := by decide +kernel
theorem dJ7_fill_fb410_11 : decode cJ7_fill_fb410 11 = .ok (.iload_n 2, 1) := by decide +kernel
theorem dJ7_fill_fb410_12 : decode cJ7_fill_fb410 12 = .ok (.iload_n 1, 1) := by decide +kernel
theorem dJ7_fill_fb410_13 : decode cJ7_fill_fb410 13 = .ok (.sastore, 1) := by decide +kernel
theorem dJ7_fill_fb410_14 : decode cJ7_fill_fb410 14 = .ok (.iinc 2 1, 3) := by decide +kernel
theorem dJ7_fill_fb410_17 : decode cJ7_fill_fb410 17 = .ok (.goto (-12), 3) := by decide +kernel
theorem dJ7_fill_fb410_20 : decode cJ7_fill_fb410 20 = .ok (.return_, 1) := by decide +kernel
theorem dJ7_copyOf_9075b_0 : decode cJ7_copyOf_9075b 0 = .ok (.iload_n 1, 1) := by decide +kernel
theorem dJ7_copyOf_9075b_1 : decode cJ7_copyOf_9075b 1 = .ok (.aload_n 0, 1) := by decide +kernel
theorem dJ7_copyOf_9075b_2 : decode cJ7_copyOf_9075b 2 = .ok (.arraylength, 1) := by decide +kernel
theorem dJ7_copyOf_9075b_3 : decode cJ7_copyOf_9075b 3 = .ok (.if_icmp .ne 11, 3) := by decide +kernel
theorem dJ7_copyOf_9075b_6 : decode cJ7_copyOf_9075b 6 = .ok (.aload_n 0, 1) := by decide +kernel
theorem dJ7_copyOf_9075b_7 : decode cJ7_copyOf_9075b 7 = .ok (.invokevirtual 310, 3) := by decide +kernel
theorem dJ7_copyOf_9075b_10 : decode cJ7_copyOf_9075b 10 = .ok (.checkcast 311, 3) := by decide +kernel
theorem dJ7_copyOf_9075b_13 : decode cJ7_copyOf_9075b 13 = .ok (.areturn, 1) := by decide +kernel
theorem dJ7_copyOf_9075b_14 : decode cJ7_copyOf_9075b 14 = .ok (.iload_n 1, 1) := by decide +kernel
theorem dJ7_copyOf_9075b_15 : decode cJ7_copyOf_9075b 15 = .ok (.newarray .byte, 2) := by decide +kernel
theorem dJ7_copyOf_9075b_17 : decode cJ7_copyOf_9075b 17 = .ok (.astore_n 2, 1) := by decide +kernel
theorem dJ7_copyOf_9075b_18 : decode cJ7_copyOf_9075b 18 = .ok (.aload_n 0, 1) := by decide +kernel
theorem dJ7_copyOf_9075b_19 : decode cJ7_copyOf_9075b 19 = .ok (.iconst 0, 1) := by decide +kernel
theorem dJ7_copyOf_9075b_20 : decode cJ7_copyOf_9075b 20 = .ok (.aload_n 2, 1) := by decide +kernel
theorem dJ7_copyOf_9075b_21 : decode cJ7_copyOf_9075b 21 = .ok (.iconst 0, 1) := by decide +kernel
theorem dJ7_copyOf_9075b_22 : decode cJ7_copyOf_9075b 22 = .ok (.aload_n 0, 1) := by decide +kernel
theorem dJ7_copyOf_9075b_23 : decode cJ7_copyOf_9075b 23 = .ok (.arraylength, 1) := by decide +kernel
theorem dJ7_copyOf_9075b_24 : decode cJ7_copyOf_9075b 24 = .ok (.iload_n 1, 1) := by decide +kernel
theorem dJ7_copyOf_9075b_25 : decode cJ7_copyOf_9075b 25 = .ok (.invokestatic 304, 3) := by decide +kernel
theorem dJ7_copyOf_9075b_28 : decode cJ7_copyOf_9075b 28 = .ok (.invokestatic 150, 3) := by decide +kernel
theorem dJ7_copyOf_9075b_31 : decode cJ7_copyOf_9075b 31 = .ok (.aload_n 2, 1) := by decide +kernel
theorem dJ7_copyOf_9075b_32 : decode cJ7_copyOf_9075b 32 = .ok (.areturn, 1) := by decide +kernel
theorem dJ7_copyOf_59c91_0 : decode cJ7_copyOf_59c91 0 = .ok (.iload_n 1, 1) := by decide +kernel
theorem dJ7_copyOf_59c91_1 : decode cJ7_copyOf_59c91 1 = .ok (.aload_n 0, 1) := by decide +kernel
theorem dJ7_copyOf_59c91_2 : decode cJ7_copyOf_59c91 2 = .ok (.arraylength, 1) := by decide +kernel
theorem dJ7_copyOf_59c91_3 : decode cJ7_copyOf_59c91 3 = .ok (.if_icmp .ne 11, 3) := by decide +kernel
theorem dJ7_copyOf_59c91_6 : decode cJ7_copyOf_59c91 6 = .ok (.aload_n 0, 1) := by decide +kernel
theorem dJ7_copyOf_59c91_7 : decode cJ7_copyOf_59c91 7 = .ok (.invokevirtual 316, 3) := by decide +kernel
theorem dJ7_copyOf_59c91_10 : decode cJ7_copyOf_59c91 10 = .ok (.checkcast 317, 3) := by decide +kernel
theorem dJ7_copyOf_59c91_13 : decode cJ7_copyOf_59c91 13 = .ok (.areturn, 1) := by decide +kernel
theorem dJ7_copyOf_59c91_14 : decode cJ7_copyOf_59c91 14 = .ok (.iload_n 1, 1) := by decide +kernel
theorem dJ7_copyOf_59c91_15 : decode cJ7_copyOf_59c91 15 = .ok (.newarray .int, 2) := by decide +kernel
theorem dJ7_copyOf_59c91_17 : decode cJ7_copyOf_59c91 17 = .ok (.astore_n 2, 1) := by decide +kernel
theorem dJ7_copyOf_59c91_18 : decode cJ7_copyOf_59c91 18 = .ok (.aload_n 0, 1) := by decide +kernel
theorem dJ7_copyOf_59c91_19 : decode cJ7_copyOf_59c91 19 = .ok (.iconst 0, 1) := by decide +kernel
theorem dJ7_copyOf_59c91_20 : decode cJ7_copyOf_59c91 20 = .ok (.aload_n 2, 1) := by decide +kernel
theorem dJ7_copyOf_59c91_21 : decode cJ7_copyOf_59c91 21 = .ok (.iconst 0, 1) := by decide +kernel
theorem dJ7_copyOf_59c91_22 : decode cJ7_copyOf_59c91 22 = .ok (.aload_n 0, 1) := by decide +kernel
theorem dJ7_copyOf_59c91_23 : decode cJ7_copyOf_59c91 23 = .ok (.arraylength, 1) := by decide +kernel
theorem dJ7_copyOf_59c91_24 : decode cJ7_copyOf_59c91 24 = .ok (.iload_n 1, 1) := by decide +kernel
theorem dJ7_copyOf_59c91_25 : decode cJ7_copyOf_59c91 25 = .ok (.invokestatic 304, 3) := by decide +kernel
theorem dJ7_copyOf_59c91_28 : decode cJ7_copyOf_59c91 28 = .ok (.invokestatic 150, 3) := by decide +kernel
theorem dJ7_copyOf_59c91_31 : decode cJ7_copyOf_59c91 31 = .ok (.aload_n 2, 1) := by decide +kernel
theorem dJ7_copyOf_59c91_32 : decode cJ7_copyOf_59c91 32 = .ok (.areturn, 1) := by decide +kernel
theorem dJ7_copyOf_c38d5_0 : decode cJ7_copyOf_c38d5 0 = .ok (.iload_n 1, 1) := by decide +kernel
theorem dJ7_copyOf_c38d5_1 : decode cJ7_copyOf_c38d5 1 = .ok (.aload_n 0, 1) := by decide +kernel
theorem dJ7_copyOf_c38d5_2 : decode cJ7_copyOf_c38d5 2 = .ok (.arraylength, 1) := by decide +kernel
theorem dJ7_copyOf_c38d5_3 : decode cJ7_copyOf_c38d5 3 = .ok (.if_icmp .ne 11, 3) := by decide +kernel
theorem dJ7_copyOf_c38d5_6 : decode cJ7_copyOf_c38d5 6 = .ok (.aload_n 0, 1) := by decide +kernel
theorem dJ7_copyOf_c38d5_7 : decode cJ7_copyOf_c38d5 7 = .ok (.invokevirtual 319, 3) := by decide +kernel
theorem dJ7_copyOf_c38d5_10 : decode cJ7_copyOf_c38d5 10 = .ok (.checkcast 320, 3) := by decide +kernel
theorem dJ7_copyOf_c38d5_13 : decode cJ7_copyOf_c38d5 13 = .ok (.areturn, 1) := by decide +kernel
theorem dJ7_copyOf_c38d5_14 : decode cJ7_copyOf_c38d5 14 = .ok (.iload_n 1, 1) := by decide +kernel
theorem dJ7_copyOf_c38d5_15 : decode cJ7_copyOf_c38d5 15 = .ok (.newarray .long, 2) := by decide +kernel
theorem dJ7_copyOf_c38d5_17 : decode cJ7_copyOf_c38d5 17 = .ok (.astore_n 2, 1) := by decide +kernel
theorem dJ7_copyOf_c38d5_18 : decode cJ7_copyOf_c38d5 18 = .ok (.aload_n 0, 1) := by decide +kernel
theorem dJ7_copyOf_c38d5_19 : decode cJ7_copyOf_c38d5 19 = .ok (.iconst 0, 1) := by decide +kernel
theorem dJ7_copyOf_c38d5_20 : decode cJ7_copyOf_c38d5 20 = .ok (.aload_n 2, 1) := by decide +kernel
theorem dJ7_copyOf_c38d5_21 : decode cJ7_copyOf_c38d5 21 = .ok (.iconst 0, 1) := by decide +kernel
theorem dJ7_copyOf_c38d5_22 : decode cJ7_copyOf_c38d5 22 = .ok (.aload_n 0, 1) := by decide +kernel
theorem dJ7_copyOf_c38d5_23 : decode cJ7_copyOf_c38d5 23 = .ok (.arraylength, 1) := by decide +kernel
theorem dJ7_copyOf_c38d5_24 : decode cJ7_copyOf_c38d5 24 = .ok (.iload_n 1, 1) := by decide +kernel
theorem dJ7_copyOf_c38d5_25 : decode cJ7_copyOf_c38d5 25 = .ok (.invokestatic 304, 3) := by decide +kernel
theorem dJ7_copyOf_c38d5_28 : decode cJ7_copyOf_c38d5 28 = .ok (.invokestatic 150, 3) := by decide +kernel
theorem dJ7_copyOf_c38d5_31 : decode cJ7_copyOf_c38d5 31 = .ok (.aload_n 2, 1) := by decide +kernel
theorem dJ7_copyOf_c38d5_32 : decode cJ7_copyOf_c38d5 32 = .ok (.areturn, 1) := by decide +kernel
end
section
theorem dL_law_0 : decode cL_law 0 = .ok (.new 7, 3) := by decide +kernel
theorem dL_law_3 : decode cL_law 3 = .ok (.dup, 1) := by decide +kernel
theorem dL_law_4 : decode cL_law 4 = .ok (.invokespecial 9, 3) := by decide +kernel
theorem dL_law_7 : decode cL_law 7 = .ok (.astore_n 1, 1) := by decide +kernel
theorem dL_law_8 : decode cL_law 8 = .ok (.new 10, 3) := by decide +kernel
theorem dL_law_11 : decode cL_law 11 = .ok (.dup, 1) := by decide +kernel
theorem dL_law_12 : decode cL_law 12 = .ok (.invokespecial 12, 3) := by decide +kernel
theorem dL_law_15 : decode cL_law 15 = .ok (.astore_n 2, 1) := by decide +kernel
theorem dL_law_16 : decode cL_law 16 = .ok (.iconst 0, 1) := by decide +kernel
theorem dL_law_17 : decode cL_law 17 = .ok (.istore_n 3, 1) := by decide +kernel
theorem dL_law_18 : decode cL_law 18 = .ok (.iload_n 3, 1) := by decide +kernel
theorem dL_law_19 : decode cL_law 19 = .ok (.aload_n 0, 1) := by decide +kernel
theorem dL_law_20 : decode cL_law 20 = .ok (.arraylength, 1) := by decide +kernel
theorem dL_law_21 : decode cL_law 21 = .ok (.iconst 5, 1) := by decide +kernel
theorem dL_law_22 : decode cL_law 22 = .ok (.isub, 1) := by decide +kernel
theorem dL_law_23 : decode cL_law 23 = .ok (.if_icmp .gt 838, 3) := by decide +kernel
theorem dL_law_26 : decode cL_law 26 = .ok (.aload_n 0, 1) := by decide +kernel
theorem dL_law_27 : decode cL_law 27 = .ok (.iload_n 3, 1) := by decide +kernel
theorem dL_law_28 : decode cL_law 28 = .ok (.iaload, 1) := by decide +kernel
theorem dL_law_29 : decode cL_law 29 = .ok (.bipush 31, 2) := by decide +kernel
theorem dL_law_31 : decode cL_law 31 = .ok (.iand, 1) := by decide +kernel
theorem dL_law_32 : decode cL_law 32 = .ok (.tableswitch 823 0 25 #[120, 193, 236, 269, 312, 335, 358, 381, 404, 427, 460, 484, 517, 551, 574, 597, 630, 673, 686, 699, 723, 746, 769, 783, 796, 810], 120) := by decide +kernel
theorem dL_law_152 : decode cL_law 152 = .ok (.aload_n 1, 1) := by decide +kernel
theorem dL_law_153 : decode cL_law 153 = .ok (.aload_n 0, 1) := by decide +kernel
theorem dL_law_154 : decode cL_law 154 = .ok (.iload_n 3, 1) := by decide +kernel
theorem dL_law_155 : decode cL_law 155 = .ok (.iconst 1, 1) := by decide +kernel
theorem dL_law_156 : decode cL_law 156 = .ok (.iadd, 1) := by decide +kernel
theorem dL_law_157 : decode cL_law 157 = .ok (.iaload, 1) := by decide +kernel
theorem dL_law_158 : decode cL_law 158 = .ok (.aload_n 0, 1) := by decide +kernel
theorem dL_law_159 : decode cL_law 159 = .ok (.iload_n 3, 1) := by decide +kernel
theorem dL_law_160 : decode cL_law 160 = .ok (.iconst 2, 1) := by decide +kernel
theorem dL_law_161 : decode cL_law 161 = .ok (.iadd, 1) := by decide +kernel
theorem dL_law_162 : decode cL_law 162 = .ok (.iaload, 1) := by decide +kernel
theorem dL_law_163 : decode cL_law 163 = .ok (.i2l, 1) := by decide +kernel
theorem dL_law_164 : decode cL_law 164 = .ok (.bipush 32, 2) := by decide +kernel
theorem dL_law_166 : decode cL_law 166 = .ok (.lshl, 1) := by decide +kernel
theorem dL_law_167 : decode cL_law 167 = .ok (.aload_n 0, 1) := by decide +kernel
theorem dL_law_168 : decode cL_law 168 = .ok (.iload_n 3, 1) := by decide +kernel
theorem dL_law_169 : decode cL_law 169 = .ok (.iconst 3, 1) := by decide +kernel
theorem dL_law_170 : decode cL_law 170 = .ok (.iadd, 1) := by decide +kernel
theorem dL_law_171 : decode cL_law 171 = .ok (.iaload, 1) := by decide +kernel
theorem dL_law_172 : decode cL_law 172 = .ok (.i2l, 1) := by decide +kernel
theorem dL_law_173 : decode cL_law 173 = .ok (.ldc2_w 13, 3) := by decide +kernel
theorem dL_law_176 : decode cL_law 176 = .ok (.land, 1) := by decide +kernel
theorem dL_law_177 : decode cL_law 177 = .ok (.lor, 1) := by decide +kernel
theorem dL_law_178 : decode cL_law 178 = .ok (.aload_n 0, 1) := by decide +kernel
theorem dL_law_179 : decode cL_law 179 = .ok (.iload_n 3, 1) := by decide +kernel
theorem dL_law_180 : decode cL_law 180 = .ok (.iconst 4, 1) := by decide +kernel
theorem dL_law_181 : decode cL_law 181 = .ok (.iadd, 1) := by decide +kernel
theorem dL_law_182 : decode cL_law 182 = .ok (.iaload, 1) := by decide +kernel
theorem dL_law_183 : decode cL_law 183 = .ok (.invokevirtual 15, 3) := by decide +kernel
theorem dL_law_186 : decode cL_law 186 = .ok (.aload_n 2, 1) := by decide +kernel
theorem dL_law_187 : decode cL_law 187 = .ok (.aload_n 0, 1) := by decide +kernel
theorem dL_law_188 : decode cL_law 188 = .ok (.iload_n 3, 1) := by decide +kernel
theorem dL_law_189 : decode cL_law 189 = .ok (.iconst 1, 1) := by decide +kernel
theorem dL_law_190 : decode cL_law 190 = .ok (.iadd, 1) := by decide +kernel
theorem dL_law_191 : decode cL_law 191 = .ok (.iaload, 1) := by decide +kernel
theorem dL_law_192 : decode cL_law 192 = .ok (.aload_n 0, 1) := by decide +kernel
theorem dL_law_193 : decode cL_law 193 = .ok (.iload_n 3, 1) := by decide +kernel
theorem dL_law_194 : decode cL_law 194 = .ok (.iconst 2, 1) := by decide +kernel
theorem dL_law_195 : decode cL_law 195 = .ok (.iadd, 1) := by decide +kernel
theorem dL_law_196 : decode cL_law 196 = .ok (.iaload, 1) := by decide +kernel
theorem dL_law_197 : decode cL_law 197 = .ok (.i2l, 1) := by decide +kernel
theorem dL_law_198 : decode cL_law 198 = .ok (.bipush 32, 2) := by decide +kernel
theorem dL_law_200 : decode cL_law 200 = .ok (.lshl, 1) := by decide +kernel
theorem dL_law_201 : decode cL_law 201 = .ok (.aload_n 0, 1) := by decide +kernel
theorem dL_law_202 : decode cL_law 202 = .ok (.iload_n 3, 1) := by decide +kernel
theorem dL_law_203 : decode cL_law 203 = .ok (.iconst 3, 1) := by decide +kernel
theorem dL_law_204 : decode cL_law 204 = .ok (.iadd, 1) := by decide +kernel
theorem dL_law_205 : decode cL_law 205 = .ok (.iaload, 1) := by decide +kernel
theorem dL_law_206 : decode cL_law 206 = .ok (.i2l, 1) := by decide +kernel
theorem dL_law_207 : decode cL_law 207 = .ok (.ldc2_w 13, 3) := by decide +kernel
theorem dL_law_210 : decode cL_law 210 = .ok (.land, 1) := by decide +kernel
theorem dL_law_211 : decode cL_law 211 = .ok (.lor, 1) := by decide +kernel
theorem dL_law_212 : decode cL_law 212 = .ok (.aload_n 0, 1) := by decide +kernel
theorem dL_law_213 : decode cL_law 213 = .ok (.iload_n 3, 1) := by decide +kernel
theorem dL_law_214 : decode cL_law 214 = .ok (.iconst 4, 1) := by decide +kernel
theorem dL_law_215 : decode cL_law 215 = .ok (.iadd, 1) := by decide +kernel
theorem dL_law_216 : decode cL_law 216 = .ok (.iaload, 1) := by decide +kernel
theorem dL_law_217 : decode cL_law 217 = .ok (.invokevirtual 19, 3) := by decide +kernel
theorem dL_law_220 : decode cL_law 220 = .ok (.if_icmp .eq 635, 3) := by decide +kernel
theorem dL_law_223 : decode cL_law 223 = .ok (.iconst 0, 1) := by decide +kernel
theorem dL_law_224 : decode cL_law 224 = .ok (.ireturn, 1) := by decide +kernel
theorem dL_law_225 : decode cL_law 225 = .ok (.aload_n 1, 1) := by decide +kernel
theorem dL_law_226 : decode cL_law 226 = .ok (.aload_n 0, 1) := by decide +kernel
theorem dL_law_227 : decode cL_law 227 = .ok (.iload_n 3, 1) := by decide +kernel
theorem dL_law_228 : decode cL_law 228 = .ok (.iconst 1, 1) := by decide +kernel
theorem dL_law_229 : decode cL_law 229 = .ok (.iadd, 1) := by decide +kernel
theorem dL_law_230 : decode cL_law 230 = .ok (.iaload, 1) := by decide +kernel
theorem dL_law_231 : decode cL_law 231 = .ok (.aload_n 0, 1) := by decide +kernel
theorem dL_law_232 : decode cL_law 232 = .ok (.iload_n 3, 1) := by decide +kernel
theorem dL_law_233 : decode cL_law 233 = .ok (.iconst 2, 1) := by decide +kernel
theorem dL_law_234 : decode cL_law 234 = .ok (.iadd, 1) := by decide +kernel
theorem dL_law_235 : decode cL_law 235 = .ok (.iaload, 1) := by decide +kernel
theorem dL_law_236 : decode cL_law 236 = .ok (.aload_n 0, 1) := by decide +kernel
theorem dL_law_237 : decode cL_law 237 = .ok (.iload_n 3, 1) := by decide +kernel
theorem dL_law_238 : decode cL_law 238 = .ok (.iconst 3, 1) := by decide +kernel
theorem dL_law_239 : decode cL_law 239 = .ok (.iadd, 1) := by decide +kernel
theorem dL_law_240 : decode cL_law 240 = .ok (.iaload, 1) := by decide +kernel
theorem dL_law_241 : decode cL_law 241 = .ok (.invokevirtual 20, 3) := by decide +kernel
theorem dL_law_244 : decode cL_law 244 = .ok (.aload_n 2, 1) := by decide +kernel
theorem dL_law_245 : decode cL_law 245 = .ok (.aload_n 0, 1) := by decide +kernel
theorem dL_law_246 : decode cL_law 246 = .ok (.iload_n 3, 1) := by decide +kernel
theorem dL_law_247 : decode cL_law 247 = .ok (.iconst 1, 1) := by decide +kernel
theorem dL_law_248 : decode cL_law 248 = .ok (.iadd, 1) := by decide +kernel
theorem dL_law_249 : decode cL_law 249 = .ok (.iaload, 1) := by decide +kernel
theorem dL_law_250 : decode cL_law 250 = .ok (.aload_n 0, 1) := by decide +kernel
theorem dL_law_251 : decode cL_law 251 = .ok (.iload_n 3, 1) := by decide +kernel
theorem dL_law_252 : decode cL_law 252 = .ok (.iconst 2, 1) := by decide +kernel
theorem dL_law_253 : decode cL_law 253 = .ok (.iadd, 1) := by decide +kernel
theorem dL_law_254 : decode cL_law 254 = .ok (.iaload, 1) := by decide +kernel
theorem dL_law_255 : decode cL_law 255 = .ok (.aload_n 0, 1) := by decide +kernel
theorem dL_law_256 : decode cL_law 256 = .ok (.iload_n 3, 1) := by decide +kernel
theorem dL_law_257 : decode cL_law 257 = .ok (.iconst 3, 1) := by decide +kernel
theorem dL_law_258 : decode cL_law 258 = .ok (.iadd, 1) := by decide +kernel
theorem dL_law_259 : decode cL_law 259 = .ok (.iaload, 1) := by decide +kernel
theorem dL_law_260 : decode cL_law 260 = .ok (.invokevirtual 24, 3) := by decide +kernel
theorem dL_law_263 : decode cL_law 263 = .ok (.if_icmp .eq 592, 3) := by decide +kernel
theorem dL_law_266 : decode cL_law 266 = .ok (.iconst 0, 1) := by decide +kernel
theorem dL_law_267 : decode cL_law 267 = .ok (.ireturn, 1) := by decide +kernel
theorem dL_law_268 : decode cL_law 268 = .ok (.aload_n 1, 1) := by decide +kernel
theorem dL_law_269 : decode cL_law 269 = .ok (.aload_n 0, 1) := by decide +kernel
theorem dL_law_270 : decode cL_law 270 = .ok (.iload_n 3, 1) := by decide +kernel
theorem dL_law_271 : decode cL_law 271 = .ok (.iconst 1, 1) := by decide +kernel
theorem dL_law_272 : decode cL_law 272 = .ok (.iadd, 1) := by decide +kernel
theorem dL_law_273 : decode cL_law 273 = .ok (.iaload, 1) := by decide +kernel
theorem dL_law_274 : decode cL_law 274 = .ok (.aload_n 0, 1) := by decide +kernel
theorem dL_law_275 : decode cL_law 275 = .ok (.iload_n 3, 1) := by decide +kernel
theorem dL_law_276 : decode cL_law 276 = .ok (.iconst 2, 1) := by decide +kernel
theorem dL_law_277 : decode cL_law 277 = .ok (.iadd, 1) := by decide +kernel
theorem dL_law_278 : decode cL_law 278 = .ok (.iaload, 1) := by decide +kernel
theorem dL_law_279 : decode cL_law 279 = .ok (.invokevirtual 25, 3) := by decide +kernel
theorem dL_law_282 : decode cL_law 282 = .ok (.aload_n 2, 1) := by decide +kernel
theorem dL_law_283 : decode cL_law 283 = .ok (.aload_n 0, 1) := by decide +kernel
theorem dL_law_284 : decode cL_law 284 = .ok (.iload_n 3, 1) := by decide +kernel
theorem dL_law_285 : decode cL_law 285 = .ok (.iconst 1, 1) := by decide +kernel
theorem dL_law_286 : decode cL_law 286 = .ok (.iadd, 1) := by decide +kernel
theorem dL_law_287 : decode cL_law 287 = .ok (.iaload, 1) := by decide +kernel
theorem dL_law_288 : decode cL_law 288 = .ok (.aload_n 0, 1) := by decide +kernel
theorem dL_law_289 : decode cL_law 289 = .ok (.iload_n 3, 1) := by decide +kernel
theorem dL_law_290 : decode cL_law 290 = .ok (.iconst 2, 1) := by decide +kernel
theorem dL_law_291 : decode cL_law 291 = .ok (.iadd, 1) := by decide +kernel
theorem dL_law_292 : decode cL_law 292 = .ok (.iaload, 1) := by decide +kernel
theorem dL_law_293 : decode cL_law 293 = .ok (.invokevirtual 29, 3) := by decide +kernel
theorem dL_law_296 : decode cL_law 296 = .ok (.if_icmp .eq 559, 3) := by decide +kernel
theorem dL_law_299 : decode cL_law 299 = .ok (.iconst 0, 1) := by decide +kernel
theorem dL_law_300 : decode cL_law 300 = .ok (.ireturn, 1) := by decide +kernel
theorem dL_law_301 : decode cL_law 301 = .ok (.aload_n 1, 1) := by decide +kernel
theorem dL_law_302 : decode cL_law 302 = .ok (.aload_n 0, 1) := by decide +kernel
theorem dL_law_303 : decode cL_law 303 = .ok (.iload_n 3, 1) := by decide +kernel
theorem dL_law_304 : decode cL_law 304 = .ok (.iconst 1, 1) := by decide +kernel
theorem dL_law_305 : decode cL_law 305 = .ok (.iadd, 1) := by decide +kernel
theorem dL_law_306 : decode cL_law 306 = .ok (.iaload, 1) := by decide +kernel
theorem dL_law_307 : decode cL_law 307 = .ok (.aload_n 0, 1) := by decide +kernel
theorem dL_law_308 : decode cL_law 308 = .ok (.iload_n 3, 1) := by decide +kernel
theorem dL_law_309 : decode cL_law 309 = .ok (.iconst 2, 1) := by decide +kernel
theorem dL_law_310 : decode cL_law 310 = .ok (.iadd, 1) := by decide +kernel
theorem dL_law_311 : decode cL_law 311 = .ok (.iaload, 1) := by decide +kernel
theorem dL_law_312 : decode cL_law 312 = .ok (.aload_n 0, 1) := by decide +kernel
theorem dL_law_313 : decode cL_law 313 = .ok (.iload_n 3, 1) := by decide +kernel
theorem dL_law_314 : decode cL_law 314 = .ok (.iconst 3, 1) := by decide +kernel
theorem dL_law_315 : decode cL_law 315 = .ok (.iadd, 1) := by decide +kernel
theorem dL_law_316 : decode cL_law 316 = .ok (.iaload, 1) := by decide +kernel
theorem dL_law_317 : decode cL_law 317 = .ok (.invokevirtual 30, 3) := by decide +kernel
theorem dL_law_320 : decode cL_law 320 = .ok (.aload_n 2, 1) := by decide +kernel
theorem dL_law_321 : decode cL_law 321 = .ok (.aload_n 0, 1) := by decide +kernel
theorem dL_law_322 : decode cL_law 322 = .ok (.iload_n 3, 1) := by decide +kernel
theorem dL_law_323 : decode cL_law 323 = .ok (.iconst 1, 1) := by decide +kernel
theorem dL_law_324 : decode cL_law 324 = .ok (.iadd, 1) := by decide +kernel
theorem dL_law_325 : decode cL_law 325 = .ok (.iaload, 1) := by decide +kernel
theorem dL_law_326 : decode cL_law 326 = .ok (.aload_n 0, 1) := by decide +kernel
theorem dL_law_327 : decode cL_law 327 = .ok (.iload_n 3, 1) := by decide +kernel
theorem dL_law_328 : decode cL_law 328 = .ok (.iconst 2, 1) := by decide +kernel
theorem dL_law_329 : decode cL_law 329 = .ok (.iadd, 1) := by decide +kernel
theorem dL_law_330 : decode cL_law 330 = .ok (.iaload, 1) := by decide +kernel
theorem dL_law_331 : decode cL_law 331 = .ok (.aload_n 0, 1) := by decide +kernel
theorem dL_law_332 : decode cL_law 332 = .ok (.iload_n 3, 1) := by decide +kernel
theorem dL_law_333 : decode cL_law 333 = .ok (.iconst 3, 1) := by decide +kernel
theorem dL_law_334 : decode cL_law 334 = .ok (.iadd, 1) := by decide +kernel
theorem dL_law_335 : decode cL_law 335 = .ok (.iaload, 1) := by decide +kernel
theorem dL_law_336 : decode cL_law 336 = .ok (.invokevirtual 34, 3) := by decide +kernel
theorem dL_law_339 : decode cL_law 339 = .ok (.if_icmp .eq 516, 3) := by decide +kernel
theorem dL_law_342 : decode cL_law 342 = .ok (.iconst 0, 1) := by decide +kernel
theorem dL_law_343 : decode cL_law 343 = .ok (.ireturn, 1) := by decide +kernel
theorem dL_law_344 : decode cL_law 344 = .ok (.aload_n 1, 1) := by decide +kernel
theorem dL_law_345 : decode cL_law 345 = .ok (.aload_n 0, 1) := by decide +kernel
theorem dL_law_346 : decode cL_law 346 = .ok (.iload_n 3, 1) := by decide +kernel
theorem dL_law_347 : decode cL_law 347 = .ok (.iconst 1, 1) := by decide +kernel
theorem dL_law_348 : decode cL_law 348 = .ok (.iadd, 1) := by decide +kernel
theorem dL_law_349 : decode cL_law 349 = .ok (.iaload, 1) := by decide +kernel
theorem dL_law_350 : decode cL_law 350 = .ok (.invokevirtual 35, 3) := by decide +kernel
theorem dL_law_353 : decode cL_law 353 = .ok (.aload_n 2, 1) := by decide +kernel
theorem dL_law_354 : decode cL_law 354 = .ok (.aload_n 0, 1) := by decide +kernel
theorem dL_law_355 : decode cL_law 355 = .ok (.iload_n 3, 1) := by decide +kernel
theorem dL_law_356 : decode cL_law 356 = .ok (.iconst 1, 1) := by decide +kernel
theorem dL_law_357 : decode cL_law 357 = .ok (.iadd, 1) := by decide +kernel
theorem dL_law_358 : decode cL_law 358 = .ok (.iaload, 1) := by decide +kernel
theorem dL_law_359 : decode cL_law 359 = .ok (.invokevirtual 39, 3) := by decide +kernel
theorem dL_law_362 : decode cL_law 362 = .ok (.if_icmp .eq 493, 3) := by decide +kernel
theorem dL_law_365 : decode cL_law 365 = .ok (.iconst 0, 1) := by decide +kernel
theorem dL_law_366 : decode cL_law 366 = .ok (.ireturn, 1) := by decide +kernel
theorem dL_law_367 : decode cL_law 367 = .ok (.aload_n 1, 1) := by decide +kernel
theorem dL_law_368 : decode cL_law 368 = .ok (.aload_n 0, 1) := by decide +kernel
theorem dL_law_369 : decode cL_law 369 = .ok (.iload_n 3, 1) := by decide +kernel
theorem dL_law_370 : decode cL_law 370 = .ok (.iconst 1, 1) := by decide +kernel
theorem dL_law_371 : decode cL_law 371 = .ok (.iadd, 1) := by decide +kernel
theorem dL_law_372 : decode cL_law 372 = .ok (.iaload, 1) := by decide +kernel
theorem dL_law_373 : decode cL_law 373 = .ok (.invokevirtual 40, 3) := by decide +kernel
theorem dL_law_376 : decode cL_law 376 = .ok (.aload_n 2, 1) := by decide +kernel
theorem dL_law_377 : decode cL_law 377 = .ok (.aload_n 0, 1) := by decide +kernel
theorem dL_law_378 : decode cL_law 378 = .ok (.iload_n 3, 1) := by decide +kernel
theorem dL_law_379 : decode cL_law 379 = .ok (.iconst 1, 1) := by decide +kernel
theorem dL_law_380 : decode cL_law 380 = .ok (.iadd, 1) := by decide +kernel
theorem dL_law_381 : decode cL_law 381 = .ok (.iaload, 1) := by decide +kernel
theorem dL_law_382 : decode cL_law 382 = .ok (.invokevirtual 44, 3) := by decide +kernel
theorem dL_law_385 : decode cL_law 385 = .ok (.if_icmp .eq 470, 3) := by decide +kernel
theorem dL_law_388 : decode cL_law 388 = .ok (.iconst 0, 1) := by decide +kernel
theorem dL_law_389 : decode cL_law 389 = .ok (.ireturn, 1) := by decide +kernel
theorem dL_law_390 : decode cL_law 390 = .ok (.aload_n 1, 1) := by decide +kernel
theorem dL_law_391 : decode cL_law 391 = .ok (.aload_n 0, 1) := by decide +kernel
theorem dL_law_392 : decode cL_law 392 = .ok (.iload_n 3, 1) := by decide +kernel
theorem dL_law_393 : decode cL_law 393 = .ok (.iconst 1, 1) := by decide +kernel
theorem dL_law_394 : decode cL_law 394 = .ok (.iadd, 1) := by decide +kernel
theorem dL_law_395 : decode cL_law 395 = .ok (.iaload, 1) := by decide +kernel
theorem dL_law_396 : decode cL_law 396 = .ok (.invokevirtual 45, 3) := by decide +kernel
theorem dL_law_399 : decode cL_law 399 = .ok (.aload_n 2, 1) := by decide +kernel
theorem dL_law_400 : decode cL_law 400 = .ok (.aload_n 0, 1) := by decide +kernel
theorem dL_law_401 : decode cL_law 401 = .ok (.iload_n 3, 1) := by decide +kernel
theorem dL_law_402 : decode cL_law 402 = .ok (.iconst 1, 1) := by decide +kernel
theorem dL_law_403 : decode cL_law 403 = .ok (.iadd, 1) := by decide +kernel
theorem dL_law_404 : decode cL_law 404 = .ok (.iaload, 1) := by decide +kernel
theorem dL_law_405 : decode cL_law 405 = .ok (.invokevirtual 48, 3) := by decide +kernel
theorem dL_law_408 : decode cL_law 408 = .ok (.if_icmp .eq 447, 3) := by decide +kernel
theorem dL_law_411 : decode cL_law 411 = .ok (.iconst 0, 1) := by decide +kernel
theorem dL_law_412 : decode cL_law 412 = .ok (.ireturn, 1) := by decide +kernel
theorem dL_law_413 : decode cL_law 413 = .ok (.aload_n 1, 1) := by decide +kernel
theorem dL_law_414 : decode cL_law 414 = .ok (.aload_n 0, 1) := by decide +kernel
theorem dL_law_415 : decode cL_law 415 = .ok (.iload_n 3, 1) := by decide +kernel
theorem dL_law_416 : decode cL_law 416 = .ok (.iconst 1, 1) := by decide +kernel
theorem dL_law_417 : decode cL_law 417 = .ok (.iadd, 1) := by decide +kernel
theorem dL_law_418 : decode cL_law 418 = .ok (.iaload, 1) := by decide +kernel
theorem dL_law_419 : decode cL_law 419 = .ok (.invokevirtual 49, 3) := by decide +kernel
theorem dL_law_422 : decode cL_law 422 = .ok (.aload_n 2, 1) := by decide +kernel
theorem dL_law_423 : decode cL_law 423 = .ok (.aload_n 0, 1) := by decide +kernel
theorem dL_law_424 : decode cL_law 424 = .ok (.iload_n 3, 1) := by decide +kernel
theorem dL_law_425 : decode cL_law 425 = .ok (.iconst 1, 1) := by decide +kernel
theorem dL_law_426 : decode cL_law 426 = .ok (.iadd, 1) := by decide +kernel
theorem dL_law_427 : decode cL_law 427 = .ok (.iaload, 1) := by decide +kernel
theorem dL_law_428 : decode cL_law 428 = .ok (.invokevirtual 52, 3) := by decide +kernel
theorem dL_law_431 : decode cL_law 431 = .ok (.if_icmp .eq 424, 3) := by decide +kernel
theorem dL_law_434 : decode cL_law 434 = .ok (.iconst 0, 1) := by decide +kernel
theorem dL_law_435 : decode cL_law 435 = .ok (.ireturn, 1) := by decide +kernel
theorem dL_law_436 : decode cL_law 436 = .ok (.aload_n 1, 1) := by decide +kernel
theorem dL_law_437 : decode cL_law 437 = .ok (.aload_n 0, 1) := by decide +kernel
theorem dL_law_438 : decode cL_law 438 = .ok (.iload_n 3, 1) := by decide +kernel
theorem dL_law_439 : decode cL_law 439 = .ok (.iconst 1, 1) := by decide +kernel
theorem dL_law_440 : decode cL_law 440 = .ok (.iadd, 1) := by decide +kernel
theorem dL_law_441 : decode cL_law 441 = .ok (.iaload, 1) := by decide +kernel
theorem dL_law_442 : decode cL_law 442 = .ok (.invokevirtual 53, 3) := by decide +kernel
theorem dL_law_445 : decode cL_law 445 = .ok (.aload_n 2, 1) := by decide +kernel
theorem dL_law_446 : decode cL_law 446 = .ok (.aload_n 0, 1) := by decide +kernel
theorem dL_law_447 : decode cL_law 447 = .ok (.iload_n 3, 1) := by decide +kernel
theorem dL_law_448 : decode cL_law 448 = .ok (.iconst 1, 1) := by decide +kernel
theorem dL_law_449 : decode cL_law 449 = .ok (.iadd, 1) := by decide +kernel
theorem dL_law_450 : decode cL_law 450 = .ok (.iaload, 1) := by decide +kernel
theorem dL_law_451 : decode cL_law 451 = .ok (.invokevirtual 56, 3) := by decide +kernel
theorem dL_law_454 : decode cL_law 454 = .ok (.if_icmp .eq 401, 3) := by decide +kernel
theorem dL_law_457 : decode cL_law 457 = .ok (.iconst 0, 1) := by decide +kernel
theorem dL_law_458 : decode cL_law 458 = .ok (.ireturn, 1) := by decide +kernel
theorem dL_law_459 : decode cL_law 459 = .ok (.aload_n 1, 1) := by decide +kernel
theorem dL_law_460 : decode cL_law 460 = .ok (.aload_n 0, 1) := by decide +kernel
theorem dL_law_461 : decode cL_law 461 = .ok (.iload_n 3, 1) := by decide +kernel
theorem dL_law_462 : decode cL_law 462 = .ok (.iconst 1, 1) := by decide +kernel
theorem dL_law_463 : decode cL_law 463 = .ok (.iadd, 1) := by decide +kernel
theorem dL_law_464 : decode cL_law 464 = .ok (.iaload, 1) := by decide +kernel
theorem dL_law_465 : decode cL_law 465 = .ok (.aload_n 0, 1) := by decide +kernel
theorem dL_law_466 : decode cL_law 466 = .ok (.iload_n 3, 1) := by decide +kernel
theorem dL_law_467 : decode cL_law 467 = .ok (.iconst 2, 1) := by decide +kernel
theorem dL_law_468 : decode cL_law 468 = .ok (.iadd, 1) := by decide +kernel
theorem dL_law_469 : decode cL_law 469 = .ok (.iaload, 1) := by decide +kernel
theorem dL_law_470 : decode cL_law 470 = .ok (.invokevirtual 57, 3) := by decide +kernel
theorem dL_law_473 : decode cL_law 473 = .ok (.aload_n 2, 1) := by decide +kernel
theorem dL_law_474 : decode cL_law 474 = .ok (.aload_n 0, 1) := by decide +kernel
theorem dL_law_475 : decode cL_law 475 = .ok (.iload_n 3, 1) := by decide +kernel
theorem dL_law_476 : decode cL_law 476 = .ok (.iconst 1, 1) := by decide +kernel
theorem dL_law_477 : decode cL_law 477 = .ok (.iadd, 1) := by decide +kernel
theorem dL_law_478 : decode cL_law 478 = .ok (.iaload, 1) := by decide +kernel
theorem dL_law_479 : decode cL_law 479 = .ok (.aload_n 0, 1) := by decide +kernel
theorem dL_law_480 : decode cL_law 480 = .ok (.iload_n 3, 1) := by decide +kernel
theorem dL_law_481 : decode cL_law 481 = .ok (.iconst 2, 1) := by decide +kernel
theorem dL_law_482 : decode cL_law 482 = .ok (.iadd, 1) := by decide +kernel
theorem dL_law_483 : decode cL_law 483 = .ok (.iaload, 1) := by decide +kernel
theorem dL_law_484 : decode cL_law 484 = .ok (.invokevirtual 60, 3) := by decide +kernel
theorem dL_law_487 : decode cL_law 487 = .ok (.if_icmp .eq 368, 3) := by decide +kernel
theorem dL_law_490 : decode cL_law 490 = .ok (.iconst 0, 1) := by decide +kernel
theorem dL_law_491 : decode cL_law 491 = .ok (.ireturn, 1) := by decide +kernel
theorem dL_law_492 : decode cL_law 492 = .ok (.aload_n 1, 1) := by decide +kernel
theorem dL_law_493 : decode cL_law 493 = .ok (.aload_n 0, 1) := by decide +kernel
theorem dL_law_494 : decode cL_law 494 = .ok (.iload_n 3, 1) := by decide +kernel
theorem dL_law_495 : decode cL_law 495 = .ok (.iconst 1, 1) := by decide +kernel
theorem dL_law_496 : decode cL_law 496 = .ok (.iadd, 1) := by decide +kernel
theorem dL_law_497 : decode cL_law 497 = .ok (.iaload, 1) := by decide +kernel
theorem dL_law_498 : decode cL_law 498 = .ok (.invokevirtual 61, 3) := by decide +kernel
theorem dL_law_501 : decode cL_law 501 = .ok (.aload_n 2, 1) := by decide +kernel
theorem dL_law_502 : decode cL_law 502 = .ok (.aload_n 0, 1) := by decide +kernel
theorem dL_law_503 : decode cL_law 503 = .ok (.iload_n 3, 1) := by decide +kernel
theorem dL_law_504 : decode cL_law 504 = .ok (.iconst 1, 1) := by decide +kernel
theorem dL_law_505 : decode cL_law 505 = .ok (.iadd, 1) := by decide +kernel
theorem dL_law_506 : decode cL_law 506 = .ok (.iaload, 1) := by decide +kernel
theorem dL_law_507 : decode cL_law 507 = .ok (.invokevirtual 65, 3) := by decide +kernel
theorem dL_law_510 : decode cL_law 510 = .ok (.lcmp, 1) := by decide +kernel
theorem dL_law_511 : decode cL_law 511 = .ok (.ifCond .eq 344, 3) := by decide +kernel
theorem dL_law_514 : decode cL_law 514 = .ok (.iconst 0, 1) := by decide +kernel
theorem dL_law_515 : decode cL_law 515 = .ok (.ireturn, 1) := by decide +kernel
theorem dL_law_516 : decode cL_law 516 = .ok (.aload_n 1, 1) := by decide +kernel
theorem dL_law_517 : decode cL_law 517 = .ok (.aload_n 0, 1) := by decide +kernel
theorem dL_law_518 : decode cL_law 518 = .ok (.iload_n 3, 1) := by decide +kernel
theorem dL_law_519 : decode cL_law 519 = .ok (.iconst 1, 1) := by decide +kernel
theorem dL_law_520 : decode cL_law 520 = .ok (.iadd, 1) := by decide +kernel
theorem dL_law_521 : decode cL_law 521 = .ok (.iaload, 1) := by decide +kernel
theorem dL_law_522 : decode cL_law 522 = .ok (.aload_n 0, 1) := by decide +kernel
theorem dL_law_523 : decode cL_law 523 = .ok (.iload_n 3, 1) := by decide +kernel
theorem dL_law_524 : decode cL_law 524 = .ok (.iconst 2, 1) := by decide +kernel
theorem dL_law_525 : decode cL_law 525 = .ok (.iadd, 1) := by decide +kernel
theorem dL_law_526 : decode cL_law 526 = .ok (.iaload, 1) := by decide +kernel
theorem dL_law_527 : decode cL_law 527 = .ok (.invokevirtual 66, 3) := by decide +kernel
theorem dL_law_530 : decode cL_law 530 = .ok (.aload_n 2, 1) := by decide +kernel
theorem dL_law_531 : decode cL_law 531 = .ok (.aload_n 0, 1) := by decide +kernel
theorem dL_law_532 : decode cL_law 532 = .ok (.iload_n 3, 1) := by decide +kernel
theorem dL_law_533 : decode cL_law 533 = .ok (.iconst 1, 1) := by decide +kernel
theorem dL_law_534 : decode cL_law 534 = .ok (.iadd, 1) := by decide +kernel
theorem dL_law_535 : decode cL_law 535 = .ok (.iaload, 1) := by decide +kernel
theorem dL_law_536 : decode cL_law 536 = .ok (.aload_n 0, 1) := by decide +kernel
theorem dL_law_537 : decode cL_law 537 = .ok (.iload_n 3, 1) := by decide +kernel
theorem dL_law_538 : decode cL_law 538 = .ok (.iconst 2, 1) := by decide +kernel
theorem dL_law_539 : decode cL_law 539 = .ok (.iadd, 1) := by decide +kernel
theorem dL_law_540 : decode cL_law 540 = .ok (.iaload, 1) := by decide +kernel
theorem dL_law_541 : decode cL_law 541 = .ok (.invokevirtual 69, 3) := by decide +kernel
theorem dL_law_544 : decode cL_law 544 = .ok (.if_icmp .eq 311, 3) := by decide +kernel
theorem dL_law_547 : decode cL_law 547 = .ok (.iconst 0, 1) := by decide +kernel
theorem dL_law_548 : decode cL_law 548 = .ok (.ireturn, 1) := by decide +kernel
theorem dL_law_549 : decode cL_law 549 = .ok (.aload_n 1, 1) := by decide +kernel
theorem dL_law_550 : decode cL_law 550 = .ok (.aload_n 0, 1) := by decide +kernel
theorem dL_law_551 : decode cL_law 551 = .ok (.iload_n 3, 1) := by decide +kernel
theorem dL_law_552 : decode cL_law 552 = .ok (.iconst 1, 1) := by decide +kernel
theorem dL_law_553 : decode cL_law 553 = .ok (.iadd, 1) := by decide +kernel
theorem dL_law_554 : decode cL_law 554 = .ok (.iaload, 1) := by decide +kernel
theorem dL_law_555 : decode cL_law 555 = .ok (.aload_n 0, 1) := by decide +kernel
theorem dL_law_556 : decode cL_law 556 = .ok (.iload_n 3, 1) := by decide +kernel
theorem dL_law_557 : decode cL_law 557 = .ok (.iconst 2, 1) := by decide +kernel
theorem dL_law_558 : decode cL_law 558 = .ok (.iadd, 1) := by decide +kernel
theorem dL_law_559 : decode cL_law 559 = .ok (.iaload, 1) := by decide +kernel
theorem dL_law_560 : decode cL_law 560 = .ok (.invokevirtual 70, 3) := by decide +kernel
theorem dL_law_563 : decode cL_law 563 = .ok (.aload_n 2, 1) := by decide +kernel
theorem dL_law_564 : decode cL_law 564 = .ok (.aload_n 0, 1) := by decide +kernel
theorem dL_law_565 : decode cL_law 565 = .ok (.iload_n 3, 1) := by decide +kernel
theorem dL_law_566 : decode cL_law 566 = .ok (.iconst 1, 1) := by decide +kernel
theorem dL_law_567 : decode cL_law 567 = .ok (.iadd, 1) := by decide +kernel
theorem dL_law_568 : decode cL_law 568 = .ok (.iaload, 1) := by decide +kernel
theorem dL_law_569 : decode cL_law 569 = .ok (.aload_n 0, 1) := by decide +kernel
theorem dL_law_570 : decode cL_law 570 = .ok (.iload_n 3, 1) := by decide +kernel
theorem dL_law_571 : decode cL_law 571 = .ok (.iconst 2, 1) := by decide +kernel
theorem dL_law_572 : decode cL_law 572 = .ok (.iadd, 1) := by decide +kernel
theorem dL_law_573 : decode cL_law 573 = .ok (.iaload, 1) := by decide +kernel
theorem dL_law_574 : decode cL_law 574 = .ok (.invokevirtual 74, 3) := by decide +kernel
theorem dL_law_577 : decode cL_law 577 = .ok (.lcmp, 1) := by decide +kernel
theorem dL_law_578 : decode cL_law 578 = .ok (.ifCond .eq 277, 3) := by decide +kernel
theorem dL_law_581 : decode cL_law 581 = .ok (.iconst 0, 1) := by decide +kernel
theorem dL_law_582 : decode cL_law 582 = .ok (.ireturn, 1) := by decide +kernel
theorem dL_law_583 : decode cL_law 583 = .ok (.aload_n 1, 1) := by decide +kernel
theorem dL_law_584 : decode cL_law 584 = .ok (.aload_n 0, 1) := by decide +kernel
theorem dL_law_585 : decode cL_law 585 = .ok (.iload_n 3, 1) := by decide +kernel
theorem dL_law_586 : decode cL_law 586 = .ok (.iconst 1, 1) := by decide +kernel
theorem dL_law_587 : decode cL_law 587 = .ok (.iadd, 1) := by decide +kernel
theorem dL_law_588 : decode cL_law 588 = .ok (.iaload, 1) := by decide +kernel
theorem dL_law_589 : decode cL_law 589 = .ok (.invokevirtual 75, 3) := by decide +kernel
theorem dL_law_592 : decode cL_law 592 = .ok (.aload_n 2, 1) := by decide +kernel
theorem dL_law_593 : decode cL_law 593 = .ok (.aload_n 0, 1) := by decide +kernel
theorem dL_law_594 : decode cL_law 594 = .ok (.iload_n 3, 1) := by decide +kernel
theorem dL_law_595 : decode cL_law 595 = .ok (.iconst 1, 1) := by decide +kernel
theorem dL_law_596 : decode cL_law 596 = .ok (.iadd, 1) := by decide +kernel
theorem dL_law_597 : decode cL_law 597 = .ok (.iaload, 1) := by decide +kernel
theorem dL_law_598 : decode cL_law 598 = .ok (.invokevirtual 78, 3) := by decide +kernel
theorem dL_law_601 : decode cL_law 601 = .ok (.if_icmp .eq 254, 3) := by decide +kernel
theorem dL_law_604 : decode cL_law 604 = .ok (.iconst 0, 1) := by decide +kernel
theorem dL_law_605 : decode cL_law 605 = .ok (.ireturn, 1) := by decide +kernel
theorem dL_law_606 : decode cL_law 606 = .ok (.aload_n 1, 1) := by decide +kernel
theorem dL_law_607 : decode cL_law 607 = .ok (.aload_n 0, 1) := by decide +kernel
theorem dL_law_608 : decode cL_law 608 = .ok (.iload_n 3, 1) := by decide +kernel
theorem dL_law_609 : decode cL_law 609 = .ok (.iconst 1, 1) := by decide +kernel
theorem dL_law_610 : decode cL_law 610 = .ok (.iadd, 1) := by decide +kernel
theorem dL_law_611 : decode cL_law 611 = .ok (.iaload, 1) := by decide +kernel
theorem dL_law_612 : decode cL_law 612 = .ok (.invokevirtual 79, 3) := by decide +kernel
theorem dL_law_615 : decode cL_law 615 = .ok (.aload_n 2, 1) := by decide +kernel
theorem dL_law_616 : decode cL_law 616 = .ok (.aload_n 0, 1) := by decide +kernel
theorem dL_law_617 : decode cL_law 617 = .ok (.iload_n 3, 1) := by decide +kernel
theorem dL_law_618 : decode cL_law 618 = .ok (.iconst 1, 1) := by decide +kernel
theorem dL_law_619 : decode cL_law 619 = .ok (.iadd, 1) := by decide +kernel
theorem dL_law_620 : decode cL_law 620 = .ok (.iaload, 1) := by decide +kernel
theorem dL_law_621 : decode cL_law 621 = .ok (.invokevirtual 82, 3) := by decide +kernel
theorem dL_law_624 : decode cL_law 624 = .ok (.if_icmp .eq 231, 3) := by decide +kernel
theorem dL_law_627 : decode cL_law 627 = .ok (.iconst 0, 1) := by decide +kernel
theorem dL_law_628 : decode cL_law 628 = .ok (.ireturn, 1) := by decide +kernel
theorem dL_law_629 : decode cL_law 629 = .ok (.aload_n 1, 1) := by decide +kernel
theorem dL_law_630 : decode cL_law 630 = .ok (.aload_n 0, 1) := by decide +kernel
theorem dL_law_631 : decode cL_law 631 = .ok (.iload_n 3, 1) := by decide +kernel
theorem dL_law_632 : decode cL_law 632 = .ok (.iconst 1, 1) := by decide +kernel
theorem dL_law_633 : decode cL_law 633 = .ok (.iadd, 1) := by decide +kernel
theorem dL_law_634 : decode cL_law 634 = .ok (.iaload, 1) := by decide +kernel
theorem dL_law_635 : decode cL_law 635 = .ok (.aload_n 0, 1) := by decide +kernel
theorem dL_law_636 : decode cL_law 636 = .ok (.iload_n 3, 1) := by decide +kernel
theorem dL_law_637 : decode cL_law 637 = .ok (.iconst 2, 1) := by decide +kernel
theorem dL_law_638 : decode cL_law 638 = .ok (.iadd, 1) := by decide +kernel
theorem dL_law_639 : decode cL_law 639 = .ok (.iaload, 1) := by decide +kernel
theorem dL_law_640 : decode cL_law 640 = .ok (.invokevirtual 83, 3) := by decide +kernel
theorem dL_law_643 : decode cL_law 643 = .ok (.aload_n 2, 1) := by decide +kernel
theorem dL_law_644 : decode cL_law 644 = .ok (.aload_n 0, 1) := by decide +kernel
theorem dL_law_645 : decode cL_law 645 = .ok (.iload_n 3, 1) := by decide +kernel
theorem dL_law_646 : decode cL_law 646 = .ok (.iconst 1, 1) := by decide +kernel
theorem dL_law_647 : decode cL_law 647 = .ok (.iadd, 1) := by decide +kernel
theorem dL_law_648 : decode cL_law 648 = .ok (.iaload, 1) := by decide +kernel
theorem dL_law_649 : decode cL_law 649 = .ok (.aload_n 0, 1) := by decide +kernel
theorem dL_law_650 : decode cL_law 650 = .ok (.iload_n 3, 1) := by decide +kernel
theorem dL_law_651 : decode cL_law 651 = .ok (.iconst 2, 1) := by decide +kernel
theorem dL_law_652 : decode cL_law 652 = .ok (.iadd, 1) := by decide +kernel
theorem dL_law_653 : decode cL_law 653 = .ok (.iaload, 1) := by decide +kernel
theorem dL_law_654 : decode cL_law 654 = .ok (.invokevirtual 86, 3) := by decide +kernel
theorem dL_law_657 : decode cL_law 657 = .ok (.if_icmp .eq 198, 3) := by decide +kernel
theorem dL_law_660 : decode cL_law 660 = .ok (.iconst 0, 1) := by decide +kernel
theorem dL_law_661 : decode cL_law 661 = .ok (.ireturn, 1) := by decide +kernel
theorem dL_law_662 : decode cL_law 662 = .ok (.aload_n 1, 1) := by decide +kernel
theorem dL_law_663 : decode cL_law 663 = .ok (.aload_n 0, 1) := by decide +kernel
theorem dL_law_664 : decode cL_law 664 = .ok (.iload_n 3, 1) := by decide +kernel
theorem dL_law_665 : decode cL_law 665 = .ok (.iconst 1, 1) := by decide +kernel
theorem dL_law_666 : decode cL_law 666 = .ok (.iadd, 1) := by decide +kernel
theorem dL_law_667 : decode cL_law 667 = .ok (.iaload, 1) := by decide +kernel
theorem dL_law_668 : decode cL_law 668 = .ok (.aload_n 0, 1) := by decide +kernel
theorem dL_law_669 : decode cL_law 669 = .ok (.iload_n 3, 1) := by decide +kernel
theorem dL_law_670 : decode cL_law 670 = .ok (.iconst 2, 1) := by decide +kernel
theorem dL_law_671 : decode cL_law 671 = .ok (.iadd, 1) := by decide +kernel
theorem dL_law_672 : decode cL_law 672 = .ok (.iaload, 1) := by decide +kernel
theorem dL_law_673 : decode cL_law 673 = .ok (.aload_n 0, 1) := by decide +kernel
theorem dL_law_674 : decode cL_law 674 = .ok (.iload_n 3, 1) := by decide +kernel
theorem dL_law_675 : decode cL_law 675 = .ok (.iconst 3, 1) := by decide +kernel
theorem dL_law_676 : decode cL_law 676 = .ok (.iadd, 1) := by decide +kernel
theorem dL_law_677 : decode cL_law 677 = .ok (.iaload, 1) := by decide +kernel
theorem dL_law_678 : decode cL_law 678 = .ok (.invokevirtual 87, 3) := by decide +kernel
theorem dL_law_681 : decode cL_law 681 = .ok (.aload_n 2, 1) := by decide +kernel
theorem dL_law_682 : decode cL_law 682 = .ok (.aload_n 0, 1) := by decide +kernel
theorem dL_law_683 : decode cL_law 683 = .ok (.iload_n 3, 1) := by decide +kernel
theorem dL_law_684 : decode cL_law 684 = .ok (.iconst 1, 1) := by decide +kernel
theorem dL_law_685 : decode cL_law 685 = .ok (.iadd, 1) := by decide +kernel
theorem dL_law_686 : decode cL_law 686 = .ok (.iaload, 1) := by decide +kernel
theorem dL_law_687 : decode cL_law 687 = .ok (.aload_n 0, 1) := by decide +kernel
theorem dL_law_688 : decode cL_law 688 = .ok (.iload_n 3, 1) := by decide +kernel
theorem dL_law_689 : decode cL_law 689 = .ok (.iconst 2, 1) := by decide +kernel
theorem dL_law_690 : decode cL_law 690 = .ok (.iadd, 1) := by decide +kernel
theorem dL_law_691 : decode cL_law 691 = .ok (.iaload, 1) := by decide +kernel
theorem dL_law_692 : decode cL_law 692 = .ok (.aload_n 0, 1) := by decide +kernel
theorem dL_law_693 : decode cL_law 693 = .ok (.iload_n 3, 1) := by decide +kernel
theorem dL_law_694 : decode cL_law 694 = .ok (.iconst 3, 1) := by decide +kernel
theorem dL_law_695 : decode cL_law 695 = .ok (.iadd, 1) := by decide +kernel
theorem dL_law_696 : decode cL_law 696 = .ok (.iaload, 1) := by decide +kernel
theorem dL_law_697 : decode cL_law 697 = .ok (.invokevirtual 90, 3) := by decide +kernel
theorem dL_law_700 : decode cL_law 700 = .ok (.if_icmp .eq 155, 3) := by decide +kernel
theorem dL_law_703 : decode cL_law 703 = .ok (.iconst 0, 1) := by decide +kernel
theorem dL_law_704 : decode cL_law 704 = .ok (.ireturn, 1) := by decide +kernel
theorem dL_law_705 : decode cL_law 705 = .ok (.aload_n 1, 1) := by decide +kernel
theorem dL_law_706 : decode cL_law 706 = .ok (.invokevirtual 91, 3) := by decide +kernel
theorem dL_law_709 : decode cL_law 709 = .ok (.aload_n 2, 1) := by decide +kernel
theorem dL_law_710 : decode cL_law 710 = .ok (.invokevirtual 95, 3) := by decide +kernel
theorem dL_law_713 : decode cL_law 713 = .ok (.if_icmp .eq 142, 3) := by decide +kernel
theorem dL_law_716 : decode cL_law 716 = .ok (.iconst 0, 1) := by decide +kernel
theorem dL_law_717 : decode cL_law 717 = .ok (.ireturn, 1) := by decide +kernel
theorem dL_law_718 : decode cL_law 718 = .ok (.aload_n 1, 1) := by decide +kernel
theorem dL_law_719 : decode cL_law 719 = .ok (.invokevirtual 96, 3) := by decide +kernel
theorem dL_law_722 : decode cL_law 722 = .ok (.aload_n 2, 1) := by decide +kernel
theorem dL_law_723 : decode cL_law 723 = .ok (.invokevirtual 99, 3) := by decide +kernel
theorem dL_law_726 : decode cL_law 726 = .ok (.if_icmp .eq 129, 3) := by decide +kernel
theorem dL_law_729 : decode cL_law 729 = .ok (.iconst 0, 1) := by decide +kernel
theorem dL_law_730 : decode cL_law 730 = .ok (.ireturn, 1) := by decide +kernel
theorem dL_law_731 : decode cL_law 731 = .ok (.aload_n 1, 1) := by decide +kernel
theorem dL_law_732 : decode cL_law 732 = .ok (.aload_n 0, 1) := by decide +kernel
theorem dL_law_733 : decode cL_law 733 = .ok (.iload_n 3, 1) := by decide +kernel
theorem dL_law_734 : decode cL_law 734 = .ok (.iconst 1, 1) := by decide +kernel
theorem dL_law_735 : decode cL_law 735 = .ok (.iadd, 1) := by decide +kernel
theorem dL_law_736 : decode cL_law 736 = .ok (.iaload, 1) := by decide +kernel
theorem dL_law_737 : decode cL_law 737 = .ok (.invokevirtual 100, 3) := by decide +kernel
theorem dL_law_740 : decode cL_law 740 = .ok (.aload_n 2, 1) := by decide +kernel
theorem dL_law_741 : decode cL_law 741 = .ok (.aload_n 0, 1) := by decide +kernel
theorem dL_law_742 : decode cL_law 742 = .ok (.iload_n 3, 1) := by decide +kernel
theorem dL_law_743 : decode cL_law 743 = .ok (.iconst 1, 1) := by decide +kernel
theorem dL_law_744 : decode cL_law 744 = .ok (.iadd, 1) := by decide +kernel
theorem dL_law_745 : decode cL_law 745 = .ok (.iaload, 1) := by decide +kernel
theorem dL_law_746 : decode cL_law 746 = .ok (.invokevirtual 103, 3) := by decide +kernel
theorem dL_law_749 : decode cL_law 749 = .ok (.lcmp, 1) := by decide +kernel
theorem dL_law_750 : decode cL_law 750 = .ok (.ifCond .eq 105, 3) := by decide +kernel
theorem dL_law_753 : decode cL_law 753 = .ok (.iconst 0, 1) := by decide +kernel
theorem dL_law_754 : decode cL_law 754 = .ok (.ireturn, 1) := by decide +kernel
theorem dL_law_755 : decode cL_law 755 = .ok (.aload_n 1, 1) := by decide +kernel
theorem dL_law_756 : decode cL_law 756 = .ok (.aload_n 0, 1) := by decide +kernel
theorem dL_law_757 : decode cL_law 757 = .ok (.iload_n 3, 1) := by decide +kernel
theorem dL_law_758 : decode cL_law 758 = .ok (.iconst 1, 1) := by decide +kernel
theorem dL_law_759 : decode cL_law 759 = .ok (.iadd, 1) := by decide +kernel
theorem dL_law_760 : decode cL_law 760 = .ok (.iaload, 1) := by decide +kernel
theorem dL_law_761 : decode cL_law 761 = .ok (.invokevirtual 104, 3) := by decide +kernel
theorem dL_law_764 : decode cL_law 764 = .ok (.aload_n 2, 1) := by decide +kernel
theorem dL_law_765 : decode cL_law 765 = .ok (.aload_n 0, 1) := by decide +kernel
theorem dL_law_766 : decode cL_law 766 = .ok (.iload_n 3, 1) := by decide +kernel
theorem dL_law_767 : decode cL_law 767 = .ok (.iconst 1, 1) := by decide +kernel
theorem dL_law_768 : decode cL_law 768 = .ok (.iadd, 1) := by decide +kernel
theorem dL_law_769 : decode cL_law 769 = .ok (.iaload, 1) := by decide +kernel
theorem dL_law_770 : decode cL_law 770 = .ok (.invokevirtual 107, 3) := by decide +kernel
theorem dL_law_773 : decode cL_law 773 = .ok (.if_icmp .eq 82, 3) := by decide +kernel
theorem dL_law_776 : decode cL_law 776 = .ok (.iconst 0, 1) := by decide +kernel
theorem dL_law_777 : decode cL_law 777 = .ok (.ireturn, 1) := by decide +kernel
theorem dL_law_778 : decode cL_law 778 = .ok (.aload_n 1, 1) := by decide +kernel
theorem dL_law_779 : decode cL_law 779 = .ok (.aload_n 0, 1) := by decide +kernel
theorem dL_law_780 : decode cL_law 780 = .ok (.iload_n 3, 1) := by decide +kernel
theorem dL_law_781 : decode cL_law 781 = .ok (.iconst 1, 1) := by decide +kernel
theorem dL_law_782 : decode cL_law 782 = .ok (.iadd, 1) := by decide +kernel
theorem dL_law_783 : decode cL_law 783 = .ok (.iaload, 1) := by decide +kernel
theorem dL_law_784 : decode cL_law 784 = .ok (.invokevirtual 108, 3) := by decide +kernel
theorem dL_law_787 : decode cL_law 787 = .ok (.aload_n 2, 1) := by decide +kernel
theorem dL_law_788 : decode cL_law 788 = .ok (.aload_n 0, 1) := by decide +kernel
theorem dL_law_789 : decode cL_law 789 = .ok (.iload_n 3, 1) := by decide +kernel
theorem dL_law_790 : decode cL_law 790 = .ok (.iconst 1, 1) := by decide +kernel
theorem dL_law_791 : decode cL_law 791 = .ok (.iadd, 1) := by decide +kernel
theorem dL_law_792 : decode cL_law 792 = .ok (.iaload, 1) := by decide +kernel
theorem dL_law_793 : decode cL_law 793 = .ok (.invokevirtual 111, 3) := by decide +kernel
theorem dL_law_796 : decode cL_law 796 = .ok (.if_icmp .eq 59, 3) := by decide +kernel
theorem dL_law_799 : decode cL_law 799 = .ok (.iconst 0, 1) := by decide +kernel
theorem dL_law_800 : decode cL_law 800 = .ok (.ireturn, 1) := by decide +kernel
theorem dL_law_801 : decode cL_law 801 = .ok (.aload_n 1, 1) := by decide +kernel
theorem dL_law_802 : decode cL_law 802 = .ok (.invokevirtual 112, 3) := by decide +kernel
theorem dL_law_805 : decode cL_law 805 = .ok (.aload_n 2, 1) := by decide +kernel
theorem dL_law_806 : decode cL_law 806 = .ok (.invokevirtual 116, 3) := by decide +kernel
theorem dL_law_809 : decode cL_law 809 = .ok (.lcmp, 1) := by decide +kernel
theorem dL_law_810 : decode cL_law 810 = .ok (.ifCond .eq 45, 3) := by decide +kernel
theorem dL_law_813 : decode cL_law 813 = .ok (.iconst 0, 1) := by decide +kernel
theorem dL_law_814 : decode cL_law 814 = .ok (.ireturn, 1) := by decide +kernel
theorem dL_law_815 : decode cL_law 815 = .ok (.aload_n 1, 1) := by decide +kernel
theorem dL_law_816 : decode cL_law 816 = .ok (.invokevirtual 117, 3) := by decide +kernel
theorem dL_law_819 : decode cL_law 819 = .ok (.aload_n 2, 1) := by decide +kernel
theorem dL_law_820 : decode cL_law 820 = .ok (.invokevirtual 121, 3) := by decide +kernel
theorem dL_law_823 : decode cL_law 823 = .ok (.if_icmp .eq 32, 3) := by decide +kernel
theorem dL_law_826 : decode cL_law 826 = .ok (.iconst 0, 1) := by decide +kernel
theorem dL_law_827 : decode cL_law 827 = .ok (.ireturn, 1) := by decide +kernel
theorem dL_law_828 : decode cL_law 828 = .ok (.aload_n 1, 1) := by decide +kernel
theorem dL_law_829 : decode cL_law 829 = .ok (.invokevirtual 122, 3) := by decide +kernel
theorem dL_law_832 : decode cL_law 832 = .ok (.aload_n 2, 1) := by decide +kernel
theorem dL_law_833 : decode cL_law 833 = .ok (.invokevirtual 125, 3) := by decide +kernel
theorem dL_law_836 : decode cL_law 836 = .ok (.lcmp, 1) := by decide +kernel
theorem dL_law_837 : decode cL_law 837 = .ok (.ifCond .eq 18, 3) := by decide +kernel
theorem dL_law_840 : decode cL_law 840 = .ok (.iconst 0, 1) := by decide +kernel
theorem dL_law_841 : decode cL_law 841 = .ok (.ireturn, 1) := by decide +kernel
theorem dL_law_842 : decode cL_law 842 = .ok (.aload_n 1, 1) := by decide +kernel
theorem dL_law_843 : decode cL_law 843 = .ok (.invokevirtual 126, 3) := by decide +kernel
theorem dL_law_846 : decode cL_law 846 = .ok (.aload_n 2, 1) := by decide +kernel
theorem dL_law_847 : decode cL_law 847 = .ok (.invokevirtual 129, 3) := by decide +kernel
theorem dL_law_850 : decode cL_law 850 = .ok (.if_icmp .eq 5, 3) := by decide +kernel
theorem dL_law_853 : decode cL_law 853 = .ok (.iconst 0, 1) := by decide +kernel
theorem dL_law_854 : decode cL_law 854 = .ok (.ireturn, 1) := by decide +kernel
theorem dL_law_855 : decode cL_law 855 = .ok (.iinc 3 5, 3) := by decide +kernel
theorem dL_law_858 : decode cL_law 858 = .ok (.goto (-840), 3) := by decide +kernel
theorem dL_law_861 : decode cL_law 861 = .ok (.iconst 1, 1) := by decide +kernel
theorem dL_law_862 : decode cL_law 862 = .ok (.ireturn, 1) := by decide +kernel
end
section
/-! the words of the tables that hold on in every state that the machine comes to -/
def okW (w : Cond) : Bool := goodWord w || (match w with | .fieldLinkNest _ _ _ _ _ _ => true | .methodLinkNest _ _ _ _ => true | .arrayOver (.object _) => true | _ => false)
def lw_g : List Cond := lw_tbl.filter okW
theorem lw_g_sub : ∀ w ∈ lw_g, w ∈ lw_tbl := fun _ h => (List.mem_filter.mp h).1
/-! the memory as plain functions: kind and length of each cell, fields by (field number, address), elements by (address, place), next address, elements so far -/
abbrev Mem : Type := (Nat → Nat) × (Nat → Nat) × (Nat → Nat → Int32) × (Nat → Nat → Int64) × (Nat → Nat → Option Nat) × (Nat → Nat → Int32) × (Nat → Nat → Int64) × (Nat → Nat → Option Nat) × Nat × Nat
def u2 {α : Type} (g : Nat → Nat → α) (f a : Nat) (x : α) : Nat → Nat → α := fun f' a' => if f' = f then (if a' = a then x else g f' a') else g f' a'
def gT (m : Mem) : Nat → Nat := m.1
def gN (m : Mem) : Nat → Nat := m.2.1
def gI (m : Mem) : Nat → Nat → Int32 := m.2.2.1
def gL (m : Mem) : Nat → Nat → Int64 := m.2.2.2.1
def gP (m : Mem) : Nat → Nat → Option Nat := m.2.2.2.2.1
def aI (m : Mem) : Nat → Nat → Int32 := m.2.2.2.2.2.1
def aL (m : Mem) : Nat → Nat → Int64 := m.2.2.2.2.2.2.1
def aP (m : Mem) : Nat → Nat → Option Nat := m.2.2.2.2.2.2.2.1
def zz (m : Mem) : Nat := m.2.2.2.2.2.2.2.2.1
def nn (m : Mem) : Nat := m.2.2.2.2.2.2.2.2.2
def sI (m : Mem) (f a : Nat) (x : Int32) : Mem := (gT m, gN m, u2 (gI m) f a x, gL m, gP m, aI m, aL m, aP m, zz m, nn m)
def sL (m : Mem) (f a : Nat) (x : Int64) : Mem := (gT m, gN m, gI m, u2 (gL m) f a x, gP m, aI m, aL m, aP m, zz m, nn m)
def sP (m : Mem) (f a : Nat) (x : Option Nat) : Mem := (gT m, gN m, gI m, gL m, u2 (gP m) f a x, aI m, aL m, aP m, zz m, nn m)
def sAI (m : Mem) (a i : Nat) (x : Int32) : Mem := (gT m, gN m, gI m, gL m, gP m, u2 (aI m) a i x, aL m, aP m, zz m, nn m)
def sAL (m : Mem) (a i : Nat) (x : Int64) : Mem := (gT m, gN m, gI m, gL m, gP m, aI m, u2 (aL m) a i x, aP m, zz m, nn m)
def sAP (m : Mem) (a i : Nat) (x : Option Nat) : Mem := (gT m, gN m, gI m, gL m, gP m, aI m, aL m, u2 (aP m) a i x, zz m, nn m)
def z2 {α : Type} (g : Nat → Nat → α) (z : Nat) (x : α) : Nat → Nat → α := fun f a => if a = z then x else g f a
def zr {α : Type} (g : Nat → Nat → α) (z : Nat) (x : α) : Nat → Nat → α := fun a i => if a = z then x else g a i
/-- a new cell of kind t with n places, all zero -/
def nw (m : Mem) (t n : Nat) : Mem := (va_up (gT m) (zz m) t, va_up (gN m) (zz m) n, z2 (gI m) (zz m) 0, z2 (gL m) (zz m) 0, z2 (gP m) (zz m) none, zr (aI m) (zz m) 0, zr (aL m) (zz m) 0, zr (aP m) (zz m) none, zz m + 1, nn m + n)
/-- the kinds of the fields: 0 int, 1 long, 2 reference -/
def kX : Nat → List Nat
  | 0 => [2, 2, 2, 2, 2, 2, 2, 0, 0, 0, 0, 0]
  | 1 => [0, 2]
  | 2 => [0, 2]
  | 3 => [0, 2]
  | 4 => [0, 0, 0, 0, 1, 0, 0, 0, 0, 0, 0, 0, 0, 0, 0, 0, 0, 2, 1]
  | 5 => [2, 2, 2, 2, 2, 0, 0]
  | 6 => [2, 2, 2, 2, 0, 0, 0, 2]
  | _ => []
def tyC : Nat → Nat → FieldType
  | 0 => tyX0
  | 1 => tyX1
  | 2 => tyX2
  | 3 => tyX3
  | 4 => tyX4
  | 5 => tyX5
  | _ => tyX6
def fV (m : Mem) (ci k a : Nat) : Nat → Value
  | 0 => .int (gI m (20 * ci + k) a)
  | 1 => .long (gL m (20 * ci + k) a)
  | _ => va_rf (gP m (20 * ci + k) a)
def fO (m : Mem) (ci a : Nat) : List Value := (List.range (kX ci).length).map (fun k => fV m ci k a ((kX ci).getD k 0))
abbrev GG : Type := Launch × va_G × Nat × (Nat → ClassId)
def cO (G : GG) (m : Mem) (a : Nat) : Option va_E :=
  if gT m a = 0 then none else if gT m a ≤ 7 then some (.inr (gT m a - 1, fO m (gT m a - 1) a))
  else if gT m a = 13 then some (.inl (G.2.2.2 13, gN m a, .inr (.inl (aL m a))))
  else if gT m a = 16 ∨ gT m a = 17 then some (.inl (G.2.2.2 (gT m a), gN m a, .inr (.inr (.inr (.inr (aP m a))))))
  else if gT m a = 18 then some (.inl (G.2.2.2 12, gN m a, .inl (aI m a)))
  else some (.inl (G.2.2.2 (gT m a), gN m a, .inl (aI m a)))
def Rep (G : GG) (m : Mem) (H : Heap) : Prop := H.size = zz m ∧ (∀ (a : Nat) (x : va_E), cO G m a = some x → va_at G.2.1 vwCl (a, x) H) ∧ ∀ a : Nat, gT m a ≠ 0 → gT m a ≠ 18 → G.2.2.1 ≤ a
def tyA : Nat → FieldType
  | 11 => .byte
  | 12 => .int
  | 13 => .long
  | 14 => .short
  | 15 => .boolean
  | 16 => .object RX2
  | _ => .object RX4
def TY (G : GG) : List (ClassId × FieldType) := [(G.2.2.2 11, .byte), (G.2.2.2 12, .int), (G.2.2.2 13, .long), (G.2.2.2 14, .short), (G.2.2.2 15, .boolean), (G.2.2.2 16, .object RX2), (G.2.2.2 17, .object RX4)]
def KK (G : GG) (U : State) : Prop := va_K G.2.1 vwCl (TY G) U
theorem KK.moved {G : GG} {u U : State} (hvm : u.vm.Alike U.vm) (h : KK G u) : KK G U := va_K.moved hvm h
-- plain rows of the memory
theorem u2_eq {α : Type} (g : Nat → Nat → α) (f a : Nat) (x : α) : u2 g f a x f a = x := by simp [u2]
theorem u2_nf {α : Type} (g : Nat → Nat → α) {f a f' a' : Nat} (x : α) (h : f' ≠ f) : u2 g f a x f' a' = g f' a' := by simp [u2, h]
theorem u2_na {α : Type} (g : Nat → Nat → α) {f a f' a' : Nat} (x : α) (h : a' ≠ a) : u2 g f a x f' a' = g f' a' := by simp [u2, h]
theorem fO_len (m : Mem) (ci a : Nat) : (fO m ci a).length = (kX ci).length := by simp [fO]
theorem fO_get (m : Mem) (ci a : Nat) {k : Nat} (hk : k < (kX ci).length) : (fO m ci a)[k]? = some (fV m ci k a ((kX ci).getD k 0)) := by
  simp [fO, hk]
theorem fV_oth {m m' : Mem} {ci k a w : Nat} (h1 : gI m' (20 * ci + k) a = gI m (20 * ci + k) a) (h2 : gL m' (20 * ci + k) a = gL m (20 * ci + k) a) (h3 : gP m' (20 * ci + k) a = gP m (20 * ci + k) a) : fV m' ci k a w = fV m ci k a w := by
  match w with
  | 0 => simp [fV, h1]
  | 1 => simp [fV, h2]
  | n + 2 => simp [fV, h3]
theorem fO_oth {m m' : Mem} {ci a : Nat} (h : ∀ f, gI m' f a = gI m f a ∧ gL m' f a = gL m f a ∧ gP m' f a = gP m f a) : fO m' ci a = fO m ci a := by
  unfold fO
  exact List.map_congr_left (fun k _ => fV_oth (h _).1 (h _).2.1 (h _).2.2)
theorem fO_set {m m' : Mem} {ci a k : Nat} {v : Value} (hk : k < (kX ci).length) (hv : fV m' ci k a ((kX ci).getD k 0) = v)
    (h : ∀ f, f ≠ 20 * ci + k → gI m' f a = gI m f a ∧ gL m' f a = gL m f a ∧ gP m' f a = gP m f a) : fO m' ci a = (fO m ci a).set k v := by
  apply List.ext_getElem?
  intro j
  rw [List.getElem?_set]
  by_cases hj : k = j
  · subst hj
    rw [if_pos rfl, if_pos (by rw [fO_len]; exact hk), fO_get m' ci a hk, hv]
  · rw [if_neg hj]
    by_cases hl : j < (kX ci).length
    · rw [fO_get m' ci a hl, fO_get m ci a hl]
      have q := h (20 * ci + j) (by omega)
      rw [fV_oth q.1 q.2.1 q.2.2]
    · rw [List.getElem?_eq_none (by rw [fO_len]; omega), List.getElem?_eq_none (by rw [fO_len]; omega)]
theorem cO_oth {G : GG} {m m' : Mem} {a : Nat} (ht : gT m' a = gT m a) (hn : gN m' a = gN m a) (h : ∀ f, gI m' f a = gI m f a ∧ gL m' f a = gL m f a ∧ gP m' f a = gP m f a) (h1 : aI m' a = aI m a) (h2 : aL m' a = aL m a) (h3 : aP m' a = aP m a) : cO G m' a = cO G m a := by
  unfold cO
  rw [ht, hn, fO_oth h, h1, h2, h3]
theorem cO_obj {G : GG} {m : Mem} {a ci : Nat} (h : gT m a = ci + 1) (hc : ci < 7) : cO G m a = some (.inr (ci, fO m ci a)) := by
  unfold cO
  rw [h, if_neg (by omega), if_pos (by omega)]
  rfl
theorem cO_int {G : GG} {m : Mem} {a t : Nat} (h : gT m a = t) (ht : t = 11 ∨ t = 12 ∨ t = 14 ∨ t = 15) : cO G m a = some (.inl (G.2.2.2 t, gN m a, .inl (aI m a))) := by
  unfold cO
  rw [h]
  rcases ht with rfl | rfl | rfl | rfl <;> simp
theorem cO_scr {G : GG} {m : Mem} {a : Nat} (h : gT m a = 18) : cO G m a = some (.inl (G.2.2.2 12, gN m a, .inl (aI m a))) := by
  unfold cO
  rw [h]
  simp
theorem cO_lng {G : GG} {m : Mem} {a : Nat} (h : gT m a = 13) : cO G m a = some (.inl (G.2.2.2 13, gN m a, .inr (.inl (aL m a)))) := by
  unfold cO
  rw [h]
  simp
theorem cO_ref {G : GG} {m : Mem} {a t : Nat} (h : gT m a = t) (ht : t = 16 ∨ t = 17) : cO G m a = some (.inl (G.2.2.2 t, gN m a, .inr (.inr (.inr (.inr (aP m a)))))) := by
  unfold cO
  rw [h]
  rcases ht with rfl | rfl <;> simp
/-- one cell is written, the others stay -/
theorem Rep.set {G : GG} {m m' : Mem} {H H1 : Heap} {a : Nat} {x : va_E} (h : Rep G m H) (hz : zz m' = zz m) (ht : gT m' = gT m) (ho : ∀ b, b ≠ a → cO G m' b = cO G m b) (ha : cO G m' a = some x) (hx : va_at G.2.1 vwCl (a, x) H1) (hs : H1.size = H.size) (hq : ∀ q : Nat, q ≠ a → H1[q]? = H[q]?) : Rep G m' H1 := by
  refine ⟨by rw [hs, hz]; exact h.1, fun b y hb => ?_, fun b hb1 hb2 => h.2.2 b (by rw [← ht]; exact hb1) (by rw [← ht]; exact hb2)⟩
  by_cases e : b = a
  · subst e
    rw [ha] at hb
    cases hb
    exact hx
  · rw [ho b e] at hb
    exact (h.2.1 b y hb).kept (hq b e)
theorem Rep.lt {G : GG} {m : Mem} {H : Heap} {a : Nat} {x : va_E} (h : Rep G m H) (hx : cO G m a = some x) : a < H.size := (h.2.1 a x hx).lt
theorem nw_cO {G : GG} {m : Mem} {t n b : Nat} (hb : b ≠ zz m) : cO G (nw m t n) b = cO G m b :=
  cO_oth (by simp [nw, gT, va_up, hb]) (by simp [nw, gN, va_up, hb]) (fun f => ⟨by simp [nw, gI, z2, hb], by simp [nw, gL, z2, hb], by simp [nw, gP, z2, hb]⟩) (by funext i; simp [nw, aI, zr, hb]) (by funext i; simp [nw, aL, zr, hb]) (by funext i; simp [nw, aP, zr, hb])
/-- a cell is made -/
theorem Rep.push {G : GG} {m : Mem} {H H1 : Heap} {t n : Nat} {x : va_E} (h : Rep G m H) (hx : cO G (nw m t n) (zz m) = some x) (ha : va_at G.2.1 vwCl (zz m, x) H1) (hB : G.2.2.1 ≤ zz m) (hs : H1.size = H.size + 1) (hq : ∀ q : Nat, q < H.size → H1[q]? = H[q]?) : Rep G (nw m t n) H1 := by
  refine ⟨by rw [hs, h.1]; rfl, fun b y hb => ?_, fun b hb1 hb2 => ?_⟩
  · by_cases e : b = zz m
    · subst e
      rw [hx] at hb
      cases hb
      exact ha
    · rw [nw_cO e] at hb
      exact (h.2.1 b y hb).kept (hq b (h.lt hb))
  · by_cases e : b = zz m
    · subst e
      exact hB
    · have q : gT (nw m t n) b = gT m b := by simp [nw, gT, va_up, e]
      rw [q] at hb1 hb2
      exact h.2.2 b hb1 hb2
end
section
/-! THE JUDGEMENT. EvB G d u z0 n0 r mF pc lv st m: method u, begun where the memory had z0 cells and n0 elements, now at pc with locals lv, stack st, memory m, comes to its end with answer r and memory mF; d bounds the depth of the calls below it. -/
abbrev MI : Type := MethodName × ByteArray × Nat × Option FieldType
def Fx (G : GG) (u : MI) (p : Program) (s : State) (q : MethodId) (args : Array Value) (meth : Method) (c : Code) : Prop :=
  p.tables.exec = Jvm.exec ∧ c.code = u.2.1 ∧ meth.sig.returnType = u.2.2.2 ∧ c.maxLocals = u.2.2.1 ∧ meth.locks = false ∧ s.vm.findClass u.1.cls = some q.cls ∧ meth.name = u.1.name ∧ (∀ w ∈ lw_g, w.before args s = true) ∧ KK G s
def Rm (d z0 n0 : Nat) (mF : Mem) (R : Room) : Prop := d + 1 ≤ R.frames ∧ 35 * (d + 1) ≤ R.locals ∧ zz mF ≤ z0 + R.cells ∧ nn mF ≤ n0 + R.slots
/-- what a return instruction takes: its name, and the stack that it wants for the answer r -/
def RetI (ret : Option FieldType) (r : Option Value) (i : Instr) (st : List Value) : Prop :=
  (i = .return_ ∧ ret = none ∧ r = none ∧ st = []) ∨ (∃ (v : Int32) (ty : FieldType), i = .ireturn ∧ ret = some ty ∧ narrow ty (.int v) = .int v ∧ r = some (.int v) ∧ st = [.int v]) ∨ (∃ v : Int64, i = .lreturn ∧ ret = some .long ∧ r = some (.long v) ∧ st = [.long v]) ∨ (∃ (v : Option Nat) (ty : FieldType), i = .areturn ∧ ret = some ty ∧ ((∃ n, ty = .object n) ∨ ∃ t, ty = .array t) ∧ r = some (va_rf v) ∧ st = [va_rf v])
def RetOK (G : GG) (u : MI) (z0 n0 : Nat) (r : Option Value) (mF : Mem) (p : Program) (e : Env) (R : Room) (s : State) (q : MethodId) (args : Array Value) (below : List Frame) (meth : Method) (c : Code) (Q : State → Prop) : Prop :=
  ∀ (i : Instr) (st : List Value) (pc : Nat) (H : Heap) (ls : Array Slot) (locs : List Loc), RetI u.2.2.2 r i st → decode u.2.1 pc = .ok (i, 1) → Rep G mF H → (∀ x ∈ locs, G.2.2.1 ≤ x.base) → W p G.1 e R s q args below meth c H locs (zz mF - z0) (nn mF - n0) Q (F0 q pc ls st)
def EvB (G : GG) (d : Nat) (u : MI) (z0 n0 : Nat) (r : Option Value) (mF : Mem) (pc : Nat) (lv : List (Nat × Value)) (st : List Value) (m : Mem) : Prop :=
  (zz m ≤ zz mF ∧ nn m ≤ nn mF) ∧ ∀ (p : Program) (e : Env) (R : Room) (s : State) (q : MethodId) (args : Array Value) (below : List Frame) (meth : Method) (c : Code) (Q : State → Prop),
    Fx G u p s q args meth c → Rm d z0 n0 mF R → RetOK G u z0 n0 r mF p e R s q args below meth c Q → G.2.2.1 ≤ z0 → z0 ≤ zz m → n0 ≤ nn m →
    ∀ (H : Heap) (ls : Array Slot) (locs : List Loc), Rep G m H → lv_has ls u.2.2.1 lv → (∀ x ∈ locs, G.2.2.1 ≤ x.base) →
      W p G.1 e R s q args below meth c H locs (zz m - z0) (nn m - n0) Q (F0 q pc ls st)
section Rows1
variable {G : GG} {d : Nat} {u : MI} {z0 n0 : Nat} {r : Option Value} {mF : Mem} {pc : Nat} {lv : List (Nat × Value)} {st : List Value} {m : Mem}
/-- a step that leaves the memory and the locals -/
theorem ev_go {pc' : Nat} {st' : List Value} (k : EvB G d u z0 n0 r mF pc' lv st' m)
    (h : ∀ {p : Program} {e : Env} {R : Room} {s : State} {q : MethodId} {args : Array Value} {below : List Frame} {meth : Method} {c : Code} {Q : State → Prop} {H : Heap} {ls : Array Slot} {locs : List Loc} {cells slots : Nat}, Fx G u p s q args meth c → Rep G m H → lv_has ls u.2.2.1 lv → W p G.1 e R s q args below meth c H locs cells slots Q (F0 q pc' ls st') → W p G.1 e R s q args below meth c H locs cells slots Q (F0 q pc ls st)) :
    EvB G d u z0 n0 r mF pc lv st m :=
  ⟨k.1, fun p e R s q args below meth c Q F hR hQ hB h1 h2 H ls locs hr hl hL => h F hr hl (k.2 p e R s q args below meth c Q F hR hQ hB h1 h2 H ls locs hr hl hL)⟩
/-- a step that changes the locals -/
theorem ev_lo {pc' : Nat} {st' : List Value} {lv' : List (Nat × Value)} (k : EvB G d u z0 n0 r mF pc' lv' st' m)
    (h : ∀ {p : Program} {e : Env} {R : Room} {s : State} {q : MethodId} {args : Array Value} {below : List Frame} {meth : Method} {c : Code} {Q : State → Prop} {H : Heap} {ls : Array Slot} {locs : List Loc} {cells slots : Nat}, Fx G u p s q args meth c → lv_has ls u.2.2.1 lv → (∀ ls' : Array Slot, lv_has ls' u.2.2.1 lv' → W p G.1 e R s q args below meth c H locs cells slots Q (F0 q pc' ls' st')) → W p G.1 e R s q args below meth c H locs cells slots Q (F0 q pc ls st)) :
    EvB G d u z0 n0 r mF pc lv st m :=
  ⟨k.1, fun p e R s q args below meth c Q F hR hQ hB h1 h2 H ls locs hr hl hL => h F hl (fun ls' hl' => k.2 p e R s q args below meth c Q F hR hQ hB h1 h2 H ls' locs hr hl' hL)⟩
/-- two ways -/
theorem ev_br {P : Prop} {pc1 pc2 : Nat} {st1 st2 : List Value} (k1 : P → EvB G d u z0 n0 r mF pc1 lv st1 m) (k2 : ¬ P → EvB G d u z0 n0 r mF pc2 lv st2 m)
    (h : ∀ {p : Program} {e : Env} {R : Room} {s : State} {q : MethodId} {args : Array Value} {below : List Frame} {meth : Method} {c : Code} {Q : State → Prop} {H : Heap} {ls : Array Slot} {locs : List Loc} {cells slots : Nat}, Fx G u p s q args meth c → (P → W p G.1 e R s q args below meth c H locs cells slots Q (F0 q pc1 ls st1)) → (¬ P → W p G.1 e R s q args below meth c H locs cells slots Q (F0 q pc2 ls st2)) → W p G.1 e R s q args below meth c H locs cells slots Q (F0 q pc ls st)) :
    EvB G d u z0 n0 r mF pc lv st m := by
  refine ⟨?_, fun p e R s q args below meth c Q F hR hQ hB h1 h2 H ls locs hr hl hL => h F (fun hp => (k1 hp).2 p e R s q args below meth c Q F hR hQ hB h1 h2 H ls locs hr hl hL) (fun hp => (k2 hp).2 p e R s q args below meth c Q F hR hQ hB h1 h2 H ls locs hr hl hL)⟩
  by_cases hp : P
  · exact (k1 hp).1
  · exact (k2 hp).1
theorem e_iconst {n : Int} {v : Int32} (hd : decode u.2.1 pc = .ok (.iconst n, 1)) (hv : Int32.ofInt n = v) (k : EvB G d u z0 n0 r mF (pc + 1) lv (.int v :: st) m) : EvB G d u z0 n0 r mF pc lv st m := ev_go k (fun F _ hl w => lv_iconst F.1 F.2.1 hd hv w)
theorem e_bipush {n : Int} {v : Int32} (hd : decode u.2.1 pc = .ok (.bipush n, 2)) (hv : (Int8.ofInt n).toInt32 = v) (k : EvB G d u z0 n0 r mF (pc + 2) lv (.int v :: st) m) : EvB G d u z0 n0 r mF pc lv st m := ev_go k (fun F _ hl w => lv_bipush F.1 F.2.1 hd hv w)
theorem e_sipush {n : Int} {v : Int32} (hd : decode u.2.1 pc = .ok (.sipush n, 3)) (hv : (Int16.ofInt n).toInt32 = v) (k : EvB G d u z0 n0 r mF (pc + 3) lv (.int v :: st) m) : EvB G d u z0 n0 r mF pc lv st m := ev_go k (fun F _ hl w => lv_sipush F.1 F.2.1 hd hv w)
theorem e_lconst {n : Fin 2} {v : Int64} (hd : decode u.2.1 pc = .ok (.lconst n, 1)) (hv : Int64.ofNat (n : Nat) = v) (k : EvB G d u z0 n0 r mF (pc + 1) lv (.long v :: st) m) : EvB G d u z0 n0 r mF pc lv st m := ev_go k (fun F _ hl w => lv_lconst F.1 F.2.1 hd hv w)
theorem e_null  (hd : decode u.2.1 pc = .ok (.aconst_null, 1))  (k : EvB G d u z0 n0 r mF (pc + 1) lv (.null :: st) m) : EvB G d u z0 n0 r mF pc lv st m := ev_go k (fun F _ hl w => lv_null F.1 F.2.1 hd w)
theorem e_aload_nN {k : Fin 4} (j : Nat) (hd : decode u.2.1 pc = .ok (.aload_n k, 1)) (hi : lv[j]? = some ((k : Nat), .null)) (k : EvB G d u z0 n0 r mF (pc + 1) lv (.null :: st) m) : EvB G d u z0 n0 r mF pc lv st m := ev_go k (fun F _ hl w => lv_aload_nN F.1 F.2.1 hd rfl (lv_at hl j hi) w)
theorem e_aloadN {i : Nat} (j : Nat) (hd : decode u.2.1 pc = .ok (.aload i, 2)) (hi : lv[j]? = some (i, .null)) (k : EvB G d u z0 n0 r mF (pc + 2) lv (.null :: st) m) : EvB G d u z0 n0 r mF pc lv st m := ev_go k (fun F _ hl w => lv_aloadN F.1 F.2.1 hd (lv_at hl j hi) w)
theorem e_lcmp {x y : Int64} (hd : decode u.2.1 pc = .ok (.lcmp, 1))  (k : EvB G d u z0 n0 r mF (pc + 1) lv (.int (lg_cmp x y) :: st) m) : EvB G d u z0 n0 r mF pc lv (.long y :: .long x :: st) m := ev_go k (fun F _ hl w => W.lcmp F.1 F.2.1 hd w)
theorem e_iload_n {k : Fin 4} {x : Int32} (j : Nat) (hd : decode u.2.1 pc = .ok (.iload_n k, 1)) (hi : lv[j]? = some ((k : Nat), .int x)) (k : EvB G d u z0 n0 r mF (pc + 1) lv (.int x :: st) m) : EvB G d u z0 n0 r mF pc lv st m := ev_go k (fun F _ hl w => lv_iload_n F.1 F.2.1 hd rfl (lv_at hl j hi) w)
theorem e_iload {i : Nat} {x : Int32} (j : Nat) (hd : decode u.2.1 pc = .ok (.iload i, 2)) (hi : lv[j]? = some (i, .int x)) (k : EvB G d u z0 n0 r mF (pc + 2) lv (.int x :: st) m) : EvB G d u z0 n0 r mF pc lv st m := ev_go k (fun F _ hl w => lv_iload F.1 F.2.1 hd (lv_at hl j hi) w)
theorem e_lload_n {k : Fin 4} {x : Int64} (j : Nat) (hd : decode u.2.1 pc = .ok (.lload_n k, 1)) (hi : lv[j]? = some ((k : Nat), .long x)) (k : EvB G d u z0 n0 r mF (pc + 1) lv (.long x :: st) m) : EvB G d u z0 n0 r mF pc lv st m := ev_go k (fun F _ hl w => lv_lload_n F.1 F.2.1 hd rfl (lv_at hl j hi) w)
theorem e_lload {i : Nat} {x : Int64} (j : Nat) (hd : decode u.2.1 pc = .ok (.lload i, 2)) (hi : lv[j]? = some (i, .long x)) (k : EvB G d u z0 n0 r mF (pc + 2) lv (.long x :: st) m) : EvB G d u z0 n0 r mF pc lv st m := ev_go k (fun F _ hl w => lv_lload F.1 F.2.1 hd (lv_at hl j hi) w)
theorem e_aload_n {k : Fin 4} {x : Nat} (j : Nat) (hd : decode u.2.1 pc = .ok (.aload_n k, 1)) (hi : lv[j]? = some ((k : Nat), .ref x)) (k : EvB G d u z0 n0 r mF (pc + 1) lv (.ref x :: st) m) : EvB G d u z0 n0 r mF pc lv st m := ev_go k (fun F _ hl w => lv_aload_n F.1 F.2.1 hd rfl (lv_at hl j hi) w)
theorem e_aload {i : Nat} {x : Nat} (j : Nat) (hd : decode u.2.1 pc = .ok (.aload i, 2)) (hi : lv[j]? = some (i, .ref x)) (k : EvB G d u z0 n0 r mF (pc + 2) lv (.ref x :: st) m) : EvB G d u z0 n0 r mF pc lv st m := ev_go k (fun F _ hl w => lv_aload F.1 F.2.1 hd (lv_at hl j hi) w)
theorem e_iadd {x y : Int32} (hd : decode u.2.1 pc = .ok (.iadd, 1))  (k : EvB G d u z0 n0 r mF (pc + 1) lv (.int (x + y) :: st) m) : EvB G d u z0 n0 r mF pc lv (.int y :: .int x :: st) m := ev_go k (fun F _ hl w => lv_iadd F.1 F.2.1 hd w)
theorem e_isub {x y : Int32} (hd : decode u.2.1 pc = .ok (.isub, 1))  (k : EvB G d u z0 n0 r mF (pc + 1) lv (.int (x - y) :: st) m) : EvB G d u z0 n0 r mF pc lv (.int y :: .int x :: st) m := ev_go k (fun F _ hl w => lv_isub F.1 F.2.1 hd w)
theorem e_imul {x y : Int32} (hd : decode u.2.1 pc = .ok (.imul, 1))  (k : EvB G d u z0 n0 r mF (pc + 1) lv (.int (x * y) :: st) m) : EvB G d u z0 n0 r mF pc lv (.int y :: .int x :: st) m := ev_go k (fun F _ hl w => lv_imul F.1 F.2.1 hd w)
theorem e_iand {x y : Int32} (hd : decode u.2.1 pc = .ok (.iand, 1))  (k : EvB G d u z0 n0 r mF (pc + 1) lv (.int (x &&& y) :: st) m) : EvB G d u z0 n0 r mF pc lv (.int y :: .int x :: st) m := ev_go k (fun F _ hl w => lv_iand F.1 F.2.1 hd w)
theorem e_ladd {x y : Int64} (hd : decode u.2.1 pc = .ok (.ladd, 1))  (k : EvB G d u z0 n0 r mF (pc + 1) lv (.long (x + y) :: st) m) : EvB G d u z0 n0 r mF pc lv (.long y :: .long x :: st) m := ev_go k (fun F _ hl w => lv_ladd F.1 F.2.1 hd w)
theorem e_lsub {x y : Int64} (hd : decode u.2.1 pc = .ok (.lsub, 1))  (k : EvB G d u z0 n0 r mF (pc + 1) lv (.long (x - y) :: st) m) : EvB G d u z0 n0 r mF pc lv (.long y :: .long x :: st) m := ev_go k (fun F _ hl w => lv_lsub F.1 F.2.1 hd w)
theorem e_lmul {x y : Int64} (hd : decode u.2.1 pc = .ok (.lmul, 1))  (k : EvB G d u z0 n0 r mF (pc + 1) lv (.long (x * y) :: st) m) : EvB G d u z0 n0 r mF pc lv (.long y :: .long x :: st) m := ev_go k (fun F _ hl w => lv_lmul F.1 F.2.1 hd w)
theorem e_land {x y : Int64} (hd : decode u.2.1 pc = .ok (.land, 1))  (k : EvB G d u z0 n0 r mF (pc + 1) lv (.long (x &&& y) :: st) m) : EvB G d u z0 n0 r mF pc lv (.long y :: .long x :: st) m := ev_go k (fun F _ hl w => lv_land F.1 F.2.1 hd w)
theorem e_lor {x y : Int64} (hd : decode u.2.1 pc = .ok (.lor, 1))  (k : EvB G d u z0 n0 r mF (pc + 1) lv (.long (x ||| y) :: st) m) : EvB G d u z0 n0 r mF pc lv (.long y :: .long x :: st) m := ev_go k (fun F _ hl w => lv_lor F.1 F.2.1 hd w)
theorem e_idiv {x y : Int32} (hd : decode u.2.1 pc = .ok (.idiv, 1)) (hne : ¬ y = 0) (k : EvB G d u z0 n0 r mF (pc + 1) lv (.int (x / y) :: st) m) : EvB G d u z0 n0 r mF pc lv (.int y :: .int x :: st) m := ev_go k (fun F _ hl w => lv_idiv F.1 F.2.1 hd hne w)
theorem e_irem {x y : Int32} (hd : decode u.2.1 pc = .ok (.irem, 1)) (hne : ¬ y = 0) (k : EvB G d u z0 n0 r mF (pc + 1) lv (.int (x - x / y * y) :: st) m) : EvB G d u z0 n0 r mF pc lv (.int y :: .int x :: st) m := ev_go k (fun F _ hl w => lv_irem F.1 F.2.1 hd hne w)
theorem e_ldiv {x y : Int64} (hd : decode u.2.1 pc = .ok (.ldiv, 1)) (hne : ¬ y = 0) (k : EvB G d u z0 n0 r mF (pc + 1) lv (.long (x / y) :: st) m) : EvB G d u z0 n0 r mF pc lv (.long y :: .long x :: st) m := ev_go k (fun F _ hl w => lv_ldiv F.1 F.2.1 hd hne w)
theorem e_i2l {x : Int32} (hd : decode u.2.1 pc = .ok (.i2l, 1))  (k : EvB G d u z0 n0 r mF (pc + 1) lv (.long x.toInt64 :: st) m) : EvB G d u z0 n0 r mF pc lv (.int x :: st) m := ev_go k (fun F _ hl w => lv_i2l F.1 F.2.1 hd rfl w)
theorem e_l2i {x : Int64} (hd : decode u.2.1 pc = .ok (.l2i, 1))  (k : EvB G d u z0 n0 r mF (pc + 1) lv (.int x.toInt32 :: st) m) : EvB G d u z0 n0 r mF pc lv (.long x :: st) m := ev_go k (fun F _ hl w => lv_l2i F.1 F.2.1 hd rfl w)
theorem e_i2b {x : Int32} (hd : decode u.2.1 pc = .ok (.i2b, 1))  (k : EvB G d u z0 n0 r mF (pc + 1) lv (.int x.toInt8.toInt32 :: st) m) : EvB G d u z0 n0 r mF pc lv (.int x :: st) m := ev_go k (fun F _ hl w => lv_i2b F.1 F.2.1 hd rfl w)
theorem e_i2s {x : Int32} (hd : decode u.2.1 pc = .ok (.i2s, 1))  (k : EvB G d u z0 n0 r mF (pc + 1) lv (.int x.toInt16.toInt32 :: st) m) : EvB G d u z0 n0 r mF pc lv (.int x :: st) m := ev_go k (fun F _ hl w => lv_i2s F.1 F.2.1 hd rfl w)
theorem e_lushr {x : Int64} {y : Int32} (hd : decode u.2.1 pc = .ok (.lushr, 1))  (k : EvB G d u z0 n0 r mF (pc + 1) lv (.long (x.toUInt64 >>> (y.toInt64.toUInt64 &&& Int64.toUInt64 63)).toInt64 :: st) m) : EvB G d u z0 n0 r mF pc lv (.int y :: .long x :: st) m := ev_go k (fun F _ hl w => lv_lushr F.1 F.2.1 hd rfl w)
theorem e_lshl {x : Int64} {y : Int32} (hd : decode u.2.1 pc = .ok (.lshl, 1))  (k : EvB G d u z0 n0 r mF (pc + 1) lv (.long (x <<< (y.toInt64 &&& 63)) :: st) m) : EvB G d u z0 n0 r mF pc lv (.int y :: .long x :: st) m := ev_go k (fun F _ hl w => lv_lshl F.1 F.2.1 hd rfl w)
theorem e_lshr {x : Int64} {y : Int32} (hd : decode u.2.1 pc = .ok (.lshr, 1))  (k : EvB G d u z0 n0 r mF (pc + 1) lv (.long (x >>> (y.toInt64 &&& 63)) :: st) m) : EvB G d u z0 n0 r mF pc lv (.int y :: .long x :: st) m := ev_go k (fun F _ hl w => lv_lshr F.1 F.2.1 hd rfl w)
theorem e_dup {v : Value} (hd : decode u.2.1 pc = .ok (.dup, 1)) (hc : v.category = 1) (k : EvB G d u z0 n0 r mF (pc + 1) lv (v :: v :: st) m) : EvB G d u z0 n0 r mF pc lv (v :: st) m := ev_go k (fun F _ hl w => lv_dup F.1 F.2.1 hd hc w)
theorem e_pop {v : Value} (hd : decode u.2.1 pc = .ok (.pop, 1)) (hc : v.category = 1) (k : EvB G d u z0 n0 r mF (pc + 1) lv st m) : EvB G d u z0 n0 r mF pc lv (v :: st) m := ev_go k (fun F _ hl w => lv_pop F.1 F.2.1 hd hc w)
theorem e_dup2 {v w : Value} (hd : decode u.2.1 pc = .ok (.dup2, 1)) (hc : v.category = 1) (hc2 : w.category = 1) (k : EvB G d u z0 n0 r mF (pc + 1) lv (v :: w :: v :: w :: st) m) : EvB G d u z0 n0 r mF pc lv (v :: w :: st) m := ev_go k (fun F _ hl w => lv_dup2_11 F.1 F.2.1 hd hc hc2 w)
theorem e_ldc {i : Nat} {v : Int32} (hd : decode u.2.1 pc = .ok (.ldc i, 2)) (hc : Jvm.Cond.constant u.1.cls i v ∈ lw_g) (k : EvB G d u z0 n0 r mF (pc + 2) lv (.int v :: st) m) : EvB G d u z0 n0 r mF pc lv st m := ev_go k (fun F _ hl w => lv_ldc F.1 F.2.1 F.2.2.2.2.2.1 (F.2.2.2.2.2.2.2.1 _ hc) hd w)
theorem e_ldc2 {i : Nat} {v : Int64} (hd : decode u.2.1 pc = .ok (.ldc2_w i, 3)) (hc : Jvm.Cond.constantLong u.1.cls i v ∈ lw_g) (k : EvB G d u z0 n0 r mF (pc + 3) lv (.long v :: st) m) : EvB G d u z0 n0 r mF pc lv st m := ev_go k (fun F _ hl w => lv_ldc2 F.1 F.2.1 F.2.2.2.2.2.1 (F.2.2.2.2.2.2.2.1 _ hc) hd w)
theorem e_istore {i : Nat} {x : Int32} {lv' : List (Nat × Value)} (hd : decode u.2.1 pc = .ok (.istore i, 2)) (hn : i + 0 < u.2.2.1) (hlv : (i, Value.int x) :: lv.filter (fun q => !(q.1 == i) && !(q.1 + 1 == i && q.2.category == 2)) = lv') (k : EvB G d u z0 n0 r mF (pc + 2) lv' st m) : EvB G d u z0 n0 r mF pc lv (Value.int x :: st) m := ev_lo k (fun F hl w => lv_istore F.1 F.2.1 hd hl hn hlv w)
theorem e_lstore {i : Nat} {x : Int64} {lv' : List (Nat × Value)} (hd : decode u.2.1 pc = .ok (.lstore i, 2)) (hn : i + 1 < u.2.2.1) (hlv : (i, Value.long x) :: lv.filter (fun q => !(q.1 == i) && (!(q.1 == i + 1) && !(q.1 + 1 == i && q.2.category == 2))) = lv') (k : EvB G d u z0 n0 r mF (pc + 2) lv' st m) : EvB G d u z0 n0 r mF pc lv (Value.long x :: st) m := ev_lo k (fun F hl w => lv_lstore F.1 F.2.1 hd hl hn hlv w)
theorem e_astoreN {i : Nat} {lv' : List (Nat × Value)} (hd : decode u.2.1 pc = .ok (.astore i, 2)) (hn : i + 0 < u.2.2.1) (hlv : (i, Value.null) :: lv.filter (fun q => !(q.1 == i) && !(q.1 + 1 == i && q.2.category == 2)) = lv') (k : EvB G d u z0 n0 r mF (pc + 2) lv' st m) : EvB G d u z0 n0 r mF pc lv (Value.null :: st) m := ev_lo k (fun F hl w => lv_astoreN F.1 F.2.1 hd hl hn hlv w)
theorem e_astore {i : Nat} {x : Nat} {lv' : List (Nat × Value)} (hd : decode u.2.1 pc = .ok (.astore i, 2)) (hn : i + 0 < u.2.2.1) (hlv : (i, Value.ref x) :: lv.filter (fun q => !(q.1 == i) && !(q.1 + 1 == i && q.2.category == 2)) = lv') (k : EvB G d u z0 n0 r mF (pc + 2) lv' st m) : EvB G d u z0 n0 r mF pc lv (Value.ref x :: st) m := ev_lo k (fun F hl w => lv_astore F.1 F.2.1 hd hl hn hlv w)
theorem e_istore_n {j : Fin 4} {x : Int32} {lv' : List (Nat × Value)} (hd : decode u.2.1 pc = .ok (.istore_n j, 1)) (hn : (j : Nat) + 0 < u.2.2.1) (hlv : ((j : Nat), Value.int x) :: lv.filter (fun q => !(q.1 == (j : Nat)) && !(q.1 + 1 == (j : Nat) && q.2.category == 2)) = lv') (k : EvB G d u z0 n0 r mF (pc + 1) lv' st m) : EvB G d u z0 n0 r mF pc lv (Value.int x :: st) m := ev_lo k (fun F hl w => lv_istore_n F.1 F.2.1 hd rfl hl hn hlv w)
theorem e_lstore_n {j : Fin 4} {x : Int64} {lv' : List (Nat × Value)} (hd : decode u.2.1 pc = .ok (.lstore_n j, 1)) (hn : (j : Nat) + 1 < u.2.2.1) (hlv : ((j : Nat), Value.long x) :: lv.filter (fun q => !(q.1 == (j : Nat)) && (!(q.1 == (j : Nat) + 1) && !(q.1 + 1 == (j : Nat) && q.2.category == 2))) = lv') (k : EvB G d u z0 n0 r mF (pc + 1) lv' st m) : EvB G d u z0 n0 r mF pc lv (Value.long x :: st) m := ev_lo k (fun F hl w => lv_lstore_n F.1 F.2.1 hd rfl hl hn hlv w)
theorem e_astore_nN {j : Fin 4} {lv' : List (Nat × Value)} (hd : decode u.2.1 pc = .ok (.astore_n j, 1)) (hn : (j : Nat) + 0 < u.2.2.1) (hlv : ((j : Nat), Value.null) :: lv.filter (fun q => !(q.1 == (j : Nat)) && !(q.1 + 1 == (j : Nat) && q.2.category == 2)) = lv') (k : EvB G d u z0 n0 r mF (pc + 1) lv' st m) : EvB G d u z0 n0 r mF pc lv (Value.null :: st) m := ev_lo k (fun F hl w => lv_astore_nN F.1 F.2.1 hd rfl hl hn hlv w)
theorem e_astore_n {j : Fin 4} {x : Nat} {lv' : List (Nat × Value)} (hd : decode u.2.1 pc = .ok (.astore_n j, 1)) (hn : (j : Nat) + 0 < u.2.2.1) (hlv : ((j : Nat), Value.ref x) :: lv.filter (fun q => !(q.1 == (j : Nat)) && !(q.1 + 1 == (j : Nat) && q.2.category == 2)) = lv') (k : EvB G d u z0 n0 r mF (pc + 1) lv' st m) : EvB G d u z0 n0 r mF pc lv (Value.ref x :: st) m := ev_lo k (fun F hl w => lv_astore_n F.1 F.2.1 hd rfl hl hn hlv w)
theorem e_iinc {i : Nat} {n : Int} {x v : Int32} {lv' : List (Nat × Value)} (j : Nat) (hd : decode u.2.1 pc = .ok (.iinc i n, 3)) (hj : lv[j]? = some (i, .int x)) (hv : x + Int32.ofInt n = v) (hn : i < u.2.2.1) (hlv : (i, Value.int v) :: lv.filter (fun q => !(q.1 == i) && !(q.1 + 1 == i && q.2.category == 2)) = lv') (k : EvB G d u z0 n0 r mF (pc + 3) lv' st m) : EvB G d u z0 n0 r mF pc lv st m := ev_lo k (fun F hl w => lv_iinc F.1 F.2.1 hd hl hj hv hn hlv w)
theorem e_if_eq {x : Int32} {off : Int} (tgt : Nat) (hd : decode u.2.1 pc = .ok (.ifCond .eq off, 3)) (ht : (pc : Int) + off = (tgt : Int)) (k1 : x = 0 → EvB G d u z0 n0 r mF tgt lv st m) (k2 : ¬ (x = 0) → EvB G d u z0 n0 r mF (pc + 3) lv st m) : EvB G d u z0 n0 r mF pc lv (.int x :: st) m := ev_br k1 k2 (fun F w1 w2 => lv_if_eq F.1 F.2.1 hd ht w1 w2)
theorem e_if_lt {x : Int32} {off : Int} (tgt : Nat) (hd : decode u.2.1 pc = .ok (.ifCond .lt off, 3)) (ht : (pc : Int) + off = (tgt : Int)) (k1 : x < 0 → EvB G d u z0 n0 r mF tgt lv st m) (k2 : ¬ (x < 0) → EvB G d u z0 n0 r mF (pc + 3) lv st m) : EvB G d u z0 n0 r mF pc lv (.int x :: st) m := ev_br k1 k2 (fun F w1 w2 => lv_if_lt F.1 F.2.1 hd ht w1 w2)
theorem e_if_ge {x : Int32} {off : Int} (tgt : Nat) (hd : decode u.2.1 pc = .ok (.ifCond .ge off, 3)) (ht : (pc : Int) + off = (tgt : Int)) (k1 : 0 ≤ x → EvB G d u z0 n0 r mF tgt lv st m) (k2 : ¬ (0 ≤ x) → EvB G d u z0 n0 r mF (pc + 3) lv st m) : EvB G d u z0 n0 r mF pc lv (.int x :: st) m := ev_br k1 k2 (fun F w1 w2 => lv_if_ge F.1 F.2.1 hd ht w1 w2)
theorem e_if_gt {x : Int32} {off : Int} (tgt : Nat) (hd : decode u.2.1 pc = .ok (.ifCond .gt off, 3)) (ht : (pc : Int) + off = (tgt : Int)) (k1 : 0 < x → EvB G d u z0 n0 r mF tgt lv st m) (k2 : ¬ (0 < x) → EvB G d u z0 n0 r mF (pc + 3) lv st m) : EvB G d u z0 n0 r mF pc lv (.int x :: st) m := ev_br k1 k2 (fun F w1 w2 => lv_if_gt F.1 F.2.1 hd ht w1 w2)
theorem e_if_le {x : Int32} {off : Int} (tgt : Nat) (hd : decode u.2.1 pc = .ok (.ifCond .le off, 3)) (ht : (pc : Int) + off = (tgt : Int)) (k1 : x ≤ 0 → EvB G d u z0 n0 r mF tgt lv st m) (k2 : ¬ (x ≤ 0) → EvB G d u z0 n0 r mF (pc + 3) lv st m) : EvB G d u z0 n0 r mF pc lv (.int x :: st) m := ev_br k1 k2 (fun F w1 w2 => lv_if_le F.1 F.2.1 hd ht w1 w2)
theorem e_icmp_eq {x y : Int32} {off : Int} (tgt : Nat) (hd : decode u.2.1 pc = .ok (.if_icmp .eq off, 3)) (ht : (pc : Int) + off = (tgt : Int)) (k1 : x = y → EvB G d u z0 n0 r mF tgt lv st m) (k2 : ¬ (x = y) → EvB G d u z0 n0 r mF (pc + 3) lv st m) : EvB G d u z0 n0 r mF pc lv (.int y :: .int x :: st) m := ev_br k1 k2 (fun F w1 w2 => lv_icmp_eq F.1 F.2.1 hd ht w1 w2)
theorem e_icmp_lt {x y : Int32} {off : Int} (tgt : Nat) (hd : decode u.2.1 pc = .ok (.if_icmp .lt off, 3)) (ht : (pc : Int) + off = (tgt : Int)) (k1 : x < y → EvB G d u z0 n0 r mF tgt lv st m) (k2 : ¬ (x < y) → EvB G d u z0 n0 r mF (pc + 3) lv st m) : EvB G d u z0 n0 r mF pc lv (.int y :: .int x :: st) m := ev_br k1 k2 (fun F w1 w2 => lv_icmp_lt F.1 F.2.1 hd ht w1 w2)
theorem e_icmp_ge {x y : Int32} {off : Int} (tgt : Nat) (hd : decode u.2.1 pc = .ok (.if_icmp .ge off, 3)) (ht : (pc : Int) + off = (tgt : Int)) (k1 : y ≤ x → EvB G d u z0 n0 r mF tgt lv st m) (k2 : ¬ (y ≤ x) → EvB G d u z0 n0 r mF (pc + 3) lv st m) : EvB G d u z0 n0 r mF pc lv (.int y :: .int x :: st) m := ev_br k1 k2 (fun F w1 w2 => lv_icmp_ge F.1 F.2.1 hd ht w1 w2)
theorem e_icmp_gt {x y : Int32} {off : Int} (tgt : Nat) (hd : decode u.2.1 pc = .ok (.if_icmp .gt off, 3)) (ht : (pc : Int) + off = (tgt : Int)) (k1 : y < x → EvB G d u z0 n0 r mF tgt lv st m) (k2 : ¬ (y < x) → EvB G d u z0 n0 r mF (pc + 3) lv st m) : EvB G d u z0 n0 r mF pc lv (.int y :: .int x :: st) m := ev_br k1 k2 (fun F w1 w2 => lv_icmp_gt F.1 F.2.1 hd ht w1 w2)
theorem e_icmp_le {x y : Int32} {off : Int} (tgt : Nat) (hd : decode u.2.1 pc = .ok (.if_icmp .le off, 3)) (ht : (pc : Int) + off = (tgt : Int)) (k1 : x ≤ y → EvB G d u z0 n0 r mF tgt lv st m) (k2 : ¬ (x ≤ y) → EvB G d u z0 n0 r mF (pc + 3) lv st m) : EvB G d u z0 n0 r mF pc lv (.int y :: .int x :: st) m := ev_br k1 k2 (fun F w1 w2 => lv_icmp_le F.1 F.2.1 hd ht w1 w2)
theorem e_if_ne {x : Int32} {off : Int} (tgt : Nat) (hd : decode u.2.1 pc = .ok (.ifCond .ne off, 3)) (ht : (pc : Int) + off = (tgt : Int)) (k1 : ¬ x = 0 → EvB G d u z0 n0 r mF tgt lv st m) (k2 : x = 0 → EvB G d u z0 n0 r mF (pc + 3) lv st m) : EvB G d u z0 n0 r mF pc lv (.int x :: st) m := ev_br k2 k1 (fun F w1 w2 => lv_if_ne F.1 F.2.1 hd ht w2 w1)
theorem e_icmp_ne {x y : Int32} {off : Int} (tgt : Nat) (hd : decode u.2.1 pc = .ok (.if_icmp .ne off, 3)) (ht : (pc : Int) + off = (tgt : Int)) (k1 : ¬ x = y → EvB G d u z0 n0 r mF tgt lv st m) (k2 : x = y → EvB G d u z0 n0 r mF (pc + 3) lv st m) : EvB G d u z0 n0 r mF pc lv (.int y :: .int x :: st) m := ev_br k2 k1 (fun F w1 w2 => lv_icmp_ne F.1 F.2.1 hd ht w2 w1)
theorem e_acmp_eq {v w : Value} {off : Int} (tgt : Nat) (rx ry : Option Nat) (hd : decode u.2.1 pc = .ok (.if_acmp .eq off, 3)) (ht : (pc : Int) + off = (tgt : Int)) (h1 : w = va_rf ry) (h2 : v = va_rf rx) (k1 : rx = ry → EvB G d u z0 n0 r mF tgt lv st m) (k2 : ¬ rx = ry → EvB G d u z0 n0 r mF (pc + 3) lv st m) : EvB G d u z0 n0 r mF pc lv (w :: v :: st) m := by
  subst h1; subst h2
  exact ev_br k1 k2 (fun F w1 w2 => lv_acmp_eq F.1 F.2.1 hd ht w1 w2)
theorem e_acmp_ne {v w : Value} {off : Int} (tgt : Nat) (rx ry : Option Nat) (hd : decode u.2.1 pc = .ok (.if_acmp .ne off, 3)) (ht : (pc : Int) + off = (tgt : Int)) (h1 : w = va_rf ry) (h2 : v = va_rf rx) (k1 : ¬ rx = ry → EvB G d u z0 n0 r mF tgt lv st m) (k2 : rx = ry → EvB G d u z0 n0 r mF (pc + 3) lv st m) : EvB G d u z0 n0 r mF pc lv (w :: v :: st) m := by
  subst h1; subst h2
  exact ev_br k2 k1 (fun F w1 w2 => lv_acmp_ne F.1 F.2.1 hd ht w2 w1)
theorem e_ifnull {x : Nat} {off : Int} (hd : decode u.2.1 pc = .ok (.ifnull off, 3)) (k : EvB G d u z0 n0 r mF (pc + 3) lv st m) : EvB G d u z0 n0 r mF pc lv (.ref x :: st) m := ev_go k (fun F _ hl w => lv_ifnull F.1 F.2.1 hd w)
theorem e_ifnonnull {x : Nat} {off : Int} (tgt : Nat) (hd : decode u.2.1 pc = .ok (.ifnonnull off, 3)) (ht : (pc : Int) + off = (tgt : Int)) (k : EvB G d u z0 n0 r mF tgt lv st m) : EvB G d u z0 n0 r mF pc lv (.ref x :: st) m := ev_go k (fun F _ hl w => lv_ifnonnull F.1 F.2.1 hd ht w)
theorem e_ifnullN {off : Int} (tgt : Nat) (hd : decode u.2.1 pc = .ok (.ifnull off, 3)) (ht : (pc : Int) + off = (tgt : Int)) (k : EvB G d u z0 n0 r mF tgt lv st m) : EvB G d u z0 n0 r mF pc lv (.null :: st) m := ev_go k (fun F _ hl w => lv_ifnullN F.1 F.2.1 hd ht w)
theorem e_ifnonnullN {off : Int} (hd : decode u.2.1 pc = .ok (.ifnonnull off, 3)) (k : EvB G d u z0 n0 r mF (pc + 3) lv st m) : EvB G d u z0 n0 r mF pc lv (.null :: st) m := ev_go k (fun F _ hl w => lv_ifnonnullN F.1 F.2.1 hd w)
theorem e_tabIn {dflt lo hi : Int} {offs : Array Int} {len : Nat} {x : Int32} {off : Int} (tgt : Nat) (hd : decode u.2.1 pc = .ok (.tableswitch dflt lo hi offs, len)) (h1 : ¬ x.toInt < lo) (h2 : ¬ hi < x.toInt) (ho : offs[(x.toInt - lo).toNat]? = some off) (ht : (pc : Int) + off = (tgt : Int)) (k : EvB G d u z0 n0 r mF tgt lv st m) : EvB G d u z0 n0 r mF pc lv (.int x :: st) m := ev_go k (fun F _ hl w => lv_tableIn F.1 F.2.1 hd h1 h2 ho ht w)
theorem e_tabOut {dflt lo hi : Int} {offs : Array Int} {len : Nat} {x : Int32} (tgt : Nat) (hd : decode u.2.1 pc = .ok (.tableswitch dflt lo hi offs, len)) (h : x.toInt < lo ∨ hi < x.toInt) (ht : (pc : Int) + dflt = (tgt : Int)) (k : EvB G d u z0 n0 r mF tgt lv st m) : EvB G d u z0 n0 r mF pc lv (.int x :: st) m := ev_go k (fun F _ hl w => lv_tableOut F.1 F.2.1 hd h ht w)
theorem e_ret {i : Instr} (hd : decode u.2.1 pc = .ok (i, 1)) (h : RetI u.2.2.2 r i st) : EvB G d u z0 n0 r mF pc lv st mF := ⟨⟨Nat.le_refl _, Nat.le_refl _⟩, fun p e R s q args below meth c Q F hR hQ hB h1 h2 H ls locs hr hl hL => hQ i st pc H ls locs h hd hr hL⟩
theorem e_goto {off : Int} (tgt : Nat) (hd : decode u.2.1 pc = .ok (.goto off, 3)) (ht : (pc : Int) + off = (tgt : Int)) (k : EvB G d u z0 n0 r mF tgt lv st m) : EvB G d u z0 n0 r mF pc lv st m := ev_go k (fun F _ hl w => lv_goto F.1 F.2.1 hd ht w)
end Rows1
end
section
/-! fields: which field an entry of a class's pool names; getfield, putfield over the plain memory -/
def FL (own : String) (i ci k : Nat) : Prop := ∃ q : vw_C, vwCl[ci]? = some q ∧ k < q.2.2 ∧ (Cond.fieldLink own i (q.2.1 k).1 (q.2.1 k).2.1 (q.2.1 k).2.2.1 ∈ lw_g ∨ ∃ host : String, Cond.fieldLinkNest own i (q.2.1 k).1 (q.2.1 k).2.1 (q.2.1 k).2.2.1 host ∈ lw_g)
theorem in_X0 : ∀ w ∈ wsX00, w ∈ lw_g := by decide +kernel
theorem in_X1 : ∀ w ∈ wsX10, w ∈ lw_g := by decide +kernel
theorem in_X2 : ∀ w ∈ wsX20, w ∈ lw_g := by decide +kernel
theorem in_X3 : ∀ w ∈ wsX30, w ∈ lw_g := by decide +kernel
theorem in_X4 : ∀ w ∈ wsX40, w ∈ lw_g := by decide +kernel
theorem in_X5 : ∀ w ∈ wsX50, w ∈ lw_g := by decide +kernel
theorem in_X6 : ∀ w ∈ wsX60, w ∈ lw_g := by decide +kernel
theorem cls_ok {ci : Nat} {q : vw_C} (h : vwCl[ci]? = some q) : (∀ w ∈ u_ws q.1 q.2.1 q.2.2, w ∈ lw_g) ∧ (∀ k, k < q.2.2 → parseFieldDescriptor (q.2.1 k).2.2.1 = some (tyC ci k)) ∧ (∀ a, a < q.2.2 → ∀ b, b < q.2.2 → a ≠ b → (q.2.1 a).2.1 ≠ (q.2.1 b).2.1) ∧ q.2.2 = (kX ci).length ∧ ci < 7 := by
  match ci, h with
  | 0, h => cases h; exact ⟨in_X0, tyX0_ok, nmX0, rfl, by decide⟩
  | 1, h => cases h; exact ⟨in_X1, tyX1_ok, nmX1, rfl, by decide⟩
  | 2, h => cases h; exact ⟨in_X2, tyX2_ok, nmX2, rfl, by decide⟩
  | 3, h => cases h; exact ⟨in_X3, tyX3_ok, nmX3, rfl, by decide⟩
  | 4, h => cases h; exact ⟨in_X4, tyX4_ok, nmX4, rfl, by decide⟩
  | 5, h => cases h; exact ⟨in_X5, tyX5_ok, nmX5, rfl, by decide⟩
  | 6, h => cases h; exact ⟨in_X6, tyX6_ok, nmX6, rfl, by decide⟩
  | n + 7, h => simp [vwCl] at h
section XP
variable {p : Program} {l : Launch} {e : Env} {R : Room} {s : State} {m : MethodId} {args : Array Value} {below : List Frame} {meth : Method} {c : Code} {H : Heap} {locs : List Loc} {cells slots : Nat} {Q : State → Prop} {cc : ByteArray} {pc : Nat} {ls : Array Slot} {rest : List Value} {D : va_G} {tys : List (ClassId × FieldType)} {a ci k i : Nat} {own : String} {fs : List Value} {v : Value}
/-- getfield, from the one cell -/
theorem xp_get (hexec : p.tables.exec = Jvm.exec) (hb : c.code = cc) (hts : ∀ w ∈ lw_g, w.before args s = true) (hown : s.vm.findClass own = some m.cls) (hK : va_K D vwCl tys s) (hP : va_at D vwCl (a, .inr (ci, fs)) H) (hf : FL own i ci k) (hv : fs[k]? = some v) (hdg : decode cc pc = .ok (.getfield i, 3))
    (kk : W p l e R s m args below meth c H locs cells slots Q (F0 m (pc + 3) ls (v :: rest))) : W p l e R s m args below meth c H locs cells slots Q (F0 m pc ls (.ref a :: rest)) := by
  obtain ⟨⟨C, T, N⟩, hc, hk, hl⟩ := hf
  obtain ⟨hin, -, -, -, -⟩ := cls_ok hc
  have hP1 : va_P D vwCl [(a, .inr (ci, fs))] H := fun j x hx => by
    match j, hx with
    | 0, hx => cases hx; exact hP
  rcases hl with hl | ⟨host, hl⟩
  · exact va_get (own := own) hexec hb hts hin hown hK hP1 0 rfl hc k hk (hts _ hl) (fun _ h => h) hv hdg kk
  · exact va_getN (own := own) hexec hb hts hin hown hK hP1 0 rfl hc k hk (hts _ hl) (fun _ h => h) hv hdg kk
/-- putfield, of a field that isn't final: one cell is other, all else as it was -/
theorem xp_put (hexec : p.tables.exec = Jvm.exec) (hb : c.code = cc) (hts : ∀ w ∈ lw_g, w.before args s = true) (hown : s.vm.findClass own = some m.cls) (hK : va_K D vwCl tys s) (hP : va_at D vwCl (a, .inr (ci, fs)) H) (hf : FL own i ci k) (hfin : ∀ q : vw_C, vwCl[ci]? = some q → (q.2.1 k).2.2.2 = false) (hn : narrow (tyC ci k) v = v ∧ fits (tyC ci k) v = true) (hlen : k < fs.length) (hdg : decode cc pc = .ok (.putfield i, 3))
    (kk : ∀ (H1 : Heap) (locs1 : List Loc), va_at D vwCl (a, .inr (ci, fs.set k v)) H1 → H1.size = H.size → (∀ q : Nat, q ≠ a → H1[q]? = H[q]?) → (∀ x ∈ locs1, x ∈ locs ∨ x.base = a) → W p l e R s m args below meth c H1 locs1 cells slots Q (F0 m (pc + 3) ls rest)) : W p l e R s m args below meth c H locs cells slots Q (F0 m pc ls (v :: .ref a :: rest)) := by
  obtain ⟨⟨C, T, N⟩, hc, hk, hl⟩ := hf
  obtain ⟨hin, hty, hnm, -, -⟩ := cls_ok hc
  have hap := va_apart (own := own) hts hin _ hty hnm hK hc
  obtain ⟨r, h1, cell, q1, q2, q3, q4⟩ := hP
  have hr : r = (C, T, N) := Option.some.inj (h1.symm.trans hc)
  subst hr
  obtain ⟨hS, hfc, kC, hkC, hkind⟩ := hK.1 ci _ hc
  obtain ⟨cf, kf, fi, f, hi, hsl⟩ := hS k hk
  have hlay := hts _ (hin _ (u_in_lay hk))
  unfold u_lay at hlay
  rw [if_neg (by rw [hfin _ hc]; decide)] at hlay
  have hst := (u_facts hfc hkC (u_lays hts hin hk) hi).1
  have h6 := u_store hfc hkC hkind hlay hi (hty k hk) hn.1 hn.2
  have hend : ∀ (H' : Heap), H'[a]? = some (cell.setSlot f.slot v) → H'.size = H.size → (∀ q : Nat, q ≠ a → H'[q]? = H[q]?) → W p l e R s m args below meth c H' (locs ++ [⟨a, f.slot⟩]) cells slots Q (F0 m (pc + 3) ls rest) := fun H' e1 e2 e3 => by
    refine kk H' _ ⟨_, hc, ?_⟩ e2 e3 (fun x hx => (List.mem_append.mp hx).elim Or.inl (fun h => Or.inr (by rw [List.mem_singleton.mp h])))
    rw [hsl] at e1
    exact t_OB.to (V := updV (vp_V fs) k v) ⟨_, e1, q2, q3, t_set q4 hap hk v⟩ (fun j _ => vp_updV_set hlen v j)
  rcases hl with hl | ⟨host, hl⟩
  · exact W.putK hexec hb (f := f) ⟨hown, hts _ hl, ⟨_, _, _, hi⟩, hst⟩ (by rw [q2]; exact h6) q1 q3 (by rw [hsl]; exact k2_hasslot (q4 k hk)) rfl rfl hdg hend
  · exact va_WputK hexec hb (f := f) hown (hts _ hl) hi hst (by rw [q2]; exact h6) q1 q3 (by rw [hsl]; exact k2_hasslot (q4 k hk)) rfl rfl hdg hend
/-- putfield of a final field, in the constructor -/
theorem xp_putF (hexec : p.tables.exec = Jvm.exec) (hb : c.code = cc) (hts : ∀ w ∈ lw_g, w.before args s = true) (hown : s.vm.findClass own = some m.cls) (hnm0 : meth.name = "<init>") (hK : va_K D vwCl tys s) (hP : va_at D vwCl (a, .inr (ci, fs)) H) {C : String} {T : u_T} {N : Nat} (hc : vwCl[ci]? = some (C, T, N)) (hk : k < N) (hl : Cond.fieldLink own i (T k).1 (T k).2.1 (T k).2.2.1 ∈ lw_g) (hfin : (T k).2.2.2 = true) (hdecl : (T k).1 = own) (hn : narrow (tyC ci k) v = v ∧ fits (tyC ci k) v = true) (hlen : k < fs.length) (hdg : decode cc pc = .ok (.putfield i, 3))
    (kk : ∀ (H1 : Heap) (locs1 : List Loc), va_at D vwCl (a, .inr (ci, fs.set k v)) H1 → H1.size = H.size → (∀ q : Nat, q ≠ a → H1[q]? = H[q]?) → (∀ x ∈ locs1, x ∈ locs ∨ x.base = a) → W p l e R s m args below meth c H1 locs1 cells slots Q (F0 m (pc + 3) ls rest)) : W p l e R s m args below meth c H locs cells slots Q (F0 m pc ls (v :: .ref a :: rest)) := by
  obtain ⟨hin, hty, hnm, -, -⟩ := cls_ok hc
  have hap := va_apart (own := own) hts hin _ hty hnm hK hc
  obtain ⟨r, h1, cell, q1, q2, q3, q4⟩ := hP
  have hr : r = (C, T, N) := Option.some.inj (h1.symm.trans hc)
  subst hr
  obtain ⟨hS, hfc, kC, hkC, hkind⟩ := hK.1 ci _ hc
  obtain ⟨cf, kf, fi, f, hi, hsl⟩ := hS k hk
  have hlay := hts _ (hin _ (u_in_lay hk))
  unfold u_lay at hlay
  rw [if_pos hfin] at hlay
  have hst := (u_facts hfc hkC (u_lays hts hin hk) hi).1
  have hcf : m.cls = cf := by
    obtain ⟨_, _, c', _, _, _, -, -, hf', -, -, -, hown2, -⟩ := Cond.laysFinal_spec hlay
    have e1 : c' = cf := by have := hi.symm.trans hf'; simp at this; exact this.1.symm
    rw [hdecl] at hown2
    rw [← e1]; exact Option.some.inj (hown.symm.trans hown2)
  have h6 := u_fits hfc hkC hkind (Or.inr hlay) hi (hty k hk) hn.1 hn.2
  refine W.putFinK hexec hb hown (hts _ hl) hi hst hcf hnm0 (by rw [q2]; exact h6) q1 q3 (by rw [hsl]; exact k2_hasslot (q4 k hk)) rfl rfl hdg fun H' e1 e2 e3 => ?_
  refine kk H' _ ⟨_, hc, ?_⟩ e2 e3 (fun x hx => (List.mem_append.mp hx).elim Or.inl (fun h => Or.inr (by rw [List.mem_singleton.mp h])))
  rw [hsl] at e1
  exact t_OB.to (V := updV (vp_V fs) k v) ⟨_, e1, q2, q3, t_set q4 hap hk v⟩ (fun j _ => vp_updV_set hlen v j)
end XP
section Rows2
variable {G : GG} {d : Nat} {u : MI} {z0 n0 : Nat} {r : Option Value} {mF : Mem} {pc : Nat} {lv : List (Nat × Value)} {st : List Value} {m : Mem}
/-- a step that writes the memory, the kinds and the size of it staying -/
theorem ev_wr {pc' : Nat} {st' : List Value} {m' : Mem} (k : EvB G d u z0 n0 r mF pc' lv st' m') (hz : zz m' = zz m) (hn : nn m' = nn m)
    (h : ∀ {p : Program} {e : Env} {R : Room} {s : State} {q : MethodId} {args : Array Value} {below : List Frame} {meth : Method} {c : Code} {Q : State → Prop} {H : Heap} {ls : Array Slot} {locs : List Loc} {cells slots : Nat}, Fx G u p s q args meth c → Rep G m H → (∀ x ∈ locs, G.2.2.1 ≤ x.base) → (∀ (H1 : Heap) (locs1 : List Loc), Rep G m' H1 → (∀ x ∈ locs1, G.2.2.1 ≤ x.base) → W p G.1 e R s q args below meth c H1 locs1 cells slots Q (F0 q pc' ls st')) → W p G.1 e R s q args below meth c H locs cells slots Q (F0 q pc ls st)) :
    EvB G d u z0 n0 r mF pc lv st m := by
  refine ⟨by rw [← hz, ← hn]; exact k.1, fun p e R s q args below meth c Q F hR hQ hB h1 h2 H ls locs hr hl hL => h F hr hL (fun H1 locs1 hr1 hL1 => ?_)⟩
  have w := k.2 p e R s q args below meth c Q F hR hQ hB (by rw [hz]; exact h1) (by rw [hn]; exact h2) H1 ls locs1 hr1 hl hL1
  rw [hz, hn] at w
  exact w
theorem e_get {i ci k a : Nat} (hd : decode u.2.1 pc = .ok (.getfield i, 3)) (hf : FL u.1.cls i ci k) (ht : gT m a = ci + 1) (kk : EvB G d u z0 n0 r mF (pc + 3) lv (fV m ci k a ((kX ci).getD k 0) :: st) m) : EvB G d u z0 n0 r mF pc lv (.ref a :: st) m :=
  ev_go kk (fun F hr _ w => by
    obtain ⟨q, hq, hk, -⟩ := id hf
    obtain ⟨-, -, -, hN, h7⟩ := cls_ok hq
    exact xp_get F.1 F.2.1 F.2.2.2.2.2.2.2.1 F.2.2.2.2.2.1 F.2.2.2.2.2.2.2.2 (hr.2.1 a _ (cO_obj ht h7)) hf (fO_get m ci a (hN ▸ hk)) hd w)
theorem e_getI {i ci k a : Nat} (hd : decode u.2.1 pc = .ok (.getfield i, 3)) (hf : FL u.1.cls i ci k) (hk : (kX ci).getD k 0 = 0) (ht : gT m a = ci + 1) (kk : EvB G d u z0 n0 r mF (pc + 3) lv (.int (gI m (20 * ci + k) a) :: st) m) : EvB G d u z0 n0 r mF pc lv (.ref a :: st) m := e_get hd hf ht (by rw [hk]; exact kk)
theorem e_getL {i ci k a : Nat} (hd : decode u.2.1 pc = .ok (.getfield i, 3)) (hf : FL u.1.cls i ci k) (hk : (kX ci).getD k 0 = 1) (ht : gT m a = ci + 1) (kk : EvB G d u z0 n0 r mF (pc + 3) lv (.long (gL m (20 * ci + k) a) :: st) m) : EvB G d u z0 n0 r mF pc lv (.ref a :: st) m := e_get hd hf ht (by rw [hk]; exact kk)
theorem e_getP {i ci k a : Nat} (o : Option Nat) (hd : decode u.2.1 pc = .ok (.getfield i, 3)) (hf : FL u.1.cls i ci k) (hk : (kX ci).getD k 0 = 2) (ht : gT m a = ci + 1) (ho : gP m (20 * ci + k) a = o) (kk : EvB G d u z0 n0 r mF (pc + 3) lv (va_rf o :: st) m) : EvB G d u z0 n0 r mF pc lv (.ref a :: st) m := e_get hd hf ht (by rw [hk]; show EvB G d u z0 n0 r mF (pc + 3) lv (va_rf (gP m (20 * ci + k) a) :: st) m; rw [ho]; exact kk)
/-- the general putfield -/
theorem e_put {i ci k a : Nat} {v : Value} {m' : Mem} (hd : decode u.2.1 pc = .ok (.putfield i, 3)) (hf : FL u.1.cls i ci k) (hfin : ∀ q : vw_C, vwCl[ci]? = some q → (q.2.1 k).2.2.2 = false) (hn : narrow (tyC ci k) v = v ∧ fits (tyC ci k) v = true) (ht : gT m a = ci + 1)
    (ht' : gT m' = gT m) (hN' : gN m' = gN m) (hz : zz m' = zz m) (hnn : nn m' = nn m) (hA : aI m' = aI m ∧ aL m' = aL m ∧ aP m' = aP m) (hv : fV m' ci k a ((kX ci).getD k 0) = v)
    (ho : ∀ f b, b ≠ a ∨ f ≠ 20 * ci + k → gI m' f b = gI m f b ∧ gL m' f b = gL m f b ∧ gP m' f b = gP m f b)
    (kk : EvB G d u z0 n0 r mF (pc + 3) lv st m') : EvB G d u z0 n0 r mF pc lv (v :: .ref a :: st) m :=
  ev_wr kk hz hnn (fun F hr hL w => by
    obtain ⟨q, hq, hk, -⟩ := id hf
    obtain ⟨-, -, -, hN, h7⟩ := cls_ok hq
    have hk' : k < (kX ci).length := hN ▸ hk
    refine xp_put F.1 F.2.1 F.2.2.2.2.2.2.2.1 F.2.2.2.2.2.1 F.2.2.2.2.2.2.2.2 (hr.2.1 a _ (cO_obj ht h7)) hf hfin hn (by rw [fO_len]; exact hk') hd (fun H1 locs1 e1 e2 e3 e4 => w H1 locs1 ?_ (fun x hx => (e4 x hx).elim (hL x) (fun h => by rw [h]; exact hr.2.2 a (by rw [ht]; omega) (by rw [ht]; omega))))
    refine hr.set hz ht' (a := a) (fun b hb => cO_oth (by rw [ht']) (by rw [hN']) (fun f => ho f b (Or.inl hb)) (by rw [hA.1]) (by rw [hA.2.1]) (by rw [hA.2.2])) (cO_obj (by rw [ht']; exact ht) h7) ?_ e2 e3
    rw [fO_set hk' hv (fun f hf => ho f a (Or.inr hf))]
    exact e1)
theorem e_putI {i ci k a : Nat} {x : Int32} (hd : decode u.2.1 pc = .ok (.putfield i, 3)) (hf : FL u.1.cls i ci k) (hk : (kX ci).getD k 0 = 0) (hfin : ∀ q : vw_C, vwCl[ci]? = some q → (q.2.1 k).2.2.2 = false) (hn : narrow (tyC ci k) (.int x) = .int x ∧ fits (tyC ci k) (.int x) = true) (ht : gT m a = ci + 1)
    (kk : EvB G d u z0 n0 r mF (pc + 3) lv st (sI m (20 * ci + k) a x)) : EvB G d u z0 n0 r mF pc lv (.int x :: .ref a :: st) m :=
  e_put (m' := sI m (20 * ci + k) a x) hd hf hfin hn ht rfl rfl rfl rfl ⟨rfl, rfl, rfl⟩ (by rw [hk]; show Value.int (u2 (gI m) (20 * ci + k) a x (20 * ci + k) a) = _; rw [u2_eq]) (fun f b h => ⟨by show u2 (gI m) (20 * ci + k) a x f b = _; rcases h with h | h; exact u2_na _ _ h; exact u2_nf _ _ h, rfl, rfl⟩) kk
theorem e_putL {i ci k a : Nat} {x : Int64} (hd : decode u.2.1 pc = .ok (.putfield i, 3)) (hf : FL u.1.cls i ci k) (hk : (kX ci).getD k 0 = 1) (hfin : ∀ q : vw_C, vwCl[ci]? = some q → (q.2.1 k).2.2.2 = false) (hn : narrow (tyC ci k) (.long x) = .long x ∧ fits (tyC ci k) (.long x) = true) (ht : gT m a = ci + 1)
    (kk : EvB G d u z0 n0 r mF (pc + 3) lv st (sL m (20 * ci + k) a x)) : EvB G d u z0 n0 r mF pc lv (.long x :: .ref a :: st) m :=
  e_put (m' := sL m (20 * ci + k) a x) hd hf hfin hn ht rfl rfl rfl rfl ⟨rfl, rfl, rfl⟩ (by rw [hk]; show Value.long (u2 (gL m) (20 * ci + k) a x (20 * ci + k) a) = _; rw [u2_eq]) (fun f b h => ⟨rfl, by show u2 (gL m) (20 * ci + k) a x f b = _; rcases h with h | h; exact u2_na _ _ h; exact u2_nf _ _ h, rfl⟩) kk
theorem e_putP {i ci k a : Nat} {v : Value} (x : Option Nat) (hd : decode u.2.1 pc = .ok (.putfield i, 3)) (hf : FL u.1.cls i ci k) (hk : (kX ci).getD k 0 = 2) (hfin : ∀ q : vw_C, vwCl[ci]? = some q → (q.2.1 k).2.2.2 = false) (hn : narrow (tyC ci k) v = v ∧ fits (tyC ci k) v = true) (hv : v = va_rf x) (ht : gT m a = ci + 1)
    (kk : EvB G d u z0 n0 r mF (pc + 3) lv st (sP m (20 * ci + k) a x)) : EvB G d u z0 n0 r mF pc lv (v :: .ref a :: st) m :=
  e_put (m' := sP m (20 * ci + k) a x) hd hf hfin hn ht rfl rfl rfl rfl ⟨rfl, rfl, rfl⟩ (by rw [hk, hv]; show va_rf (u2 (gP m) (20 * ci + k) a x (20 * ci + k) a) = _; rw [u2_eq]) (fun f b h => ⟨rfl, rfl, by show u2 (gP m) (20 * ci + k) a x f b = _; rcases h with h | h; exact u2_na _ _ h; exact u2_nf _ _ h⟩) kk
/-- putfield of a final field, in a constructor -/
theorem e_putF {i ci k a : Nat} {v : Value} (x : Option Nat) (hd : decode u.2.1 pc = .ok (.putfield i, 3)) {C : String} {T : u_T} {N : Nat} (hc : vwCl[ci]? = some (C, T, N)) (hk : k < N) (hl : Cond.fieldLink u.1.cls i (T k).1 (T k).2.1 (T k).2.2.1 ∈ lw_g) (hfin : (T k).2.2.2 = true) (hdecl : (T k).1 = u.1.cls) (hnm : u.1.name = "<init>") (hk2 : (kX ci).getD k 0 = 2) (hn : narrow (tyC ci k) v = v ∧ fits (tyC ci k) v = true) (hv : v = va_rf x) (ht : gT m a = ci + 1)
    (kk : EvB G d u z0 n0 r mF (pc + 3) lv st (sP m (20 * ci + k) a x)) : EvB G d u z0 n0 r mF pc lv (v :: .ref a :: st) m :=
  ev_wr kk rfl rfl (fun F hr hL w => by
    obtain ⟨-, -, -, hN, h7⟩ := cls_ok hc
    have hk' : k < (kX ci).length := hN ▸ hk
    refine xp_putF F.1 F.2.1 F.2.2.2.2.2.2.2.1 F.2.2.2.2.2.1 (by rw [F.2.2.2.2.2.2.1]; exact hnm) F.2.2.2.2.2.2.2.2 (hr.2.1 a _ (cO_obj ht h7)) hc hk hl hfin hdecl hn (by rw [fO_len]; exact hk') hd (fun H1 locs1 e1 e2 e3 e4 => w H1 locs1 ?_ (fun x hx => (e4 x hx).elim (hL x) (fun h => by rw [h]; exact hr.2.2 a (by rw [ht]; omega) (by rw [ht]; omega))))
    have ho : ∀ f b, b ≠ a ∨ f ≠ 20 * ci + k → gP (sP m (20 * ci + k) a x) f b = gP m f b := fun f b h => by show u2 (gP m) (20 * ci + k) a x f b = _; rcases h with h | h; exact u2_na _ _ h; exact u2_nf _ _ h
    refine hr.set rfl rfl (a := a) (fun b hb => cO_oth rfl rfl (fun f => ⟨rfl, rfl, ho f b (Or.inl hb)⟩) rfl rfl rfl) (cO_obj ht h7) ?_ e2 e3
    rw [fO_set (m := m) (m' := sP m (20 * ci + k) a x) (v := v) (a := a) hk' (by rw [hk2, hv]; show va_rf (u2 (gP m) (20 * ci + k) a x (20 * ci + k) a) = _; rw [u2_eq]) (fun f hf => ⟨rfl, rfl, ho f a (Or.inr hf)⟩)]
    exact e1)
theorem e_putFI {i ci k a : Nat} {x : Int32} (hd : decode u.2.1 pc = .ok (.putfield i, 3)) {C : String} {T : u_T} {N : Nat} (hc : vwCl[ci]? = some (C, T, N)) (hk : k < N) (hl : Cond.fieldLink u.1.cls i (T k).1 (T k).2.1 (T k).2.2.1 ∈ lw_g) (hfin : (T k).2.2.2 = true) (hdecl : (T k).1 = u.1.cls) (hnm : u.1.name = "<init>") (hk2 : (kX ci).getD k 0 = 0) (hn : narrow (tyC ci k) (.int x) = .int x ∧ fits (tyC ci k) (.int x) = true) (ht : gT m a = ci + 1)
    (kk : EvB G d u z0 n0 r mF (pc + 3) lv st (sI m (20 * ci + k) a x)) : EvB G d u z0 n0 r mF pc lv (.int x :: .ref a :: st) m :=
  ev_wr kk rfl rfl (fun F hr hL w => by
    obtain ⟨-, -, -, hN, h7⟩ := cls_ok hc
    have hk' : k < (kX ci).length := hN ▸ hk
    refine xp_putF F.1 F.2.1 F.2.2.2.2.2.2.2.1 F.2.2.2.2.2.1 (by rw [F.2.2.2.2.2.2.1]; exact hnm) F.2.2.2.2.2.2.2.2 (hr.2.1 a _ (cO_obj ht h7)) hc hk hl hfin hdecl hn (by rw [fO_len]; exact hk') hd (fun H1 locs1 e1 e2 e3 e4 => w H1 locs1 ?_ (fun x hx => (e4 x hx).elim (hL x) (fun h => by rw [h]; exact hr.2.2 a (by rw [ht]; omega) (by rw [ht]; omega))))
    have ho : ∀ f b, b ≠ a ∨ f ≠ 20 * ci + k → gI (sI m (20 * ci + k) a x) f b = gI m f b := fun f b h => by show u2 (gI m) (20 * ci + k) a x f b = _; rcases h with h | h; exact u2_na _ _ h; exact u2_nf _ _ h
    refine hr.set rfl rfl (a := a) (fun b hb => cO_oth rfl rfl (fun f => ⟨ho f b (Or.inl hb), rfl, rfl⟩) rfl rfl rfl) (cO_obj ht h7) ?_ e2 e3
    rw [fO_set (m := m) (m' := sI m (20 * ci + k) a x) (v := .int x) (a := a) hk' (by rw [hk2]; show Value.int (u2 (gI m) (20 * ci + k) a x (20 * ci + k) a) = _; rw [u2_eq]) (fun f hf => ⟨ho f a (Or.inr hf), rfl, rfl⟩)]
    exact e1)
end Rows2
end
section
/-! arrays and new cells over the plain memory -/
theorem TY_at {G : GG} {U : State} (h : KK G U) {t : Nat} (ht : 11 ≤ t ∧ t ≤ 17) : ArrOfT U (G.2.2.2 t) (tyA t) ∧ va_RA U (G.2.2.2 t) (tyA t) := by
  obtain ⟨h1, h2⟩ := ht
  rcases (show t = 11 ∨ t = 12 ∨ t = 13 ∨ t = 14 ∨ t = 15 ∨ t = 16 ∨ t = 17 by omega) with rfl | rfl | rfl | rfl | rfl | rfl | rfl
  · exact h.2 0 _ rfl
  · exact h.2 1 _ rfl
  · exact h.2 2 _ rfl
  · exact h.2 3 _ rfl
  · exact h.2 4 _ rfl
  · exact h.2 5 _ rfl
  · exact h.2 6 _ rfl
theorem vp_in_lt {i : Int32} {n : Nat} (h : vp_in i n) : i.toNatClampNeg < n := Nat.not_le.mp fun q => h (Or.inr q)
section Rows3
variable {G : GG} {d : Nat} {u : MI} {z0 n0 : Nat} {r : Option Value} {mF : Mem} {pc : Nat} {lv : List (Nat × Value)} {st : List Value} {m : Mem}
theorem e_alenS {a : Nat} {n : Int32} (hd : decode u.2.1 pc = .ok (.arraylength, 1)) (ht : gT m a = 18) (hn : Int32.ofNat (gN m a) = n) (kk : EvB G d u z0 n0 r mF (pc + 1) lv (.int n :: st) m) : EvB G d u z0 n0 r mF pc lv (.ref a :: st) m :=
  ev_go kk (fun F hr _ w => W.alen F.1 F.2.1 (hr.2.1 a _ (cO_scr ht)) ((TY_at F.2.2.2.2.2.2.2.2 (t := 12) ⟨by decide, by decide⟩).1 (gN m a) (fun j => .int (aI m a j))) (by rw [vp_cell_i, arrV_size]; exact hn) rfl rfl hd w)
theorem e_alen {a t : Nat} {n : Int32} (hd : decode u.2.1 pc = .ok (.arraylength, 1)) (ht : gT m a = t) (h1 : 11 ≤ t ∧ t ≤ 17) (hn : Int32.ofNat (gN m a) = n) (kk : EvB G d u z0 n0 r mF (pc + 1) lv (.int n :: st) m) : EvB G d u z0 n0 r mF pc lv (.ref a :: st) m :=
  ev_go kk (fun F hr _ w => by
    have K := TY_at F.2.2.2.2.2.2.2.2 h1
    rcases (show (t = 11 ∨ t = 12 ∨ t = 14 ∨ t = 15) ∨ t = 13 ∨ (t = 16 ∨ t = 17) by omega) with h | h | h
    · exact W.alen F.1 F.2.1 (hr.2.1 a _ (cO_int ht h)) (K.1 (gN m a) (fun j => .int (aI m a j))) (by rw [vp_cell_i, arrV_size]; exact hn) rfl rfl hd w
    · subst h
      exact W.alen F.1 F.2.1 (hr.2.1 a _ (cO_lng ht)) (K.1 (gN m a) (fun j => .long (aL m a j))) (by rw [vp_cell_l, arrV_size]; exact hn) rfl rfl hd w
    · exact W.alen F.1 F.2.1 (hr.2.1 a _ (cO_ref ht h)) (K.1 (gN m a) (fun j => va_rf (aP m a j))) (by rw [vp_cell_q, arrV_size]; exact hn) rfl rfl hd w)
theorem e_iald {a : Nat} {i : Int32} (hd : decode u.2.1 pc = .ok (.iaload, 1)) (ht : gT m a = 12) (hi : vp_in i (gN m a)) (kk : EvB G d u z0 n0 r mF (pc + 1) lv (.int (aI m a i.toNatClampNeg) :: st) m) : EvB G d u z0 n0 r mF pc lv (.int i :: .ref a :: st) m :=
  ev_go kk (fun F hr _ w => W.iald (v := .int (aI m a i.toNatClampNeg)) F.1 F.2.1 (hr.2.1 a _ (cO_int ht (by omega))) ((TY_at F.2.2.2.2.2.2.2.2 (t := 12) ⟨by decide, by decide⟩).1 (gN m a) (fun j => .int (aI m a j))) (fun q => by cases q) (by show ¬ (i < 0 ∨ (arrV _ _ _).slots.size ≤ _); rw [arrV_size]; exact hi) (by show (arrV _ _ _).slots[_]? = _; rw [arrV_read _ _ (vp_in_lt hi)]) rfl rfl hd w)
theorem e_ialdS {a : Nat} {i : Int32} (hd : decode u.2.1 pc = .ok (.iaload, 1)) (ht : gT m a = 18) (hi : vp_in i (gN m a)) (kk : EvB G d u z0 n0 r mF (pc + 1) lv (.int (aI m a i.toNatClampNeg) :: st) m) : EvB G d u z0 n0 r mF pc lv (.int i :: .ref a :: st) m :=
  ev_go kk (fun F hr _ w => W.iald (v := .int (aI m a i.toNatClampNeg)) F.1 F.2.1 (hr.2.1 a _ (cO_scr ht)) ((TY_at F.2.2.2.2.2.2.2.2 (t := 12) ⟨by decide, by decide⟩).1 (gN m a) (fun j => .int (aI m a j))) (fun q => by cases q) (by show ¬ (i < 0 ∨ (arrV _ _ _).slots.size ≤ _); rw [arrV_size]; exact hi) (by show (arrV _ _ _).slots[_]? = _; rw [arrV_read _ _ (vp_in_lt hi)]) rfl rfl hd w)
theorem e_bald {a : Nat} {i : Int32} (hd : decode u.2.1 pc = .ok (.baload, 1)) (ht : gT m a = 11) (hi : vp_in i (gN m a)) (kk : EvB G d u z0 n0 r mF (pc + 1) lv (.int (aI m a i.toNatClampNeg) :: st) m) : EvB G d u z0 n0 r mF pc lv (.int i :: .ref a :: st) m :=
  ev_go kk (fun F hr _ w => W.bald (v := .int (aI m a i.toNatClampNeg)) F.1 F.2.1 (hr.2.1 a _ (cO_int ht (by omega))) ((TY_at F.2.2.2.2.2.2.2.2 (t := 11) ⟨by decide, by decide⟩).1 (gN m a) (fun j => .int (aI m a j))) (fun q => by cases q) (by show ¬ (i < 0 ∨ (arrV _ _ _).slots.size ≤ _); rw [arrV_size]; exact hi) (by show (arrV _ _ _).slots[_]? = _; rw [arrV_read _ _ (vp_in_lt hi)]) rfl rfl hd w)
theorem e_zald {a : Nat} {i : Int32} (hd : decode u.2.1 pc = .ok (.baload, 1)) (ht : gT m a = 15) (hi : vp_in i (gN m a)) (kk : EvB G d u z0 n0 r mF (pc + 1) lv (.int (aI m a i.toNatClampNeg) :: st) m) : EvB G d u z0 n0 r mF pc lv (.int i :: .ref a :: st) m :=
  ev_go kk (fun F hr _ w => W.zald (v := .int (aI m a i.toNatClampNeg)) F.1 F.2.1 (hr.2.1 a _ (cO_int ht (by omega))) ((TY_at F.2.2.2.2.2.2.2.2 (t := 15) ⟨by decide, by decide⟩).1 (gN m a) (fun j => .int (aI m a j))) (fun q => by cases q) (by show ¬ (i < 0 ∨ (arrV _ _ _).slots.size ≤ _); rw [arrV_size]; exact hi) (by show (arrV _ _ _).slots[_]? = _; rw [arrV_read _ _ (vp_in_lt hi)]) rfl rfl hd w)
theorem e_sald {a : Nat} {i : Int32} (hd : decode u.2.1 pc = .ok (.saload, 1)) (ht : gT m a = 14) (hi : vp_in i (gN m a)) (kk : EvB G d u z0 n0 r mF (pc + 1) lv (.int (aI m a i.toNatClampNeg) :: st) m) : EvB G d u z0 n0 r mF pc lv (.int i :: .ref a :: st) m :=
  ev_go kk (fun F hr _ w => W.sald (v := .int (aI m a i.toNatClampNeg)) F.1 F.2.1 (hr.2.1 a _ (cO_int ht (by omega))) ((TY_at F.2.2.2.2.2.2.2.2 (t := 14) ⟨by decide, by decide⟩).1 (gN m a) (fun j => .int (aI m a j))) (fun q => by cases q) (by show ¬ (i < 0 ∨ (arrV _ _ _).slots.size ≤ _); rw [arrV_size]; exact hi) (by show (arrV _ _ _).slots[_]? = _; rw [arrV_read _ _ (vp_in_lt hi)]) rfl rfl hd w)
theorem e_lald {a : Nat} {i : Int32} (hd : decode u.2.1 pc = .ok (.laload, 1)) (ht : gT m a = 13) (hi : vp_in i (gN m a)) (kk : EvB G d u z0 n0 r mF (pc + 1) lv (.long (aL m a i.toNatClampNeg) :: st) m) : EvB G d u z0 n0 r mF pc lv (.int i :: .ref a :: st) m :=
  ev_go kk (fun F hr _ w => W.lald (v := .long (aL m a i.toNatClampNeg)) F.1 F.2.1 (hr.2.1 a _ (cO_lng ht)) ((TY_at F.2.2.2.2.2.2.2.2 (t := 13) ⟨by decide, by decide⟩).1 (gN m a) (fun j => .long (aL m a j))) (fun q => by cases q) (by show ¬ (i < 0 ∨ (arrV _ _ _).slots.size ≤ _); rw [arrV_size]; exact hi) (by show (arrV _ _ _).slots[_]? = _; rw [arrV_read _ _ (vp_in_lt hi)]) rfl rfl hd w)
theorem e_aald {a t : Nat} {i : Int32} (o : Option Nat) (hd : decode u.2.1 pc = .ok (.aaload, 1)) (ht : gT m a = t) (h1 : t = 16 ∨ t = 17) (hi : vp_in i (gN m a)) (ho : aP m a i.toNatClampNeg = o) (kk : EvB G d u z0 n0 r mF (pc + 1) lv (va_rf o :: st) m) : EvB G d u z0 n0 r mF pc lv (.int i :: .ref a :: st) m := by
  subst ho
  exact ev_go kk (fun F hr _ w => W.aald (v := va_rf (aP m a i.toNatClampNeg)) (ty := tyA t) F.1 F.2.1 (hr.2.1 a _ (cO_ref ht h1)) ((TY_at F.2.2.2.2.2.2.2.2 (t := t) ⟨by omega, by omega⟩).1 (gN m a) (fun j => va_rf (aP m a j))) (by rcases h1 with rfl | rfl <;> rfl) (fun q => by cases q) (by show ¬ (i < 0 ∨ (arrV _ _ _).slots.size ≤ _); rw [arrV_size]; exact hi) (by show (arrV _ _ _).slots[_]? = _; rw [arrV_read _ _ (vp_in_lt hi)]) rfl rfl hd w)
-- stores
theorem sAI_rep {t a j : Nat} {x : Int32} {H H1 : Heap} (hr : Rep G m H) (ht : gT m a = t) (h1 : t = 11 ∨ t = 12 ∨ t = 14 ∨ t = 15) (e1 : H1[a]? = some ((arrV (G.2.2.2 t) (gN m a) (fun q => .int (aI m a q))).setSlot j (.int x))) (e2 : H1.size = H.size) (e3 : ∀ q : Nat, q ≠ a → H1[q]? = H[q]?) : Rep G (sAI m a j x) H1 := by
  have hA : aI (sAI m a j x) a = upd (aI m a) j x := by
    funext q
    show u2 (aI m) a j x a q = _
    by_cases hq : q = j <;> simp [u2, upd, hq]
  refine hr.set rfl rfl (a := a) (fun b hb => cO_oth rfl rfl (fun f => ⟨rfl, rfl, rfl⟩) ?_ rfl rfl) (cO_int (m := sAI m a j x) ht h1) ?_ e2 e3
  · funext q
    exact u2_nf _ _ hb
  · show H1[a]? = some (vp_cell _ (gN m a, .inl (aI (sAI m a j x) a)))
    rw [e1, hA, vp_cell_i, arrV_store]
    congr 2
    funext q
    by_cases hq : q = j <;> simp [updV, upd, hq]
theorem e_iast {a : Nat} {i x : Int32} (hd : decode u.2.1 pc = .ok (.iastore, 1)) (ht : gT m a = 12) (hi : vp_in i (gN m a)) (kk : EvB G d u z0 n0 r mF (pc + 1) lv st (sAI m a i.toNatClampNeg x)) : EvB G d u z0 n0 r mF pc lv (.int x :: .int i :: .ref a :: st) m :=
  ev_wr kk rfl rfl (fun F hr hL w => W.iast F.1 F.2.1 (hr.2.1 a _ (cO_int ht (by omega))) ((TY_at F.2.2.2.2.2.2.2.2 (t := 12) ⟨by decide, by decide⟩).1 (gN m a) (fun j => .int (aI m a j))) (fun q => by cases q) (by show ¬ (i < 0 ∨ (arrV _ _ _).slots.size ≤ _); rw [arrV_size]; exact hi) rfl rfl hd (fun H1 e1 e2 e3 => w H1 _ (sAI_rep hr ht (by omega) e1 e2 e3) (fun y hy => (List.mem_append.mp hy).elim (hL y) (fun h => by rw [List.mem_singleton.mp h]; exact hr.2.2 a (by rw [ht]; decide) (by rw [ht]; decide)))))
theorem e_bast {a : Nat} {i x y : Int32} (hd : decode u.2.1 pc = .ok (.bastore, 1)) (ht : gT m a = 11) (hi : vp_in i (gN m a)) (hx : narrow .byte (.int x) = .int y) (kk : EvB G d u z0 n0 r mF (pc + 1) lv st (sAI m a i.toNatClampNeg y)) : EvB G d u z0 n0 r mF pc lv (.int x :: .int i :: .ref a :: st) m :=
  ev_wr kk rfl rfl (fun F hr hL w => W.bast F.1 F.2.1 (hr.2.1 a _ (cO_int ht (by omega))) ((TY_at F.2.2.2.2.2.2.2.2 (t := 11) ⟨by decide, by decide⟩).1 (gN m a) (fun j => .int (aI m a j))) (fun q => by cases q) (by show ¬ (i < 0 ∨ (arrV _ _ _).slots.size ≤ _); rw [arrV_size]; exact hi) rfl rfl hd (fun H1 e1 e2 e3 => w H1 _ (sAI_rep hr ht (by omega) (by rw [e1, hx]; rfl) e2 e3) (fun y hy => (List.mem_append.mp hy).elim (hL y) (fun h => by rw [List.mem_singleton.mp h]; exact hr.2.2 a (by rw [ht]; decide) (by rw [ht]; decide)))))
theorem e_zast {a : Nat} {i x y : Int32} (hd : decode u.2.1 pc = .ok (.bastore, 1)) (ht : gT m a = 15) (hi : vp_in i (gN m a)) (hx : narrow .boolean (.int x) = .int y) (kk : EvB G d u z0 n0 r mF (pc + 1) lv st (sAI m a i.toNatClampNeg y)) : EvB G d u z0 n0 r mF pc lv (.int x :: .int i :: .ref a :: st) m :=
  ev_wr kk rfl rfl (fun F hr hL w => W.zast F.1 F.2.1 (hr.2.1 a _ (cO_int ht (by omega))) ((TY_at F.2.2.2.2.2.2.2.2 (t := 15) ⟨by decide, by decide⟩).1 (gN m a) (fun j => .int (aI m a j))) (fun q => by cases q) (by show ¬ (i < 0 ∨ (arrV _ _ _).slots.size ≤ _); rw [arrV_size]; exact hi) rfl rfl hd (fun H1 e1 e2 e3 => w H1 _ (sAI_rep hr ht (by omega) (by rw [e1, hx]; rfl) e2 e3) (fun y hy => (List.mem_append.mp hy).elim (hL y) (fun h => by rw [List.mem_singleton.mp h]; exact hr.2.2 a (by rw [ht]; decide) (by rw [ht]; decide)))))
theorem e_sast {a : Nat} {i x y : Int32} (hd : decode u.2.1 pc = .ok (.sastore, 1)) (ht : gT m a = 14) (hi : vp_in i (gN m a)) (hx : narrow .short (.int x) = .int y) (kk : EvB G d u z0 n0 r mF (pc + 1) lv st (sAI m a i.toNatClampNeg y)) : EvB G d u z0 n0 r mF pc lv (.int x :: .int i :: .ref a :: st) m :=
  ev_wr kk rfl rfl (fun F hr hL w => W.sast F.1 F.2.1 (hr.2.1 a _ (cO_int ht (by omega))) ((TY_at F.2.2.2.2.2.2.2.2 (t := 14) ⟨by decide, by decide⟩).1 (gN m a) (fun j => .int (aI m a j))) (fun q => by cases q) (by show ¬ (i < 0 ∨ (arrV _ _ _).slots.size ≤ _); rw [arrV_size]; exact hi) rfl rfl hd (fun H1 e1 e2 e3 => w H1 _ (sAI_rep hr ht (by omega) (by rw [e1, hx]; rfl) e2 e3) (fun y hy => (List.mem_append.mp hy).elim (hL y) (fun h => by rw [List.mem_singleton.mp h]; exact hr.2.2 a (by rw [ht]; decide) (by rw [ht]; decide)))))
theorem e_last {a : Nat} {i : Int32} {x : Int64} (hd : decode u.2.1 pc = .ok (.lastore, 1)) (ht : gT m a = 13) (hi : vp_in i (gN m a)) (kk : EvB G d u z0 n0 r mF (pc + 1) lv st (sAL m a i.toNatClampNeg x)) : EvB G d u z0 n0 r mF pc lv (.long x :: .int i :: .ref a :: st) m :=
  ev_wr kk rfl rfl (fun F hr hL w => W.last F.1 F.2.1 (hr.2.1 a _ (cO_lng ht)) ((TY_at F.2.2.2.2.2.2.2.2 (t := 13) ⟨by decide, by decide⟩).1 (gN m a) (fun j => .long (aL m a j))) (fun q => by cases q) (by show ¬ (i < 0 ∨ (arrV _ _ _).slots.size ≤ _); rw [arrV_size]; exact hi) rfl rfl hd (fun H1 e1 e2 e3 => w H1 _ (by
    refine hr.set rfl rfl (a := a) (fun b hb => cO_oth rfl rfl (fun f => ⟨rfl, rfl, rfl⟩) rfl (by funext q; exact u2_nf _ _ hb) rfl) (cO_lng (m := sAL m a i.toNatClampNeg x) ht) ?_ e2 e3
    show H1[a]? = some (vp_cell _ (gN m a, .inr (.inl (aL (sAL m a i.toNatClampNeg x) a))))
    rw [e1]
    show some ((arrV _ _ _).setSlot _ _) = _
    rw [vp_cell_l, arrV_store]
    congr 2
    funext q
    show updV _ _ _ q = Value.long (u2 (aL m) a i.toNatClampNeg x a q)
    by_cases hq : q = i.toNatClampNeg <;> simp [updV, u2, hq]) (fun y hy => (List.mem_append.mp hy).elim (hL y) (fun h => by rw [List.mem_singleton.mp h]; exact hr.2.2 a (by rw [ht]; decide) (by rw [ht]; decide)))))
end Rows3
end
section
/-! stores of references, new cells, calls -/
theorem warm_g {args a' : Array Value} {s U : State} (hW : s.WarmedH U.vm) (hts : ∀ w ∈ lw_g, w.before args s = true) : ∀ w ∈ lw_g, w.before a' U = true := by
  intro w hw
  have h1 := hts w hw
  have h2 : okW w = true := (List.mem_filter.mp hw).2
  unfold okW at h2
  rcases Bool.or_eq_true _ _ |>.mp h2 with h3 | h3
  · exact word_at hW (good_of_word h3) h1
  · cases w with
    | fieldLinkNest a i b n d h => exact va_Nw.use rfl (va_Nw.warmF hW (va_Nw.of rfl h1))
    | methodLinkNest a i x h => exact va_Nw.use rfl (va_Nw.warmM hW (va_Nw.of rfl h1))
    | arrayOver ty =>
      cases ty with
      | object C => exact va_AO.use (va_AO.moved hW.alike (va_AO.of h1))
      | _ => simp at h3
    | _ => simp at h3
section Rows4
variable {G : GG} {d : Nat} {u : MI} {z0 n0 : Nat} {r : Option Value} {mF : Mem} {pc : Nat} {lv : List (Nat × Value)} {st : List Value} {m : Mem}
theorem e_aast {a v t ci : Nat} {i : Int32} (hd : decode u.2.1 pc = .ok (.aastore, 1)) (ht : gT m a = t) (h1 : (t = 16 ∧ ci = 2) ∨ (t = 17 ∧ ci = 4)) (hv : gT m v = ci + 1) (hi : vp_in i (gN m a)) (kk : EvB G d u z0 n0 r mF (pc + 1) lv st (sAP m a i.toNatClampNeg (some v))) : EvB G d u z0 n0 r mF pc lv (.ref v :: .int i :: .ref a :: st) m :=
  ev_wr kk rfl rfl (fun F hr hL w => by
    have h2 : t = 16 ∨ t = 17 := by omega
    have K := F.2.2.2.2.2.2.2.2
    have hq : ∃ q : vw_C, vwCl[ci]? = some q ∧ tyA t = .object q.1 := by
      rcases h1 with ⟨rfl, rfl⟩ | ⟨rfl, rfl⟩
      · exact ⟨_, rfl, rfl⟩
      · exact ⟨_, rfl, rfl⟩
    obtain ⟨q, hc, hty⟩ := hq
    have hcls := (K.1 ci q hc).2
    have hRA := (TY_at K (t := t) ⟨by omega, by omega⟩).2
    rw [hty] at hRA
    obtain ⟨kA, comp, k1, k2, k3, -⟩ := hRA
    have hcomp : comp = G.2.1.1 ci := Option.some.inj (k3.symm.trans hcls.1)
    subst hcomp
    obtain ⟨kC, hkC, -⟩ := hcls.2
    obtain ⟨r', hr', cellV, g1, g2, g3, -⟩ := hr.2.1 v _ (cO_obj hv (by omega))
    have h0 : ¬ i < 0 := fun z => hi (Or.inl z)
    refine W.aast F.1 F.2.1 (hr.2.1 a _ (cO_ref ht h2)) (fun q h => by cases h) (fun h => by cases h) k1 k2 rfl hkC ⟨h0, by show _ < (arrV _ _ _).slots.size; rw [arrV_size]; exact vp_in_lt hi⟩ g1 (fun q h => by rw [g3] at h; cases h) (by rw [g2]; exact hkC) (by rw [g2]; exact va_assign hcls) rfl rfl hd fun H1 e1 e2 e3 => w H1 _ ?_ (fun y hy => (List.mem_append.mp hy).elim (hL y) (fun h => by rw [List.mem_singleton.mp h]; exact hr.2.2 a (by omega) (by omega)))
    refine hr.set rfl rfl (a := a) (fun b hb => cO_oth rfl rfl (fun f => ⟨rfl, rfl, rfl⟩) rfl rfl (by funext q; exact u2_nf _ _ hb)) (cO_ref (m := sAP m a i.toNatClampNeg (some v)) ht h2) ?_ e2 e3
    show H1[a]? = some (vp_cell _ (gN m a, .inr (.inr (.inr (.inr (aP (sAP m a i.toNatClampNeg (some v)) a))))))
    rw [e1]
    show some ((arrV _ _ _).setSlot _ _) = _
    rw [vp_cell_q, arrV_store]
    congr 2
    funext q
    show updV _ _ _ q = va_rf (u2 (aP m) a i.toNatClampNeg (some v) a q)
    by_cases hq : q = i.toNatClampNeg <;> simp [updV, u2, hq, va_rf])
/-- a step that makes a cell -/
theorem ev_nw {pc' t n : Nat} {st' : List Value} (k : EvB G d u z0 n0 r mF pc' lv st' (nw m t n))
    (h : ∀ {p : Program} {e : Env} {R : Room} {s : State} {q : MethodId} {args : Array Value} {below : List Frame} {meth : Method} {c : Code} {Q : State → Prop} {H : Heap} {ls : Array Slot} {locs : List Loc} {cells slots : Nat}, Fx G u p s q args meth c → Rep G m H → cells + 1 ≤ R.cells → slots + n ≤ R.slots → G.2.2.1 ≤ zz m → (∀ H1 : Heap, Rep G (nw m t n) H1 → W p G.1 e R s q args below meth c H1 locs (cells + 1) (slots + n) Q (F0 q pc' ls st')) → W p G.1 e R s q args below meth c H locs cells slots Q (F0 q pc ls st)) :
    EvB G d u z0 n0 r mF pc lv st m := by
  have hz : zz (nw m t n) = zz m + 1 := rfl
  have hn : nn (nw m t n) = nn m + n := rfl
  obtain ⟨k1, k2⟩ := k
  rw [hz, hn] at k1
  refine ⟨⟨by omega, by omega⟩, fun p e R s q args below meth c Q F hR hQ hB h1 h2 H ls locs hr hl hL => ?_⟩
  obtain ⟨-, -, hR3, hR4⟩ := id hR
  refine h F hr (by omega) (by omega) (by omega) (fun H1 hr1 => ?_)
  have w := k2 p e R s q args below meth c Q F hR hQ hB (by rw [hz]; omega) (by rw [hn]; omega) H1 ls locs hr1 hl hL
  rw [hz, hn, show zz m + 1 - z0 = zz m - z0 + 1 by omega, show nn m + n - n0 = nn m - n0 + n by omega] at w
  exact w
theorem dfl_ok : ∀ ci, ci < 7 → ∀ j, j < (kX ci).length → defaultValue (tyC ci j) = fV (nw (fun _ => 0, fun _ => 0, fun _ _ => 0, fun _ _ => 0, fun _ _ => none, fun _ _ => 0, fun _ _ => 0, fun _ _ => none, 0, 0) 0 0) ci j 0 ((kX ci).getD j 0) := by
  intro ci hci j hj
  match ci, hci with
  | 0, _ => (rcases (show j = 0 ∨ j = 1 ∨ j = 2 ∨ j = 3 ∨ j = 4 ∨ j = 5 ∨ j = 6 ∨ j = 7 ∨ j = 8 ∨ j = 9 ∨ j = 10 ∨ j = 11 by simp [kX] at hj; omega) with rfl | rfl | rfl | rfl | rfl | rfl | rfl | rfl | rfl | rfl | rfl | rfl) <;> rfl
  | 1, _ => (rcases (show j = 0 ∨ j = 1 by simp [kX] at hj; omega) with rfl | rfl) <;> rfl
  | 2, _ => (rcases (show j = 0 ∨ j = 1 by simp [kX] at hj; omega) with rfl | rfl) <;> rfl
  | 3, _ => (rcases (show j = 0 ∨ j = 1 by simp [kX] at hj; omega) with rfl | rfl) <;> rfl
  | 4, _ => (rcases (show j = 0 ∨ j = 1 ∨ j = 2 ∨ j = 3 ∨ j = 4 ∨ j = 5 ∨ j = 6 ∨ j = 7 ∨ j = 8 ∨ j = 9 ∨ j = 10 ∨ j = 11 ∨ j = 12 ∨ j = 13 ∨ j = 14 ∨ j = 15 ∨ j = 16 ∨ j = 17 ∨ j = 18 by simp [kX] at hj; omega) with rfl | rfl | rfl | rfl | rfl | rfl | rfl | rfl | rfl | rfl | rfl | rfl | rfl | rfl | rfl | rfl | rfl | rfl | rfl) <;> rfl
  | 5, _ => (rcases (show j = 0 ∨ j = 1 ∨ j = 2 ∨ j = 3 ∨ j = 4 ∨ j = 5 ∨ j = 6 by simp [kX] at hj; omega) with rfl | rfl | rfl | rfl | rfl | rfl | rfl) <;> rfl
  | 6, _ => (rcases (show j = 0 ∨ j = 1 ∨ j = 2 ∨ j = 3 ∨ j = 4 ∨ j = 5 ∨ j = 6 ∨ j = 7 by simp [kX] at hj; omega) with rfl | rfl | rfl | rfl | rfl | rfl | rfl | rfl) <;> rfl
theorem nw_new (m : Mem) (t n ci j w : Nat) : fV (nw m t n) ci j (zz m) w = fV (nw (fun _ => 0, fun _ => 0, fun _ _ => 0, fun _ _ => 0, fun _ _ => none, fun _ _ => 0, fun _ _ => 0, fun _ _ => none, 0, 0) 0 0) ci j 0 w := by
  match w with
  | 0 => simp [fV, nw, gI, z2, zz]
  | 1 => simp [fV, nw, gL, z2, zz]
  | n + 2 => simp [fV, nw, gP, z2, zz]
theorem nw_gT (m : Mem) (t n : Nat) : gT (nw m t n) (zz m) = t := by simp [nw, gT, va_up]
theorem nw_gN (m : Mem) (t n : Nat) : gN (nw m t n) (zz m) = n := by simp [nw, gN, va_up]
theorem e_new {i ci : Nat} {q : vw_C} (hd : decode u.2.1 pc = .ok (.new i, 3)) (hc : vwCl[ci]? = some q) (hl : Cond.classLink u.1.cls i q.1 ∈ lw_g) (hi : Cond.instantiable q.1 q.2.2 ∈ lw_g) (hini : Cond.initialized q.1 ∈ lw_g)
    (kk : EvB G d u z0 n0 r mF (pc + 3) lv (.ref (zz m) :: st) (nw m (ci + 1) q.2.2)) : EvB G d u z0 n0 r mF pc lv st m :=
  ev_nw kk (fun F hr h1 h2 hB w => by
    obtain ⟨C, T, N⟩ := q
    obtain ⟨hin, hty, hnm, hN, h7⟩ := cls_ok hc
    have K := F.2.2.2.2.2.2.2.2
    have hts := F.2.2.2.2.2.2.2.1
    have hKn := K.1 ci _ hc
    refine W.newcK F.1 F.2.1 F.2.2.2.2.2.1 (hts _ hl) (hts _ hi) (hts _ hini) rfl hd h1 h2 hKn.2.1 hr.1 fun H1 kC hkC e1 z1 o1 => ?_
    refine w H1 (hr.push (cO_obj (nw_gT _ _ _) h7) ⟨_, hc, (u_born _ hts hin hKn hkC e1 hty).to (fun j hj => ?_)⟩ hB (by rw [z1, hr.1]) (by rw [hr.1]; exact o1))
    have hj' : j < (kX ci).length := by rw [← hN]; exact hj
    show _ = (fO _ _ _).getD j .null
    rw [List.getD_eq_getElem?_getD, fO_get _ _ _ hj', nw_new, ← dfl_ok ci h7 j hj']
    rfl)
theorem e_newa {ty : ArrayType} {t N : Nat} {n : Int32} (hd : decode u.2.1 pc = .ok (.newarray ty, 2)) (hw : Cond.arrayClass (newarray.typeOf ty) ∈ lw_g) (ht : (t = 11 ∨ t = 12 ∨ t = 14 ∨ t = 15 ∨ t = 13) ∧ newarray.typeOf ty = tyA t) (hn : ¬ n < 0) (hN : n.toNatClampNeg = N) (hb : N * 8 ≤ 536870912)
    (kk : EvB G d u z0 n0 r mF (pc + 2) lv (.ref (zz m) :: st) (nw m t N)) : EvB G d u z0 n0 r mF pc lv (.int n :: st) m :=
  ev_nw kk (fun F hr h1 h2 hB w => by
    have K := F.2.2.2.2.2.2.2.2
    have hts := F.2.2.2.2.2.2.2.1
    obtain ⟨ht1, ht2⟩ := ht
    have hbb : N * componentBytes (newarray.typeOf ty) ≤ 536870912 := by
      rw [ht2]
      rcases ht1 with rfl | rfl | rfl | rfl | rfl <;> simp only [tyA, componentBytes] <;> omega
    refine va_newaK F.1 F.2.1 (hts _ hw) rfl hd rfl hn hN hbb h1 h2 hr.1 fun H1 cA e1 z1 o1 hAr hNm => ?_
    have hRA := (TY_at K (t := t) ⟨by omega, by omega⟩).2
    have hcA : cA = G.2.2.2 t := by
      rw [ht2] at hNm
      rcases ht1 with rfl | rfl | rfl | rfl | rfl <;> exact Option.some.inj (hNm.symm.trans hRA)
    subst hcA
    rw [ht2] at e1
    have hc : ∃ x : va_E, cO G (nw m t N) (zz m) = some x ∧ va_at G.2.1 vwCl (zz m, x) H1 := by
      rcases (show (t = 11 ∨ t = 12 ∨ t = 14 ∨ t = 15) ∨ t = 13 by omega) with h | h
      · refine ⟨_, cO_int (nw_gT _ _ _) h, ?_⟩
        show H1[zz m]? = some (vp_cell _ _)
        rw [e1, vp_cell_i, nw_gN]
        congr 2
        funext q
        have : aI (nw m t N) (zz m) q = 0 := by simp [nw, aI, zr]
        rw [this]
        rcases h with rfl | rfl | rfl | rfl <;> rfl
      · subst h
        refine ⟨_, cO_lng (nw_gT _ _ _), ?_⟩
        show H1[zz m]? = some (vp_cell _ _)
        rw [e1, vp_cell_l, nw_gN]
        congr 2
        funext q
        have : aL (nw m 13 N) (zz m) q = 0 := by simp [nw, aL, zr]
        rw [this]
        rfl
    obtain ⟨x, hx1, hx2⟩ := hc
    exact w H1 (hr.push hx1 hx2 hB (by rw [z1, hr.1]) (by rw [hr.1]; exact o1)))
theorem e_anew {i t N : Nat} {C : String} {n : Int32} (hd : decode u.2.1 pc = .ok (.anewarray i, 3)) (hl : Cond.classLink u.1.cls i C ∈ lw_g) (hw : Cond.arrayOver (.object C) ∈ lw_g) (ht : (t = 16 ∨ t = 17) ∧ FieldType.object C = tyA t) (hn : ¬ n < 0) (hN : n.toNatClampNeg = N) (hb : N * 4 ≤ 536870912)
    (kk : EvB G d u z0 n0 r mF (pc + 3) lv (.ref (zz m) :: st) (nw m t N)) : EvB G d u z0 n0 r mF pc lv (.int n :: st) m :=
  ev_nw kk (fun F hr h1 h2 hB w => by
    have K := F.2.2.2.2.2.2.2.2
    have hts := F.2.2.2.2.2.2.2.1
    obtain ⟨ht1, ht2⟩ := ht
    subst hN
    refine W.anew F.1 F.2.1 F.2.2.2.2.2.1 (hts _ hl) (hts _ hw) rfl hd rfl hn hb h1 h2 fun cA kA comp f1 f2 f3 f4 => ?_
    have hRA := (TY_at K (t := t) ⟨by omega, by omega⟩).2
    rw [← ht2] at hRA
    obtain ⟨kA', comp', -, -, -, k4⟩ := hRA
    have hcA : cA = G.2.2.2 t := Option.some.inj (f1.symm.trans k4)
    subst hcA
    rw [show Array.size _ = zz m from hr.1]
    refine w _ (hr.push (cO_ref (nw_gT _ _ _) ht1) ?_ hB (by simp) (fun q hq => by rw [Array.getElem?_push, if_neg (Nat.ne_of_lt hq)]))
    show (Array.push _ _)[zz m]? = some (vp_cell _ _)
    rw [← hr.1, Array.getElem?_push_size, arrV_new, vp_cell_q, hr.1, nw_gN]
    congr 2
    funext q
    have : aP (nw m t n.toNatClampNeg) (zz m) q = none := by simp [nw, aP, zr]
    rw [this]
    rfl)
end Rows4
end
section
/-! a method's contract over the plain memory, and calls -/
def Pcc (G : GG) (args : List Value) (m : Mem) : Array Value → State → Prop := fun v U => v = args.toArray ∧ Rep G m U.heap ∧ KK G U ∧ G.2.2.1 ≤ zz m
def Qcc (G : GG) (r : Option Value) (mF : Mem) : Array Value → State → Outcome → State → Prop := fun _ _ oc t => oc = .returned r ∧ Rep G mF t.heap ∧ KK G t
def rmE (d c n : Nat) : Room := { frames := d + 1, cells := c, slots := n, locals := 35 * (d + 1) }
/-- Ev G d u args m r mF: called with args where the memory is m, method u returns r, and the memory is mF -/
def Ev (G : GG) (d : Nat) (u : MI) (args : List Value) (m : Mem) (r : Option Value) (mF : Mem) : Prop :=
  (zz m ≤ zz mF ∧ nn m ≤ nn mF) ∧ Met G.1 u.1 (Cond.code u.1 u.2.1 u.2.2.1 u.2.2.2 :: lw_g) (rmE d (zz mF - zz m) (nn mF - nn m)) (Pcc G args m) (Qcc G r mF) (zz mF - zz m) (nn mF - nn m) (fun q => G.2.2.1 ≤ q)
theorem retOK {G : GG} {u : MI} {z0 n0 : Nat} {r : Option Value} {mF : Mem} {p : Program} {e : Env} {R : Room} {s : State} {q : MethodId} {args : Array Value} {below : List Frame} {meth : Method} {c : Code} (F : Fx G u p s q args meth c) : RetOK G u z0 n0 r mF p e R s q args below meth c (MQ below (Qcc G r mF) args s (zz mF - z0) (nn mF - n0) (fun x => G.2.2.1 ≤ x)) := by
  intro i st pc H ls locs hI hd hr hL
  have hq : ∀ t : State, t.heap = H → s.WarmedH t.vm → Qcc G r mF args s (.returned r) t := fun t h1 h2 => ⟨rfl, by rw [h1]; exact hr, KK.moved h2.alike F.2.2.2.2.2.2.2.2⟩
  have hlocks := F.2.2.2.2.1
  rcases hI with ⟨rfl, h1, rfl, rfl⟩ | ⟨v, ty, rfl, h1, h2, rfl, rfl⟩ | ⟨v, rfl, h1, rfl, rfl⟩ | ⟨v, ty, rfl, h1, h2, rfl, rfl⟩
  · exact W.vret F.1 F.2.1 (F.2.2.1.trans h1) hq hL hd hlocks
  · exact W.zret F.1 F.2.1 (F.2.2.1.trans h1) h2 hq hL hd hlocks
  · exact W.lret F.1 F.2.1 (F.2.2.1.trans h1) hq hL hd hlocks
  · exact W.aret F.1 F.2.1 (F.2.2.1.trans h1) h2 (by cases v with | none => exact Or.inl rfl | some a => exact Or.inr ⟨a, rfl⟩) hq hL hd hlocks
/-- a contract out of a walk from the entry -/
theorem Ev.of {G : GG} {d : Nat} {u : MI} {args : List Value} {m : Mem} {r : Option Value} {mF : Mem} (hy : plainName u.1.cls = true) (hlen : (lg_sl args).length ≤ u.2.2.1) (k : EvB G d u (zz m) (nn m) r mF 0 (lv_args 0 args) [] m) : Ev G d u args m r mF := by
  refine ⟨k.1, ?_⟩
  refine Met.ofW (cc := u.2.1) (maxL := u.2.2.1) (ret := u.2.2.2) hy rfl ?_
  intro p e s q as below meth c s₁ B hml hv
  obtain ⟨rfl, hr, hK, hB⟩ := hv
  have hts := atoms_spec (ws := Cond.code u.1 u.2.1 u.2.2.1 u.2.2.2 :: lw_g) B.pre
  have hown : s.vm.findClass u.1.cls = some q.cls := findClass_of_methodNamed B.named
  have F : Fx G u p s q args.toArray meth c := ⟨B.exec, B.bytes, B.returns, hml, B.notSynchronized, hown, (name_of_methodNamed B.named B.method).1, fun w hw => hts w (List.mem_cons_of_mem _ hw), hK⟩
  rw [lg_entry_eq]
  have w := k.2 p e (rmE d (zz mF - zz m) (nn mF - nn m)) s q args.toArray below meth c _ F ⟨Nat.le_refl _, Nat.le_refl _, by show zz mF ≤ zz m + (zz mF - zz m); omega, by show nn mF ≤ nn m + (nn mF - nn m); omega⟩ (retOK F) hB (Nat.le_refl _) (Nat.le_refl _) s.heap _ [] hr (lv_entry args hlen) (fun x h => absurd h List.not_mem_nil)
  rw [Nat.sub_self, Nat.sub_self] at w
  exact w
theorem blindP {G : GG} {args : List Value} {m : Mem} : FrameBlind (Pcc G args m) := fun a U g mk h => ⟨h.1, h.2.1, va_K.moved (u := U) (U := U.calling g mk a) (Vm.Alike.refl U.vm) h.2.2.1, h.2.2.2⟩
/-- what the tables say of a call's method -/
def CM (u : MI) (n : Nat) : Prop := Cond.code u.1 u.2.1 u.2.2.1 u.2.2.2 ∈ lw_g ∧ Cond.initialized u.1.cls ∈ lw_g ∧ (u.1.cls ≠ "java/lang/invoke/MethodHandle" ∧ u.1.cls ≠ "java/lang/invoke/VarHandle") ∧ (parseMethodDescriptor u.1.desc).map (fun d => d.parameters.length) = some n ∧ u.2.2.1 ≤ 16
def LK (own : String) (i : Nat) (y : MethodName) : Prop := Cond.methodLink own i y ∈ lw_g ∨ ∃ host : String, Cond.methodLinkNest own i y host ∈ lw_g
section Rows5
variable {G : GG} {d : Nat} {u : MI} {z0 n0 : Nat} {r : Option Value} {mF : Mem} {pc : Nat} {lv : List (Nat × Value)} {st : List Value} {m : Mem}
/-- a call has run: on with the walk -/
theorem ev_call {d' : Nat} {u' : MI} {as : List Value} {r' : Option Value} {m' : Mem} {st0 st1 : List Value} (hE : Ev G d' u' as m r' m') (hdd : d' < d) (hst : r'.toList ++ st = st1) (k : EvB G d u z0 n0 r mF (pc + 3) lv st1 m')
    (h : ∀ {p : Program} {e : Env} {R : Room} {s : State} {q : MethodId} {args : Array Value} {below : List Frame} {meth : Method} {c : Code} {H : Heap} {ls : Array Slot} {locs : List Loc} {cells slots : Nat}, Fx G u p s q args meth c → Rep G m H → lv_has ls u.2.2.1 lv → G.2.2.1 ≤ zz m → d' + 2 ≤ R.frames → 35 * (d' + 2) ≤ R.locals → cells + (zz m' - zz m) ≤ R.cells → slots + (nn m' - nn m) ≤ R.slots →
      va_Run p G.1 e R s q args below meth c H locs cells slots (zz m' - zz m) (nn m' - nn m) (F0 q pc ls st0) st (Qcc G r' m' as.toArray) (fun x => G.2.2.1 ≤ x)) :
    EvB G d u z0 n0 r mF pc lv st0 m := by
  obtain ⟨⟨k1, k1'⟩, k2⟩ := k
  obtain ⟨⟨e1, e1'⟩, -⟩ := hE
  subst hst
  refine ⟨⟨by omega, by omega⟩, fun p e R s q args below meth c Q F hR hQ hB h1 h2 H ls locs hr hl hL => ?_⟩
  obtain ⟨hR1, hR2, hR3, hR4⟩ := id hR
  have hrun := h (e := e) (R := R) (below := below) (locs := locs) (cells := zz m - z0) (slots := nn m - n0) F hr hl (by omega) (by omega) (by omega) (by omega) (by omega)
  intro T hT X
  obtain ⟨v, st₀, t, T', L, -, X', hLf, f1, f2, ⟨hv, hr', hK'⟩, hs⟩ := hrun T hT X
  have hv' : v = r' := by cases hv; rfl
  subst hv'
  have w := k2 p e R s q args below meth c Q F hR hQ hB (by omega) (by omega) T'.heap ls (locs ++ L) (by rw [f1]; exact hr') hl (fun x hx => (List.mem_append.mp hx).elim (hL x) (hLf x))
  rw [show zz m' - z0 = zz m - z0 + (zz m' - zz m) by omega, show nn m' - n0 = nn m - n0 + (nn m' - nn m) by omega] at w
  obtain ⟨t2, a1, b1⟩ := w T' rfl X'
  exact ⟨t2, hs t2 a1, b1⟩
theorem cm_len {u' : MI} {n : Nat} (h : CM u' n) : ∀ sig, parseMethodDescriptor u'.1.desc = some sig → n = sig.parameters.length := fun sig hs => by
  have h2 := h.2.2.2.1
  rw [hs] at h2
  exact (Option.some.inj h2).symm
/-- invokevirtual of a method that the receiver's class has itself -/
theorem e_callV {d' : Nat} {u' : MI} {i b ci n : Nat} {q0 : vw_C} {As : List Value} {r' : Option Value} {m' : Mem} {st0 st1 : List Value} (hE : Ev G d' u' (.ref b :: As) m r' m') (hd : decode u.2.1 pc = .ok (.invokevirtual i, 3)) (hdd : d' < d) (hm : CM u' n) (hl : LK u.1.cls i u'.1) (hi : Cond.instanceMethod u'.1 ∈ lw_g) (hc : vwCl[ci]? = some q0) (hs : Cond.selects q0.1 u'.1 u'.1 ∈ lw_g) (ht : gT m b = ci + 1) (hn : As.length = n) (hst0 : st0 = As.reverse ++ .ref b :: st) (hw : (st.map fun v => v.category).sum ≤ 8) (hst : r'.toList ++ st = st1) (k : EvB G d u z0 n0 r mF (pc + 3) lv st1 m') : EvB G d u z0 n0 r mF pc lv st0 m :=
  ev_call hE hdd hst k (fun F hr hls hB hf1 hf2 hf3 hf4 => by
    have hts := F.2.2.2.2.2.2.2.1
    obtain ⟨-, -, -, -, h7⟩ := cls_ok hc
    have hat := hr.2.1 b _ (cO_obj ht h7)
    have hP : va_P G.2.1 vwCl [(b, .inr (ci, fO m ci b))] _ := fun j x hx => by
      match j, hx with
      | 0, hx => cases hx; exact hat
    have hrecv := va_recv F.2.2.2.2.2.2.2.2 hP hc (q0 := 0) rfl
    have hcode : Cond.code u'.1 u'.2.1 u'.2.2.1 u'.2.2.2 ∈ (Cond.code u'.1 u'.2.1 u'.2.2.1 u'.2.2.2 :: lw_g) := List.mem_cons_self
    have hws : ∀ w ∈ (Cond.code u'.1 u'.2.1 u'.2.2.1 u'.2.2.2 :: lw_g), ∀ (a' : Array Value) (U : State), _ → w.before a' U = true := fun w hw a' U hW => (List.mem_cons.mp hw).elim (fun e => e ▸ warm_g hW hts _ hm.1) (fun h => warm_g hW hts _ h)
    have hpre : PreV _ _ q0.1 b (Pcc G (.ref b :: As) m) As := ⟨blindP, hrecv, fun U h1 h2 => ⟨rfl, by rw [h1]; exact hr, KK.moved h2.alike F.2.2.2.2.2.2.2.2, hB⟩⟩
    have hmx := hm.2.2.2.2
    rcases hl with hl | ⟨host, hl⟩
    · exact va_runV (As := As) (rest := st) ⟨F.1, F.2.1, F.2.2.2.1, F.2.2.2.2.2.1, hts⟩ hE.2 ⟨⟨rfl, rfl, by show d' + 1 + 1 ≤ _; omega, by show 8 + (_ + 11) + 35 * (d' + 1) ≤ _; omega, hws, hcode, hts _ hm.1, hts _ hm.2.1, hm.2.2.1, cm_len hm, hts _ hl⟩, hts _ hi, hts _ hs⟩ hpre rfl hn hls.1 hst0 (by show 2 * 0 + _ ≤ 8; omega) hd ⟨hf3, hf4⟩
    · exact va_runVN (As := As) (rest := st) ⟨F.1, F.2.1, F.2.2.2.1, F.2.2.2.2.2.1, hts⟩ hE.2 ⟨⟨⟨rfl, rfl, by show d' + 1 + 1 ≤ _; omega, by show 8 + (_ + 11) + 35 * (d' + 1) ≤ _; omega, hws, hcode⟩, hts _ hm.1, hts _ hm.2.1, hm.2.2.1, cm_len hm, hts _ hl⟩, hts _ hi, hts _ hs⟩ hpre rfl hn hls.1 hst0 (by show 2 * 0 + _ ≤ 8; omega) hd ⟨hf3, hf4⟩)
/-- invokestatic -/
theorem e_callS {d' : Nat} {u' : MI} {i n : Nat} {As : List Value} {r' : Option Value} {m' : Mem} {st0 st1 : List Value} (hE : Ev G d' u' As m r' m') (hd : decode u.2.1 pc = .ok (.invokestatic i, 3)) (hdd : d' < d) (hm : CM u' n) (hl : LK u.1.cls i u'.1) (hi : Cond.static u'.1 ∈ lw_g) (hn : As.length = n) (hst0 : st0 = As.reverse ++ st) (hw : (st.map fun v => v.category).sum ≤ 8) (hst : r'.toList ++ st = st1) (k : EvB G d u z0 n0 r mF (pc + 3) lv st1 m') : EvB G d u z0 n0 r mF pc lv st0 m :=
  ev_call hE hdd hst k (fun F hr hls hB hf1 hf2 hf3 hf4 => by
    have hts := F.2.2.2.2.2.2.2.1
    have hcode : Cond.code u'.1 u'.2.1 u'.2.2.1 u'.2.2.2 ∈ (Cond.code u'.1 u'.2.1 u'.2.2.1 u'.2.2.2 :: lw_g) := List.mem_cons_self
    have hws : ∀ w ∈ (Cond.code u'.1 u'.2.1 u'.2.2.1 u'.2.2.2 :: lw_g), ∀ (a' : Array Value) (U : State), _ → w.before a' U = true := fun w hw a' U hW => (List.mem_cons.mp hw).elim (fun e => e ▸ warm_g hW hts _ hm.1) (fun h => warm_g hW hts _ h)
    have hpre : PreS _ _ (Pcc G As m) As := ⟨blindP, fun U h1 h2 => ⟨rfl, by rw [h1]; exact hr, KK.moved h2.alike F.2.2.2.2.2.2.2.2, hB⟩⟩
    have hmx := hm.2.2.2.2
    rcases hl with hl | ⟨host, hl⟩
    · exact va_runS (As := As) (rest := st) ⟨F.1, F.2.1, F.2.2.2.1, F.2.2.2.2.2.1, hts⟩ hE.2 ⟨⟨rfl, rfl, by show d' + 1 + 1 ≤ _; omega, by show 8 + (_ + 11) + 35 * (d' + 1) ≤ _; omega, hws, hcode, hts _ hm.1, hts _ hm.2.1, hm.2.2.1, cm_len hm, hts _ hl⟩, hts _ hi⟩ hpre rfl hn hls.1 hst0 (by show 2 * 0 + _ ≤ 8; omega) hd ⟨hf3, hf4⟩
    · exact va_runSN (As := As) (rest := st) ⟨F.1, F.2.1, F.2.2.2.1, F.2.2.2.2.2.1, hts⟩ hE.2 ⟨⟨⟨rfl, rfl, by show d' + 1 + 1 ≤ _; omega, by show 8 + (_ + 11) + 35 * (d' + 1) ≤ _; omega, hws, hcode⟩, hts _ hm.1, hts _ hm.2.1, hm.2.2.1, cm_len hm, hts _ hl⟩, hts _ hi, trivial⟩ hpre rfl hn hls.1 hst0 (by show 2 * 0 + _ ≤ 8; omega) hd ⟨hf3, hf4⟩)
/-- invokespecial of a constructor -/
theorem e_callI {d' : Nat} {u' : MI} {i b n : Nat} {As : List Value} {m' : Mem} {st0 : List Value} (hE : Ev G d' u' (.ref b :: As) m none m') (hd : decode u.2.1 pc = .ok (.invokespecial i, 3)) (hdd : d' < d) (hm : CM u' n) (hret : u'.2.2.2 = none) (hnm : u'.1.name = "<init>") (hl : LK u.1.cls i u'.1) (hi : Cond.instanceMethod u'.1 ∈ lw_g) (hn : As.length = n) (hst0 : st0 = As.reverse ++ .ref b :: st) (hw : (st.map fun v => v.category).sum ≤ 8) (k : EvB G d u z0 n0 r mF (pc + 3) lv st m') : EvB G d u z0 n0 r mF pc lv st0 m :=
  ev_call hE hdd (st := st) rfl k (fun F hr hls hB hf1 hf2 hf3 hf4 => by
    obtain ⟨y, cc, mx, rt⟩ := u'
    dsimp only at hret
    subst hret
    have hts := F.2.2.2.2.2.2.2.1
    have hcode : Cond.code y cc mx none ∈ (Cond.code y cc mx none :: lw_g) := List.mem_cons_self
    have hws : ∀ w ∈ (Cond.code y cc mx none :: lw_g), ∀ (a' : Array Value) (U : State), _ → w.before a' U = true := fun w hw a' U hW => (List.mem_cons.mp hw).elim (fun e => e ▸ warm_g hW hts _ hm.1) (fun h => warm_g hW hts _ h)
    have hpre : PreS _ _ (Pcc G (.ref b :: As) m) (.ref b :: As) := ⟨blindP, fun U h1 h2 => ⟨rfl, by rw [h1]; exact hr, KK.moved h2.alike F.2.2.2.2.2.2.2.2, hB⟩⟩
    have hmx := hm.2.2.2.2
    dsimp only at hmx
    rcases hl with hl | ⟨host, hl⟩
    · exact va_runI (As := As) (rest := st) ⟨F.1, F.2.1, F.2.2.2.1, F.2.2.2.2.2.1, hts⟩ hE.2 ⟨⟨rfl, rfl, by show d' + 1 + 1 ≤ _; omega, by show 8 + (_ + 11) + 35 * (d' + 1) ≤ _; omega, hws, hcode, hts _ hm.1, hts _ hm.2.1, hm.2.2.1, cm_len hm, hts _ hl⟩, hnm, hts _ hi⟩ hpre rfl hn hls.1 hst0 (by show 2 * 0 + _ ≤ 8; omega) hd ⟨hf3, hf4⟩
    · exact va_runIN (As := As) (rest := st) ⟨F.1, F.2.1, F.2.2.2.1, F.2.2.2.2.2.1, hts⟩ hE.2 ⟨⟨⟨rfl, rfl, by show d' + 1 + 1 ≤ _; omega, by show 8 + (_ + 11) + 35 * (d' + 1) ≤ _; omega, hws, hcode⟩, hts _ hm.1, hts _ hm.2.1, hm.2.2.1, cm_len hm, hts _ hl⟩, hnm, hts _ hi⟩ hpre rfl hn hls.1 hst0 (by show 2 * 0 + _ ≤ 8; omega) hd ⟨hf3, hf4⟩)
/-- Object's own constructor does nothing -/
theorem e_objInit {i a : Nat} (hd : decode u.2.1 pc = .ok (.invokespecial i, 3)) (hl : Cond.methodLink u.1.cls i objectInit ∈ lw_g) (hi : Cond.instanceMethod objectInit ∈ lw_g) (hc : Cond.code objectInit ⟨#[0xb1]⟩ 1 none ∈ lw_g) (hw : (st.map fun v => v.category).sum ≤ 8) (k : EvB G d u z0 n0 r mF (pc + 3) lv st m) : EvB G d u z0 n0 r mF pc lv (.ref a :: st) m :=
  ⟨k.1, fun p e R s q args below meth c Q F hR hQ hB h1 h2 H ls locs hr hls hL => by
    have hts := F.2.2.2.2.2.2.2.1
    obtain ⟨hR1, hR2, -, -⟩ := id hR
    exact W.objInit F.1 F.2.1 F.2.2.2.2.2.1 (hts _ hl) (hts _ hi) (hts _ hc) rfl (by rw [F.2.2.2.1]; exact hls.1) rfl hd (by omega) (by show 2 * 0 + _ + 12 ≤ _; omega) (k.2 p e R s q args below meth c Q F hR hQ hB h1 h2 H ls locs hr hls hL)⟩
end Rows5
end
section
theorem ini_L : Cond.initialized RL ∈ lw_g := List.mem_filter.mpr ⟨List.mem_of_getElem? (i := 108) (by decide +kernel), by decide +kernel⟩
theorem ini_X5 : Cond.initialized RX5 ∈ lw_g := List.mem_filter.mpr ⟨List.mem_of_getElem? (i := 109) (by decide +kernel), by decide +kernel⟩
theorem ini_X0 : Cond.initialized RX0 ∈ lw_g := List.mem_filter.mpr ⟨List.mem_of_getElem? (i := 110) (by decide +kernel), by decide +kernel⟩
theorem ini_X3 : Cond.initialized RX3 ∈ lw_g := List.mem_filter.mpr ⟨List.mem_of_getElem? (i := 111) (by decide +kernel), by decide +kernel⟩
theorem ini_X4 : Cond.initialized RX4 ∈ lw_g := List.mem_filter.mpr ⟨List.mem_of_getElem? (i := 112) (by decide +kernel), by decide +kernel⟩
theorem ini_X2 : Cond.initialized RX2 ∈ lw_g := List.mem_filter.mpr ⟨List.mem_of_getElem? (i := 113) (by decide +kernel), by decide +kernel⟩
theorem ini_J7 : Cond.initialized RJ7 ∈ lw_g := List.mem_filter.mpr ⟨List.mem_of_getElem? (i := 114) (by decide +kernel), by decide +kernel⟩
theorem ini_X1 : Cond.initialized RX1 ∈ lw_g := List.mem_filter.mpr ⟨List.mem_of_getElem? (i := 115) (by decide +kernel), by decide +kernel⟩
theorem ini_X6 : Cond.initialized RX6 ∈ lw_g := List.mem_filter.mpr ⟨List.mem_of_getElem? (i := 116) (by decide +kernel), by decide +kernel⟩
theorem ini_J9 : Cond.initialized RJ9 ∈ lw_g := List.mem_filter.mpr ⟨List.mem_of_getElem? (i := 117) (by decide +kernel), by decide +kernel⟩
theorem ini_J10 : Cond.initialized RJ10 ∈ lw_g := List.mem_filter.mpr ⟨List.mem_of_getElem? (i := 118) (by decide +kernel), by decide +kernel⟩
abbrev uX5_init : MI := (yX5_init, cX5_init, 1, none)
theorem code_X5_init : Cond.code yX5_init cX5_init 1 none ∈ lw_g := List.mem_filter.mpr ⟨List.mem_of_getElem? (i := 123) (by decide +kernel), by decide +kernel⟩
theorem code_obj : Cond.code objectInit ⟨#[0xb1]⟩ 1 none ∈ lw_g := List.mem_filter.mpr ⟨List.mem_of_getElem? (i := 126) (by decide +kernel), by decide +kernel⟩
abbrev uX0_init : MI := (yX0_init, cX0_init, 2, none)
theorem code_X0_init : Cond.code yX0_init cX0_init 2 none ∈ lw_g := List.mem_filter.mpr ⟨List.mem_of_getElem? (i := 131) (by decide +kernel), by decide +kernel⟩
abbrev uX3_init : MI := (yX3_init, cX3_init, 1, none)
theorem code_X3_init : Cond.code yX3_init cX3_init 1 none ∈ lw_g := List.mem_filter.mpr ⟨List.mem_of_getElem? (i := 141) (by decide +kernel), by decide +kernel⟩
abbrev uX4_init : MI := (yX4_init, cX4_init, 2, none)
theorem code_X4_init : Cond.code yX4_init cX4_init 2 none ∈ lw_g := List.mem_filter.mpr ⟨List.mem_of_getElem? (i := 156) (by decide +kernel), by decide +kernel⟩
abbrev uX2_init : MI := (yX2_init, cX2_init, 1, none)
theorem code_X2_init : Cond.code yX2_init cX2_init 1 none ∈ lw_g := List.mem_filter.mpr ⟨List.mem_of_getElem? (i := 239) (by decide +kernel), by decide +kernel⟩
abbrev uJ7_fill_53178 : MI := (yJ7_fill_53178, cJ7_fill_53178, 4, none)
theorem code_J7_fill_53178 : Cond.code yJ7_fill_53178 cJ7_fill_53178 4 none ∈ lw_g := List.mem_filter.mpr ⟨List.mem_of_getElem? (i := 252) (by decide +kernel), by decide +kernel⟩
abbrev uX1_init : MI := (yX1_init, cX1_init, 1, none)
theorem code_X1_init : Cond.code yX1_init cX1_init 1 none ∈ lw_g := List.mem_filter.mpr ⟨List.mem_of_getElem? (i := 303) (by decide +kernel), by decide +kernel⟩
abbrev uX5_program : MI := (yX5_program, cX5_program, 6, (some (.int)))
theorem code_X5_program : Cond.code yX5_program cX5_program 6 (some (.int)) ∈ lw_g := List.mem_filter.mpr ⟨List.mem_of_getElem? (i := 339) (by decide +kernel), by decide +kernel⟩
abbrev uX0_programAt : MI := (yX0_programAt, cX0_programAt, 2, (some (.object "FairWheel$Program")))
theorem code_X0_programAt : Cond.code yX0_programAt cX0_programAt 2 (some (.object "FairWheel$Program")) ∈ lw_g := List.mem_filter.mpr ⟨List.mem_of_getElem? (i := 343) (by decide +kernel), by decide +kernel⟩
abbrev uX5_refused : MI := (yX5_refused, cX5_refused, 2, (some (.int)))
theorem code_X5_refused : Cond.code yX5_refused cX5_refused 2 (some (.int)) ∈ lw_g := List.mem_filter.mpr ⟨List.mem_of_getElem? (i := 347) (by decide +kernel), by decide +kernel⟩
abbrev uX2_length : MI := (yX2_length, cX2_length, 1, (some (.int)))
theorem code_X2_length : Cond.code yX2_length cX2_length 1 (some (.int)) ∈ lw_g := List.mem_filter.mpr ⟨List.mem_of_getElem? (i := 351) (by decide +kernel), by decide +kernel⟩
abbrev uJ9_max_7cf53 : MI := (yJ9_max_7cf53, cJ9_max_7cf53, 2, (some (.int)))
theorem code_J9_max_7cf53 : Cond.code yJ9_max_7cf53 cJ9_max_7cf53 2 (some (.int)) ∈ lw_g := List.mem_filter.mpr ⟨List.mem_of_getElem? (i := 354) (by decide +kernel), by decide +kernel⟩
abbrev uX5_noted : MI := (yX5_noted, cX5_noted, 9, (some (.boolean)))
theorem code_X5_noted : Cond.code yX5_noted cX5_noted 9 (some (.boolean)) ∈ lw_g := List.mem_filter.mpr ⟨List.mem_of_getElem? (i := 358) (by decide +kernel), by decide +kernel⟩
abbrev uX1_add : MI := (yX1_add, cX1_add, 9, (some (.boolean)))
theorem code_X1_add : Cond.code yX1_add cX1_add 9 (some (.boolean)) ∈ lw_g := List.mem_filter.mpr ⟨List.mem_of_getElem? (i := 362) (by decide +kernel), by decide +kernel⟩
abbrev uJ9_min_7cf53 : MI := (yJ9_min_7cf53, cJ9_min_7cf53, 2, (some (.int)))
theorem code_J9_min_7cf53 : Cond.code yJ9_min_7cf53 cJ9_min_7cf53 2 (some (.int)) ∈ lw_g := List.mem_filter.mpr ⟨List.mem_of_getElem? (i := 365) (by decide +kernel), by decide +kernel⟩
abbrev uJ7_copyOf_c38d5 : MI := (yJ7_copyOf_c38d5, cJ7_copyOf_c38d5, 3, (some (.array (.long))))
theorem code_J7_copyOf_c38d5 : Cond.code yJ7_copyOf_c38d5 cJ7_copyOf_c38d5 3 (some (.array (.long))) ∈ lw_g := List.mem_filter.mpr ⟨List.mem_of_getElem? (i := 368) (by decide +kernel), by decide +kernel⟩
abbrev uX2_extend : MI := (yX2_extend, cX2_extend, 6, (some (.int)))
theorem code_X2_extend : Cond.code yX2_extend cX2_extend 6 (some (.int)) ∈ lw_g := List.mem_filter.mpr ⟨List.mem_of_getElem? (i := 383) (by decide +kernel), by decide +kernel⟩
abbrev uJ7_copyOf_9075b : MI := (yJ7_copyOf_9075b, cJ7_copyOf_9075b, 3, (some (.array (.byte))))
theorem code_J7_copyOf_9075b : Cond.code yJ7_copyOf_9075b cJ7_copyOf_9075b 3 (some (.array (.byte))) ∈ lw_g := List.mem_filter.mpr ⟨List.mem_of_getElem? (i := 388) (by decide +kernel), by decide +kernel⟩
abbrev uX5_task : MI := (yX5_task, cX5_task, 4, (some (.int)))
theorem code_X5_task : Cond.code yX5_task cX5_task 4 (some (.int)) ∈ lw_g := List.mem_filter.mpr ⟨List.mem_of_getElem? (i := 397) (by decide +kernel), by decide +kernel⟩
abbrev uX5_isShare : MI := (yX5_isShare, cX5_isShare, 1, (some (.boolean)))
theorem code_X5_isShare : Cond.code yX5_isShare cX5_isShare 1 (some (.boolean)) ∈ lw_g := List.mem_filter.mpr ⟨List.mem_of_getElem? (i := 400) (by decide +kernel), by decide +kernel⟩
abbrev uX0_addTask : MI := (yX0_addTask, cX0_addTask, 5, (some (.int)))
theorem code_X0_addTask : Cond.code yX0_addTask cX0_addTask 5 (some (.int)) ∈ lw_g := List.mem_filter.mpr ⟨List.mem_of_getElem? (i := 404) (by decide +kernel), by decide +kernel⟩
abbrev uX0_leastVirtual : MI := (yX0_leastVirtual, cX0_leastVirtual, 6, (some (.long)))
theorem code_X0_leastVirtual : Cond.code yX0_leastVirtual cX0_leastVirtual 6 (some (.long)) ∈ lw_g := List.mem_filter.mpr ⟨List.mem_of_getElem? (i := 408) (by decide +kernel), by decide +kernel⟩
abbrev uX4_begin : MI := (yX4_begin, cX4_begin, 6, none)
theorem code_X4_begin : Cond.code yX4_begin cX4_begin 6 none ∈ lw_g := List.mem_filter.mpr ⟨List.mem_of_getElem? (i := 412) (by decide +kernel), by decide +kernel⟩
abbrev uX4_startPeriod : MI := (yX4_startPeriod, cX4_startPeriod, 4, none)
theorem code_X4_startPeriod : Cond.code yX4_startPeriod cX4_startPeriod 4 none ∈ lw_g := List.mem_filter.mpr ⟨List.mem_of_getElem? (i := 416) (by decide +kernel), by decide +kernel⟩
abbrev uX5_share : MI := (yX5_share, cX5_share, 4, (some (.int)))
theorem code_X5_share : Cond.code yX5_share cX5_share 4 (some (.int)) ∈ lw_g := List.mem_filter.mpr ⟨List.mem_of_getElem? (i := 420) (by decide +kernel), by decide +kernel⟩
abbrev uX0_unendedTask : MI := (yX0_unendedTask, cX0_unendedTask, 3, (some (.object "FairWheel$Task")))
theorem code_X0_unendedTask : Cond.code yX0_unendedTask cX0_unendedTask 3 (some (.object "FairWheel$Task")) ∈ lw_g := List.mem_filter.mpr ⟨List.mem_of_getElem? (i := 424) (by decide +kernel), by decide +kernel⟩
abbrev uX0_taskAt : MI := (yX0_taskAt, cX0_taskAt, 2, (some (.object "FairWheel$Task")))
theorem code_X0_taskAt : Cond.code yX0_taskAt cX0_taskAt 2 (some (.object "FairWheel$Task")) ∈ lw_g := List.mem_filter.mpr ⟨List.mem_of_getElem? (i := 428) (by decide +kernel), by decide +kernel⟩
abbrev uX4_changeShare : MI := (yX4_changeShare, cX4_changeShare, 3, (some (.int)))
theorem code_X4_changeShare : Cond.code yX4_changeShare cX4_changeShare 3 (some (.int)) ∈ lw_g := List.mem_filter.mpr ⟨List.mem_of_getElem? (i := 432) (by decide +kernel), by decide +kernel⟩
abbrev uX5_deadline : MI := (yX5_deadline, cX5_deadline, 6, (some (.boolean)))
theorem code_X5_deadline : Cond.code yX5_deadline cX5_deadline 6 (some (.boolean)) ∈ lw_g := List.mem_filter.mpr ⟨List.mem_of_getElem? (i := 437) (by decide +kernel), by decide +kernel⟩
abbrev uX4_hasDeadline : MI := (yX4_hasDeadline, cX4_hasDeadline, 1, (some (.boolean)))
theorem code_X4_hasDeadline : Cond.code yX4_hasDeadline cX4_hasDeadline 1 (some (.boolean)) ∈ lw_g := List.mem_filter.mpr ⟨List.mem_of_getElem? (i := 441) (by decide +kernel), by decide +kernel⟩
abbrev uX5_processors : MI := (yX5_processors, cX5_processors, 2, (some (.int)))
theorem code_X5_processors : Cond.code yX5_processors cX5_processors 2 (some (.int)) ∈ lw_g := List.mem_filter.mpr ⟨List.mem_of_getElem? (i := 446) (by decide +kernel), by decide +kernel⟩
abbrev uX0_changeProcessors : MI := (yX0_changeProcessors, cX0_changeProcessors, 3, (some (.int)))
theorem code_X0_changeProcessors : Cond.code yX0_changeProcessors cX0_changeProcessors 3 (some (.int)) ∈ lw_g := List.mem_filter.mpr ⟨List.mem_of_getElem? (i := 450) (by decide +kernel), by decide +kernel⟩
abbrev uX5_lock : MI := (yX5_lock, cX5_lock, 2, (some (.boolean)))
theorem code_X5_lock : Cond.code yX5_lock cX5_lock 2 (some (.boolean)) ∈ lw_g := List.mem_filter.mpr ⟨List.mem_of_getElem? (i := 454) (by decide +kernel), by decide +kernel⟩
abbrev uX0_holderOf : MI := (yX0_holderOf, cX0_holderOf, 2, (some (.int)))
theorem code_X0_holderOf : Cond.code yX0_holderOf cX0_holderOf 2 (some (.int)) ∈ lw_g := List.mem_filter.mpr ⟨List.mem_of_getElem? (i := 458) (by decide +kernel), by decide +kernel⟩
abbrev uX0_addLock : MI := (yX0_addLock, cX0_addLock, 2, none)
theorem code_X0_addLock : Cond.code yX0_addLock cX0_addLock 2 none ∈ lw_g := List.mem_filter.mpr ⟨List.mem_of_getElem? (i := 462) (by decide +kernel), by decide +kernel⟩
abbrev uX5_ring : MI := (yX5_ring, cX5_ring, 2, (some (.int)))
theorem code_X5_ring : Cond.code yX5_ring cX5_ring 2 (some (.int)) ∈ lw_g := List.mem_filter.mpr ⟨List.mem_of_getElem? (i := 466) (by decide +kernel), by decide +kernel⟩
abbrev uX0_ringBell : MI := (yX0_ringBell, cX0_ringBell, 5, (some (.int)))
theorem code_X0_ringBell : Cond.code yX0_ringBell cX0_ringBell 5 (some (.int)) ∈ lw_g := List.mem_filter.mpr ⟨List.mem_of_getElem? (i := 470) (by decide +kernel), by decide +kernel⟩
abbrev uX4_wake : MI := (yX4_wake, cX4_wake, 1, none)
theorem code_X4_wake : Cond.code yX4_wake cX4_wake 1 none ∈ lw_g := List.mem_filter.mpr ⟨List.mem_of_getElem? (i := 474) (by decide +kernel), by decide +kernel⟩
abbrev uX5_run : MI := (yX5_run, cX5_run, 2, (some (.int)))
theorem code_X5_run : Cond.code yX5_run cX5_run 2 (some (.int)) ∈ lw_g := List.mem_filter.mpr ⟨List.mem_of_getElem? (i := 478) (by decide +kernel), by decide +kernel⟩
abbrev uX0_goOn : MI := (yX0_goOn, cX0_goOn, 6, (some (.int)))
theorem code_X0_goOn : Cond.code yX0_goOn cX0_goOn 6 (some (.int)) ∈ lw_g := List.mem_filter.mpr ⟨List.mem_of_getElem? (i := 482) (by decide +kernel), by decide +kernel⟩
abbrev uX3_haveRoom : MI := (yX3_haveRoom, cX3_haveRoom, 1, (some (.boolean)))
theorem code_X3_haveRoom : Cond.code yX3_haveRoom cX3_haveRoom 1 (some (.boolean)) ∈ lw_g := List.mem_filter.mpr ⟨List.mem_of_getElem? (i := 486) (by decide +kernel), by decide +kernel⟩
abbrev uX0_quietTicks : MI := (yX0_quietTicks, cX0_quietTicks, 5, (some (.int)))
theorem code_X0_quietTicks : Cond.code yX0_quietTicks cX0_quietTicks 5 (some (.int)) ∈ lw_g := List.mem_filter.mpr ⟨List.mem_of_getElem? (i := 490) (by decide +kernel), by decide +kernel⟩
abbrev uX0_wakeAndRefill : MI := (yX0_wakeAndRefill, cX0_wakeAndRefill, 3, none)
theorem code_X0_wakeAndRefill : Cond.code yX0_wakeAndRefill cX0_wakeAndRefill 3 none ∈ lw_g := List.mem_filter.mpr ⟨List.mem_of_getElem? (i := 496) (by decide +kernel), by decide +kernel⟩
abbrev uX0_choose : MI := (yX0_choose, cX0_choose, 5, none)
theorem code_X0_choose : Cond.code yX0_choose cX0_choose 5 none ∈ lw_g := List.mem_filter.mpr ⟨List.mem_of_getElem? (i := 500) (by decide +kernel), by decide +kernel⟩
abbrev uX0_settle : MI := (yX0_settle, cX0_settle, 6, none)
theorem code_X0_settle : Cond.code yX0_settle cX0_settle 6 none ∈ lw_g := List.mem_filter.mpr ⟨List.mem_of_getElem? (i := 504) (by decide +kernel), by decide +kernel⟩
abbrev uX4_rank : MI := (yX4_rank, cX4_rank, 1, (some (.long)))
theorem code_X4_rank : Cond.code yX4_rank cX4_rank 1 (some (.long)) ∈ lw_g := List.mem_filter.mpr ⟨List.mem_of_getElem? (i := 508) (by decide +kernel), by decide +kernel⟩
abbrev uX0_blockerOf : MI := (yX0_blockerOf, cX0_blockerOf, 4, (some (.object "FairWheel$Task")))
theorem code_X0_blockerOf : Cond.code yX0_blockerOf cX0_blockerOf 4 (some (.object "FairWheel$Task")) ∈ lw_g := List.mem_filter.mpr ⟨List.mem_of_getElem? (i := 513) (by decide +kernel), by decide +kernel⟩
abbrev uX0_foremostBehind : MI := (yX0_foremostBehind, cX0_foremostBehind, 6, (some (.object "FairWheel$Task")))
theorem code_X0_foremostBehind : Cond.code yX0_foremostBehind cX0_foremostBehind 6 (some (.object "FairWheel$Task")) ∈ lw_g := List.mem_filter.mpr ⟨List.mem_of_getElem? (i := 518) (by decide +kernel), by decide +kernel⟩
abbrev uX5_classOf : MI := (yX5_classOf, cX5_classOf, 2, (some (.int)))
theorem code_X5_classOf : Cond.code yX5_classOf cX5_classOf 2 (some (.int)) ∈ lw_g := List.mem_filter.mpr ⟨List.mem_of_getElem? (i := 521) (by decide +kernel), by decide +kernel⟩
abbrev uX5_keyOf : MI := (yX5_keyOf, cX5_keyOf, 2, (some (.long)))
theorem code_X5_keyOf : Cond.code yX5_keyOf cX5_keyOf 2 (some (.long)) ∈ lw_g := List.mem_filter.mpr ⟨List.mem_of_getElem? (i := 524) (by decide +kernel), by decide +kernel⟩
abbrev uX3_add : MI := (yX3_add, cX3_add, 7, none)
theorem code_X3_add : Cond.code yX3_add cX3_add 7 none ∈ lw_g := List.mem_filter.mpr ⟨List.mem_of_getElem? (i := 529) (by decide +kernel), by decide +kernel⟩
abbrev uJ7_copyOf_59c91 : MI := (yJ7_copyOf_59c91, cJ7_copyOf_59c91, 3, (some (.array (.int))))
theorem code_J7_copyOf_59c91 : Cond.code yJ7_copyOf_59c91 cJ7_copyOf_59c91 3 (some (.array (.int))) ∈ lw_g := List.mem_filter.mpr ⟨List.mem_of_getElem? (i := 534) (by decide +kernel), by decide +kernel⟩
abbrev uX0_turn : MI := (yX0_turn, cX0_turn, 4, none)
theorem code_X0_turn : Cond.code yX0_turn cX0_turn 4 none ∈ lw_g := List.mem_filter.mpr ⟨List.mem_of_getElem? (i := 543) (by decide +kernel), by decide +kernel⟩
abbrev uX0_pay : MI := (yX0_pay, cX0_pay, 2, none)
theorem code_X0_pay : Cond.code yX0_pay cX0_pay 2 none ∈ lw_g := List.mem_filter.mpr ⟨List.mem_of_getElem? (i := 547) (by decide +kernel), by decide +kernel⟩
abbrev uX4_payOnce : MI := (yX4_payOnce, cX4_payOnce, 2, none)
theorem code_X4_payOnce : Cond.code yX4_payOnce cX4_payOnce 2 none ∈ lw_g := List.mem_filter.mpr ⟨List.mem_of_getElem? (i := 551) (by decide +kernel), by decide +kernel⟩
abbrev uX0_act : MI := (yX0_act, cX0_act, 5, (some (.int)))
theorem code_X0_act : Cond.code yX0_act cX0_act 5 (some (.int)) ∈ lw_g := List.mem_filter.mpr ⟨List.mem_of_getElem? (i := 555) (by decide +kernel), by decide +kernel⟩
abbrev uX0_readable : MI := (yX0_readable, cX0_readable, 4, (some (.int)))
theorem code_X0_readable : Cond.code yX0_readable cX0_readable 4 (some (.int)) ∈ lw_g := List.mem_filter.mpr ⟨List.mem_of_getElem? (i := 560) (by decide +kernel), by decide +kernel⟩
abbrev uX2_byteAt : MI := (yX2_byteAt, cX2_byteAt, 2, (some (.int)))
theorem code_X2_byteAt : Cond.code yX2_byteAt cX2_byteAt 2 (some (.int)) ∈ lw_g := List.mem_filter.mpr ⟨List.mem_of_getElem? (i := 564) (by decide +kernel), by decide +kernel⟩
abbrev uX0_take : MI := (yX0_take, cX0_take, 4, (some (.int)))
theorem code_X0_take : Cond.code yX0_take cX0_take 4 (some (.int)) ∈ lw_g := List.mem_filter.mpr ⟨List.mem_of_getElem? (i := 569) (by decide +kernel), by decide +kernel⟩
abbrev uX0_leadsTo : MI := (yX0_leadsTo, cX0_leadsTo, 5, (some (.boolean)))
theorem code_X0_leadsTo : Cond.code yX0_leadsTo cX0_leadsTo 5 (some (.boolean)) ∈ lw_g := List.mem_filter.mpr ⟨List.mem_of_getElem? (i := 574) (by decide +kernel), by decide +kernel⟩
abbrev uX0_keepRing : MI := (yX0_keepRing, cX0_keepRing, 5, none)
theorem code_X0_keepRing : Cond.code yX0_keepRing cX0_keepRing 5 none ∈ lw_g := List.mem_filter.mpr ⟨List.mem_of_getElem? (i := 578) (by decide +kernel), by decide +kernel⟩
abbrev uX0_beginWait : MI := (yX0_beginWait, cX0_beginWait, 3, none)
theorem code_X0_beginWait : Cond.code yX0_beginWait cX0_beginWait 3 none ∈ lw_g := List.mem_filter.mpr ⟨List.mem_of_getElem? (i := 582) (by decide +kernel), by decide +kernel⟩
abbrev uX0_give : MI := (yX0_give, cX0_give, 4, (some (.int)))
theorem code_X0_give : Cond.code yX0_give cX0_give 4 (some (.int)) ∈ lw_g := List.mem_filter.mpr ⟨List.mem_of_getElem? (i := 586) (by decide +kernel), by decide +kernel⟩
abbrev uX0_handOver : MI := (yX0_handOver, cX0_handOver, 5, none)
theorem code_X0_handOver : Cond.code yX0_handOver cX0_handOver 5 none ∈ lw_g := List.mem_filter.mpr ⟨List.mem_of_getElem? (i := 590) (by decide +kernel), by decide +kernel⟩
abbrev uX0_waitForBell : MI := (yX0_waitForBell, cX0_waitForBell, 3, (some (.int)))
theorem code_X0_waitForBell : Cond.code yX0_waitForBell cX0_waitForBell 3 (some (.int)) ∈ lw_g := List.mem_filter.mpr ⟨List.mem_of_getElem? (i := 594) (by decide +kernel), by decide +kernel⟩
abbrev uX0_ringFrom : MI := (yX0_ringFrom, cX0_ringFrom, 2, (some (.int)))
theorem code_X0_ringFrom : Cond.code yX0_ringFrom cX0_ringFrom 2 (some (.int)) ∈ lw_g := List.mem_filter.mpr ⟨List.mem_of_getElem? (i := 598) (by decide +kernel), by decide +kernel⟩
abbrev uX0_sleep : MI := (yX0_sleep, cX0_sleep, 3, (some (.int)))
theorem code_X0_sleep : Cond.code yX0_sleep cX0_sleep 3 (some (.int)) ∈ lw_g := List.mem_filter.mpr ⟨List.mem_of_getElem? (i := 603) (by decide +kernel), by decide +kernel⟩
abbrev uX0_spawn : MI := (yX0_spawn, cX0_spawn, 4, (some (.int)))
theorem code_X0_spawn : Cond.code yX0_spawn cX0_spawn 4 (some (.int)) ∈ lw_g := List.mem_filter.mpr ⟨List.mem_of_getElem? (i := 607) (by decide +kernel), by decide +kernel⟩
abbrev uX0_getShorts : MI := (yX0_getShorts, cX0_getShorts, 3, (some (.int)))
theorem code_X0_getShorts : Cond.code yX0_getShorts cX0_getShorts 3 (some (.int)) ∈ lw_g := List.mem_filter.mpr ⟨List.mem_of_getElem? (i := 612) (by decide +kernel), by decide +kernel⟩
abbrev uX4_makeShorts : MI := (yX4_makeShorts, cX4_makeShorts, 2, none)
theorem code_X4_makeShorts : Cond.code yX4_makeShorts cX4_makeShorts 2 none ∈ lw_g := List.mem_filter.mpr ⟨List.mem_of_getElem? (i := 616) (by decide +kernel), by decide +kernel⟩
abbrev uJ7_fill_fb410 : MI := (yJ7_fill_fb410, cJ7_fill_fb410, 4, none)
theorem code_J7_fill_fb410 : Cond.code yJ7_fill_fb410 cJ7_fill_fb410 4 none ∈ lw_g := List.mem_filter.mpr ⟨List.mem_of_getElem? (i := 619) (by decide +kernel), by decide +kernel⟩
abbrev uX0_stamp : MI := (yX0_stamp, cX0_stamp, 3, (some (.int)))
theorem code_X0_stamp : Cond.code yX0_stamp cX0_stamp 3 (some (.int)) ∈ lw_g := List.mem_filter.mpr ⟨List.mem_of_getElem? (i := 623) (by decide +kernel), by decide +kernel⟩
abbrev uX4_setShort : MI := (yX4_setShort, cX4_setShort, 3, none)
theorem code_X4_setShort : Cond.code yX4_setShort cX4_setShort 3 none ∈ lw_g := List.mem_filter.mpr ⟨List.mem_of_getElem? (i := 627) (by decide +kernel), by decide +kernel⟩
abbrev uX4_hasShort : MI := (yX4_hasShort, cX4_hasShort, 2, (some (.boolean)))
theorem code_X4_hasShort : Cond.code yX4_hasShort cX4_hasShort 2 (some (.boolean)) ∈ lw_g := List.mem_filter.mpr ⟨List.mem_of_getElem? (i := 631) (by decide +kernel), by decide +kernel⟩
abbrev uX0_findShort : MI := (yX0_findShort, cX0_findShort, 3, (some (.int)))
theorem code_X0_findShort : Cond.code yX0_findShort cX0_findShort 3 (some (.int)) ∈ lw_g := List.mem_filter.mpr ⟨List.mem_of_getElem? (i := 635) (by decide +kernel), by decide +kernel⟩
abbrev uX0_claim : MI := (yX0_claim, cX0_claim, 3, (some (.int)))
theorem code_X0_claim : Cond.code yX0_claim cX0_claim 3 (some (.int)) ∈ lw_g := List.mem_filter.mpr ⟨List.mem_of_getElem? (i := 640) (by decide +kernel), by decide +kernel⟩
abbrev uX4_isOf : MI := (yX4_isOf, cX4_isOf, 2, (some (.boolean)))
theorem code_X4_isOf : Cond.code yX4_isOf cX4_isOf 2 (some (.boolean)) ∈ lw_g := List.mem_filter.mpr ⟨List.mem_of_getElem? (i := 644) (by decide +kernel), by decide +kernel⟩
abbrev uX0_fail : MI := (yX0_fail, cX0_fail, 2, (some (.int)))
theorem code_X0_fail : Cond.code yX0_fail cX0_fail 2 (some (.int)) ∈ lw_g := List.mem_filter.mpr ⟨List.mem_of_getElem? (i := 648) (by decide +kernel), by decide +kernel⟩
abbrev uX0_workByShort : MI := (yX0_workByShort, cX0_workByShort, 3, (some (.int)))
theorem code_X0_workByShort : Cond.code yX0_workByShort cX0_workByShort 3 (some (.int)) ∈ lw_g := List.mem_filter.mpr ⟨List.mem_of_getElem? (i := 652) (by decide +kernel), by decide +kernel⟩
abbrev uX4_shortAt : MI := (yX4_shortAt, cX4_shortAt, 2, (some (.int)))
theorem code_X4_shortAt : Cond.code yX4_shortAt cX4_shortAt 2 (some (.int)) ∈ lw_g := List.mem_filter.mpr ⟨List.mem_of_getElem? (i := 656) (by decide +kernel), by decide +kernel⟩
abbrev uX0_end : MI := (yX0_end, cX0_end, 4, none)
theorem code_X0_end : Cond.code yX0_end cX0_end 4 none ∈ lw_g := List.mem_filter.mpr ⟨List.mem_of_getElem? (i := 660) (by decide +kernel), by decide +kernel⟩
abbrev uX5_chosen : MI := (yX5_chosen, cX5_chosen, 2, (some (.int)))
theorem code_X5_chosen : Cond.code yX5_chosen cX5_chosen 2 (some (.int)) ∈ lw_g := List.mem_filter.mpr ⟨List.mem_of_getElem? (i := 665) (by decide +kernel), by decide +kernel⟩
abbrev uX5_about : MI := (yX5_about, cX5_about, 4, (some (.int)))
theorem code_X5_about : Cond.code yX5_about cX5_about 4 (some (.int)) ∈ lw_g := List.mem_filter.mpr ⟨List.mem_of_getElem? (i := 669) (by decide +kernel), by decide +kernel⟩
abbrev uX4_tell : MI := (yX4_tell, cX4_tell, 2, (some (.int)))
theorem code_X4_tell : Cond.code yX4_tell cX4_tell 2 (some (.int)) ∈ lw_g := List.mem_filter.mpr ⟨List.mem_of_getElem? (i := 674) (by decide +kernel), by decide +kernel⟩
abbrev uX5_virtual : MI := (yX5_virtual, cX5_virtual, 3, (some (.long)))
theorem code_X5_virtual : Cond.code yX5_virtual cX5_virtual 3 (some (.long)) ∈ lw_g := List.mem_filter.mpr ⟨List.mem_of_getElem? (i := 679) (by decide +kernel), by decide +kernel⟩
abbrev uX5_small : MI := (yX5_small, cX5_small, 4, (some (.int)))
theorem code_X5_small : Cond.code yX5_small cX5_small 4 (some (.int)) ∈ lw_g := List.mem_filter.mpr ⟨List.mem_of_getElem? (i := 684) (by decide +kernel), by decide +kernel⟩
abbrev uX5_standing : MI := (yX5_standing, cX5_standing, 4, (some (.long)))
theorem code_X5_standing : Cond.code yX5_standing cX5_standing 4 (some (.long)) ∈ lw_g := List.mem_filter.mpr ⟨List.mem_of_getElem? (i := 689) (by decide +kernel), by decide +kernel⟩
abbrev uX5_numberOf : MI := (yX5_numberOf, cX5_numberOf, 2, (some (.int)))
theorem code_X5_numberOf : Cond.code yX5_numberOf cX5_numberOf 2 (some (.int)) ∈ lw_g := List.mem_filter.mpr ⟨List.mem_of_getElem? (i := 695) (by decide +kernel), by decide +kernel⟩
abbrev uX5_holder : MI := (yX5_holder, cX5_holder, 2, (some (.int)))
theorem code_X5_holder : Cond.code yX5_holder cX5_holder 2 (some (.int)) ∈ lw_g := List.mem_filter.mpr ⟨List.mem_of_getElem? (i := 700) (by decide +kernel), by decide +kernel⟩
abbrev uX5_ringed : MI := (yX5_ringed, cX5_ringed, 2, (some (.int)))
theorem code_X5_ringed : Cond.code yX5_ringed cX5_ringed 2 (some (.int)) ∈ lw_g := List.mem_filter.mpr ⟨List.mem_of_getElem? (i := 704) (by decide +kernel), by decide +kernel⟩
abbrev uX5_row : MI := (yX5_row, cX5_row, 3, (some (.int)))
theorem code_X5_row : Cond.code yX5_row cX5_row 3 (some (.int)) ∈ lw_g := List.mem_filter.mpr ⟨List.mem_of_getElem? (i := 708) (by decide +kernel), by decide +kernel⟩
abbrev uX3_has : MI := (yX3_has, cX3_has, 3, (some (.boolean)))
theorem code_X3_has : Cond.code yX3_has cX3_has 3 (some (.boolean)) ∈ lw_g := List.mem_filter.mpr ⟨List.mem_of_getElem? (i := 712) (by decide +kernel), by decide +kernel⟩
abbrev uX3_get : MI := (yX3_get, cX3_get, 3, (some (.int)))
theorem code_X3_get : Cond.code yX3_get cX3_get 3 (some (.int)) ∈ lw_g := List.mem_filter.mpr ⟨List.mem_of_getElem? (i := 716) (by decide +kernel), by decide +kernel⟩
abbrev uX5_forge : MI := (yX5_forge, cX5_forge, 4, (some (.boolean)))
theorem code_X5_forge : Cond.code yX5_forge cX5_forge 4 (some (.boolean)) ∈ lw_g := List.mem_filter.mpr ⟨List.mem_of_getElem? (i := 721) (by decide +kernel), by decide +kernel⟩
abbrev uX3_grow : MI := (yX3_grow, cX3_grow, 4, none)
theorem code_X3_grow : Cond.code yX3_grow cX3_grow 4 none ∈ lw_g := List.mem_filter.mpr ⟨List.mem_of_getElem? (i := 725) (by decide +kernel), by decide +kernel⟩
abbrev uX5_check : MI := (yX5_check, cX5_check, 2, (some (.int)))
theorem code_X5_check : Cond.code yX5_check cX5_check 2 (some (.int)) ∈ lw_g := List.mem_filter.mpr ⟨List.mem_of_getElem? (i := 729) (by decide +kernel), by decide +kernel⟩
abbrev uX0_clear : MI := (yX0_clear, cX0_clear, 2, none)
theorem code_X0_clear : Cond.code yX0_clear cX0_clear 2 none ∈ lw_g := List.mem_filter.mpr ⟨List.mem_of_getElem? (i := 733) (by decide +kernel), by decide +kernel⟩
abbrev uX5_redo : MI := (yX5_redo, cX5_redo, 8, none)
theorem code_X5_redo : Cond.code yX5_redo cX5_redo 8 none ∈ lw_g := List.mem_filter.mpr ⟨List.mem_of_getElem? (i := 737) (by decide +kernel), by decide +kernel⟩
abbrev uX1_get : MI := (yX1_get, cX1_get, 3, (some (.long)))
theorem code_X1_get : Cond.code yX1_get cX1_get 3 (some (.long)) ∈ lw_g := List.mem_filter.mpr ⟨List.mem_of_getElem? (i := 741) (by decide +kernel), by decide +kernel⟩
abbrev uX3_firstUnlike : MI := (yX3_firstUnlike, cX3_firstUnlike, 4, (some (.int)))
theorem code_X3_firstUnlike : Cond.code yX3_firstUnlike cX3_firstUnlike 4 (some (.int)) ∈ lw_g := List.mem_filter.mpr ⟨List.mem_of_getElem? (i := 745) (by decide +kernel), by decide +kernel⟩
abbrev uX5_checkedTo : MI := (yX5_checkedTo, cX5_checkedTo, 1, (some (.int)))
theorem code_X5_checkedTo : Cond.code yX5_checkedTo cX5_checkedTo 1 (some (.int)) ∈ lw_g := List.mem_filter.mpr ⟨List.mem_of_getElem? (i := 749) (by decide +kernel), by decide +kernel⟩
abbrev uX5_bound : MI := (yX5_bound, cX5_bound, 3, (some (.long)))
theorem code_X5_bound : Cond.code yX5_bound cX5_bound 3 (some (.long)) ∈ lw_g := List.mem_filter.mpr ⟨List.mem_of_getElem? (i := 753) (by decide +kernel), by decide +kernel⟩
abbrev uX0_ticksUntilChosen : MI := (yX0_ticksUntilChosen, cX0_ticksUntilChosen, 7, (some (.long)))
theorem code_X0_ticksUntilChosen : Cond.code yX0_ticksUntilChosen cX0_ticksUntilChosen 7 (some (.long)) ∈ lw_g := List.mem_filter.mpr ⟨List.mem_of_getElem? (i := 757) (by decide +kernel), by decide +kernel⟩
abbrev uX0_turnsAhead : MI := (yX0_turnsAhead, cX0_turnsAhead, 6, (some (.long)))
theorem code_X0_turnsAhead : Cond.code yX0_turnsAhead cX0_turnsAhead 6 (some (.long)) ∈ lw_g := List.mem_filter.mpr ⟨List.mem_of_getElem? (i := 762) (by decide +kernel), by decide +kernel⟩
abbrev uX4_paymentsBehind : MI := (yX4_paymentsBehind, cX4_paymentsBehind, 5, (some (.long)))
theorem code_X4_paymentsBehind : Cond.code yX4_paymentsBehind cX4_paymentsBehind 5 (some (.long)) ∈ lw_g := List.mem_filter.mpr ⟨List.mem_of_getElem? (i := 766) (by decide +kernel), by decide +kernel⟩
abbrev uJ9_max_f86c9 : MI := (yJ9_max_f86c9, cJ9_max_f86c9, 4, (some (.long)))
theorem code_J9_max_f86c9 : Cond.code yJ9_max_f86c9 cJ9_max_f86c9 4 (some (.long)) ∈ lw_g := List.mem_filter.mpr ⟨List.mem_of_getElem? (i := 773) (by decide +kernel), by decide +kernel⟩
abbrev uX5_trace : MI := (yX5_trace, cX5_trace, 2, (some (.int)))
theorem code_X5_trace : Cond.code yX5_trace cX5_trace 2 (some (.int)) ∈ lw_g := List.mem_filter.mpr ⟨List.mem_of_getElem? (i := 778) (by decide +kernel), by decide +kernel⟩
abbrev uX5_count : MI := (yX5_count, cX5_count, 2, (some (.int)))
theorem code_X5_count : Cond.code yX5_count cX5_count 2 (some (.int)) ∈ lw_g := List.mem_filter.mpr ⟨List.mem_of_getElem? (i := 782) (by decide +kernel), by decide +kernel⟩
abbrev uX0_howMany : MI := (yX0_howMany, cX0_howMany, 4, (some (.int)))
theorem code_X0_howMany : Cond.code yX0_howMany cX0_howMany 4 (some (.int)) ∈ lw_g := List.mem_filter.mpr ⟨List.mem_of_getElem? (i := 786) (by decide +kernel), by decide +kernel⟩
abbrev uX5_image : MI := (yX5_image, cX5_image, 1, (some (.long)))
theorem code_X5_image : Cond.code yX5_image cX5_image 1 (some (.long)) ∈ lw_g := List.mem_filter.mpr ⟨List.mem_of_getElem? (i := 790) (by decide +kernel), by decide +kernel⟩
abbrev uX0_become : MI := (yX0_become, cX0_become, 3, none)
theorem code_X0_become : Cond.code yX0_become cX0_become 3 none ∈ lw_g := List.mem_filter.mpr ⟨List.mem_of_getElem? (i := 794) (by decide +kernel), by decide +kernel⟩
abbrev uX4_become : MI := (yX4_become, cX4_become, 3, none)
theorem code_X4_become : Cond.code yX4_become cX4_become 3 none ∈ lw_g := List.mem_filter.mpr ⟨List.mem_of_getElem? (i := 798) (by decide +kernel), by decide +kernel⟩
abbrev uX2_become : MI := (yX2_become, cX2_become, 2, none)
theorem code_X2_become : Cond.code yX2_become cX2_become 2 none ∈ lw_g := List.mem_filter.mpr ⟨List.mem_of_getElem? (i := 806) (by decide +kernel), by decide +kernel⟩
abbrev uX3_become : MI := (yX3_become, cX3_become, 2, none)
theorem code_X3_become : Cond.code yX3_become cX3_become 2 none ∈ lw_g := List.mem_filter.mpr ⟨List.mem_of_getElem? (i := 811) (by decide +kernel), by decide +kernel⟩
abbrev uX1_become : MI := (yX1_become, cX1_become, 2, none)
theorem code_X1_become : Cond.code yX1_become cX1_become 2 none ∈ lw_g := List.mem_filter.mpr ⟨List.mem_of_getElem? (i := 817) (by decide +kernel), by decide +kernel⟩
abbrev uX0_summed : MI := (yX0_summed, cX0_summed, 6, (some (.long)))
theorem code_X0_summed : Cond.code yX0_summed cX0_summed 6 (some (.long)) ∈ lw_g := List.mem_filter.mpr ⟨List.mem_of_getElem? (i := 822) (by decide +kernel), by decide +kernel⟩
abbrev uX3_summed : MI := (yX3_summed, cX3_summed, 6, (some (.long)))
theorem code_X3_summed : Cond.code yX3_summed cX3_summed 6 (some (.long)) ∈ lw_g := List.mem_filter.mpr ⟨List.mem_of_getElem? (i := 829) (by decide +kernel), by decide +kernel⟩
abbrev uX5_load : MI := (yX5_load, cX5_load, 1, (some (.boolean)))
theorem code_X5_load : Cond.code yX5_load cX5_load 1 (some (.boolean)) ∈ lw_g := List.mem_filter.mpr ⟨List.mem_of_getElem? (i := 834) (by decide +kernel), by decide +kernel⟩
abbrev uX5_digest : MI := (yX5_digest, cX5_digest, 1, (some (.long)))
theorem code_X5_digest : Cond.code yX5_digest cX5_digest 1 (some (.long)) ∈ lw_g := List.mem_filter.mpr ⟨List.mem_of_getElem? (i := 838) (by decide +kernel), by decide +kernel⟩
abbrev uX5_status : MI := (yX5_status, cX5_status, 1, (some (.int)))
theorem code_X5_status : Cond.code yX5_status cX5_status 1 (some (.int)) ∈ lw_g := List.mem_filter.mpr ⟨List.mem_of_getElem? (i := 842) (by decide +kernel), by decide +kernel⟩
abbrev uX6_init : MI := (yX6_init, cX6_init, 2, none)
theorem code_X6_init : Cond.code yX6_init cX6_init 2 none ∈ lw_g := List.mem_filter.mpr ⟨List.mem_of_getElem? (i := 847) (by decide +kernel), by decide +kernel⟩
abbrev uX6_program : MI := (yX6_program, cX6_program, 8, (some (.int)))
theorem code_X6_program : Cond.code yX6_program cX6_program 8 (some (.int)) ∈ lw_g := List.mem_filter.mpr ⟨List.mem_of_getElem? (i := 879) (by decide +kernel), by decide +kernel⟩
abbrev uX6_isIn : MI := (yX6_isIn, cX6_isIn, 6, (some (.boolean)))
theorem code_X6_isIn : Cond.code yX6_isIn cX6_isIn 6 (some (.boolean)) ∈ lw_g := List.mem_filter.mpr ⟨List.mem_of_getElem? (i := 883) (by decide +kernel), by decide +kernel⟩
abbrev uX6_isRefused : MI := (yX6_isRefused, cX6_isRefused, 2, (some (.boolean)))
theorem code_X6_isRefused : Cond.code yX6_isRefused cX6_isRefused 2 (some (.boolean)) ∈ lw_g := List.mem_filter.mpr ⟨List.mem_of_getElem? (i := 889) (by decide +kernel), by decide +kernel⟩
abbrev uX6_task : MI := (yX6_task, cX6_task, 5, (some (.int)))
theorem code_X6_task : Cond.code yX6_task cX6_task 5 (some (.int)) ∈ lw_g := List.mem_filter.mpr ⟨List.mem_of_getElem? (i := 893) (by decide +kernel), by decide +kernel⟩
abbrev uX6_added : MI := (yX6_added, cX6_added, 11, (some (.int)))
theorem code_X6_added : Cond.code yX6_added cX6_added 11 (some (.int)) ∈ lw_g := List.mem_filter.mpr ⟨List.mem_of_getElem? (i := 899) (by decide +kernel), by decide +kernel⟩
abbrev uX6_get : MI := (yX6_get, cX6_get, 3, (some (.int)))
theorem code_X6_get : Cond.code yX6_get cX6_get 3 (some (.int)) ∈ lw_g := List.mem_filter.mpr ⟨List.mem_of_getElem? (i := 903) (by decide +kernel), by decide +kernel⟩
abbrev uX6_set : MI := (yX6_set, cX6_set, 4, none)
theorem code_X6_set : Cond.code yX6_set cX6_set 4 none ∈ lw_g := List.mem_filter.mpr ⟨List.mem_of_getElem? (i := 907) (by decide +kernel), by decide +kernel⟩
abbrev uX6_share : MI := (yX6_share, cX6_share, 4, (some (.int)))
theorem code_X6_share : Cond.code yX6_share cX6_share 4 (some (.int)) ∈ lw_g := List.mem_filter.mpr ⟨List.mem_of_getElem? (i := 911) (by decide +kernel), by decide +kernel⟩
abbrev uX6_isLiving : MI := (yX6_isLiving, cX6_isLiving, 2, (some (.boolean)))
theorem code_X6_isLiving : Cond.code yX6_isLiving cX6_isLiving 2 (some (.boolean)) ∈ lw_g := List.mem_filter.mpr ⟨List.mem_of_getElem? (i := 915) (by decide +kernel), by decide +kernel⟩
abbrev uX6_isTask : MI := (yX6_isTask, cX6_isTask, 2, (some (.boolean)))
theorem code_X6_isTask : Cond.code yX6_isTask cX6_isTask 2 (some (.boolean)) ∈ lw_g := List.mem_filter.mpr ⟨List.mem_of_getElem? (i := 919) (by decide +kernel), by decide +kernel⟩
abbrev uX6_deadline : MI := (yX6_deadline, cX6_deadline, 5, (some (.boolean)))
theorem code_X6_deadline : Cond.code yX6_deadline cX6_deadline 5 (some (.boolean)) ∈ lw_g := List.mem_filter.mpr ⟨List.mem_of_getElem? (i := 924) (by decide +kernel), by decide +kernel⟩
abbrev uX6_isDue : MI := (yX6_isDue, cX6_isDue, 2, (some (.boolean)))
theorem code_X6_isDue : Cond.code yX6_isDue cX6_isDue 2 (some (.boolean)) ∈ lw_g := List.mem_filter.mpr ⟨List.mem_of_getElem? (i := 928) (by decide +kernel), by decide +kernel⟩
abbrev uX6_processors : MI := (yX6_processors, cX6_processors, 3, (some (.int)))
theorem code_X6_processors : Cond.code yX6_processors cX6_processors 3 (some (.int)) ∈ lw_g := List.mem_filter.mpr ⟨List.mem_of_getElem? (i := 932) (by decide +kernel), by decide +kernel⟩
abbrev uX6_lock : MI := (yX6_lock, cX6_lock, 2, (some (.boolean)))
theorem code_X6_lock : Cond.code yX6_lock cX6_lock 2 (some (.boolean)) ∈ lw_g := List.mem_filter.mpr ⟨List.mem_of_getElem? (i := 936) (by decide +kernel), by decide +kernel⟩
abbrev uX6_ring : MI := (yX6_ring, cX6_ring, 2, (some (.int)))
theorem code_X6_ring : Cond.code yX6_ring cX6_ring 2 (some (.int)) ∈ lw_g := List.mem_filter.mpr ⟨List.mem_of_getElem? (i := 941) (by decide +kernel), by decide +kernel⟩
abbrev uX6_ringBell : MI := (yX6_ringBell, cX6_ringBell, 4, (some (.int)))
theorem code_X6_ringBell : Cond.code yX6_ringBell cX6_ringBell 4 (some (.int)) ∈ lw_g := List.mem_filter.mpr ⟨List.mem_of_getElem? (i := 946) (by decide +kernel), by decide +kernel⟩
abbrev uX6_isReadyNow : MI := (yX6_isReadyNow, cX6_isReadyNow, 2, none)
theorem code_X6_isReadyNow : Cond.code yX6_isReadyNow cX6_isReadyNow 2 none ∈ lw_g := List.mem_filter.mpr ⟨List.mem_of_getElem? (i := 950) (by decide +kernel), by decide +kernel⟩
abbrev uX6_run : MI := (yX6_run, cX6_run, 3, (some (.int)))
theorem code_X6_run : Cond.code yX6_run cX6_run 3 (some (.int)) ∈ lw_g := List.mem_filter.mpr ⟨List.mem_of_getElem? (i := 954) (by decide +kernel), by decide +kernel⟩
abbrev uX6_tick : MI := (yX6_tick, cX6_tick, 2, none)
theorem code_X6_tick : Cond.code yX6_tick cX6_tick 2 none ∈ lw_g := List.mem_filter.mpr ⟨List.mem_of_getElem? (i := 958) (by decide +kernel), by decide +kernel⟩
abbrev uX6_wakes : MI := (yX6_wakes, cX6_wakes, 3, none)
theorem code_X6_wakes : Cond.code yX6_wakes cX6_wakes 3 none ∈ lw_g := List.mem_filter.mpr ⟨List.mem_of_getElem? (i := 962) (by decide +kernel), by decide +kernel⟩
abbrev uX6_body : MI := (yX6_body, cX6_body, 2, none)
theorem code_X6_body : Cond.code yX6_body cX6_body 2 none ∈ lw_g := List.mem_filter.mpr ⟨List.mem_of_getElem? (i := 966) (by decide +kernel), by decide +kernel⟩
abbrev uX6_chooses : MI := (yX6_chooses, cX6_chooses, 6, none)
theorem code_X6_chooses : Cond.code yX6_chooses cX6_chooses 6 none ∈ lw_g := List.mem_filter.mpr ⟨List.mem_of_getElem? (i := 970) (by decide +kernel), by decide +kernel⟩
abbrev uX6_standingOf : MI := (yX6_standingOf, cX6_standingOf, 6, (some (.int)))
theorem code_X6_standingOf : Cond.code yX6_standingOf cX6_standingOf 6 (some (.int)) ∈ lw_g := List.mem_filter.mpr ⟨List.mem_of_getElem? (i := 974) (by decide +kernel), by decide +kernel⟩
abbrev uX6_isAhead : MI := (yX6_isAhead, cX6_isAhead, 3, (some (.boolean)))
theorem code_X6_isAhead : Cond.code yX6_isAhead cX6_isAhead 3 (some (.boolean)) ∈ lw_g := List.mem_filter.mpr ⟨List.mem_of_getElem? (i := 978) (by decide +kernel), by decide +kernel⟩
abbrev uX6_classOf : MI := (yX6_classOf, cX6_classOf, 2, (some (.int)))
theorem code_X6_classOf : Cond.code yX6_classOf cX6_classOf 2 (some (.int)) ∈ lw_g := List.mem_filter.mpr ⟨List.mem_of_getElem? (i := 982) (by decide +kernel), by decide +kernel⟩
abbrev uX6_keyOf : MI := (yX6_keyOf, cX6_keyOf, 2, (some (.long)))
theorem code_X6_keyOf : Cond.code yX6_keyOf cX6_keyOf 2 (some (.long)) ∈ lw_g := List.mem_filter.mpr ⟨List.mem_of_getElem? (i := 986) (by decide +kernel), by decide +kernel⟩
abbrev uX6_puts : MI := (yX6_puts, cX6_puts, 9, none)
theorem code_X6_puts : Cond.code yX6_puts cX6_puts 9 none ∈ lw_g := List.mem_filter.mpr ⟨List.mem_of_getElem? (i := 990) (by decide +kernel), by decide +kernel⟩
abbrev uX6_turn : MI := (yX6_turn, cX6_turn, 3, none)
theorem code_X6_turn : Cond.code yX6_turn cX6_turn 3 none ∈ lw_g := List.mem_filter.mpr ⟨List.mem_of_getElem? (i := 996) (by decide +kernel), by decide +kernel⟩
abbrev uX6_pays : MI := (yX6_pays, cX6_pays, 6, none)
theorem code_X6_pays : Cond.code yX6_pays cX6_pays 6 none ∈ lw_g := List.mem_filter.mpr ⟨List.mem_of_getElem? (i := 1000) (by decide +kernel), by decide +kernel⟩
abbrev uX6_pay : MI := (yX6_pay, cX6_pay, 3, (some (.int)))
theorem code_X6_pay : Cond.code yX6_pay cX6_pay 3 (some (.int)) ∈ lw_g := List.mem_filter.mpr ⟨List.mem_of_getElem? (i := 1004) (by decide +kernel), by decide +kernel⟩
abbrev uX6_act : MI := (yX6_act, cX6_act, 8, (some (.int)))
theorem code_X6_act : Cond.code yX6_act cX6_act 8 (some (.int)) ∈ lw_g := List.mem_filter.mpr ⟨List.mem_of_getElem? (i := 1008) (by decide +kernel), by decide +kernel⟩
abbrev uX6_takesLock : MI := (yX6_takesLock, cX6_takesLock, 7, (some (.int)))
theorem code_X6_takesLock : Cond.code yX6_takesLock cX6_takesLock 7 (some (.int)) ∈ lw_g := List.mem_filter.mpr ⟨List.mem_of_getElem? (i := 1013) (by decide +kernel), by decide +kernel⟩
abbrev uX6_waits : MI := (yX6_waits, cX6_waits, 6, none)
theorem code_X6_waits : Cond.code yX6_waits cX6_waits 6 none ∈ lw_g := List.mem_filter.mpr ⟨List.mem_of_getElem? (i := 1017) (by decide +kernel), by decide +kernel⟩
abbrev uX6_givesLock : MI := (yX6_givesLock, cX6_givesLock, 3, (some (.int)))
theorem code_X6_givesLock : Cond.code yX6_givesLock cX6_givesLock 3 (some (.int)) ∈ lw_g := List.mem_filter.mpr ⟨List.mem_of_getElem? (i := 1021) (by decide +kernel), by decide +kernel⟩
abbrev uX6_passes : MI := (yX6_passes, cX6_passes, 6, none)
theorem code_X6_passes : Cond.code yX6_passes cX6_passes 6 none ∈ lw_g := List.mem_filter.mpr ⟨List.mem_of_getElem? (i := 1025) (by decide +kernel), by decide +kernel⟩
abbrev uX6_forks : MI := (yX6_forks, cX6_forks, 4, (some (.int)))
theorem code_X6_forks : Cond.code yX6_forks cX6_forks 4 (some (.int)) ∈ lw_g := List.mem_filter.mpr ⟨List.mem_of_getElem? (i := 1029) (by decide +kernel), by decide +kernel⟩
abbrev uX6_says : MI := (yX6_says, cX6_says, 3, (some (.int)))
theorem code_X6_says : Cond.code yX6_says cX6_says 3 (some (.int)) ∈ lw_g := List.mem_filter.mpr ⟨List.mem_of_getElem? (i := 1033) (by decide +kernel), by decide +kernel⟩
abbrev uX6_isOf : MI := (yX6_isOf, cX6_isOf, 2, (some (.boolean)))
theorem code_X6_isOf : Cond.code yX6_isOf cX6_isOf 2 (some (.boolean)) ∈ lw_g := List.mem_filter.mpr ⟨List.mem_of_getElem? (i := 1036) (by decide +kernel), by decide +kernel⟩
abbrev uX6_smalls : MI := (yX6_smalls, cX6_smalls, 5, (some (.int)))
theorem code_X6_smalls : Cond.code yX6_smalls cX6_smalls 5 (some (.int)) ∈ lw_g := List.mem_filter.mpr ⟨List.mem_of_getElem? (i := 1041) (by decide +kernel), by decide +kernel⟩
abbrev uX6_ends : MI := (yX6_ends, cX6_ends, 4, none)
theorem code_X6_ends : Cond.code yX6_ends cX6_ends 4 none ∈ lw_g := List.mem_filter.mpr ⟨List.mem_of_getElem? (i := 1045) (by decide +kernel), by decide +kernel⟩
abbrev uX6_chosen : MI := (yX6_chosen, cX6_chosen, 2, (some (.int)))
theorem code_X6_chosen : Cond.code yX6_chosen cX6_chosen 2 (some (.int)) ∈ lw_g := List.mem_filter.mpr ⟨List.mem_of_getElem? (i := 1049) (by decide +kernel), by decide +kernel⟩
abbrev uX6_about : MI := (yX6_about, cX6_about, 3, (some (.int)))
theorem code_X6_about : Cond.code yX6_about cX6_about 3 (some (.int)) ∈ lw_g := List.mem_filter.mpr ⟨List.mem_of_getElem? (i := 1053) (by decide +kernel), by decide +kernel⟩
abbrev uX6_virtual : MI := (yX6_virtual, cX6_virtual, 2, (some (.long)))
theorem code_X6_virtual : Cond.code yX6_virtual cX6_virtual 2 (some (.long)) ∈ lw_g := List.mem_filter.mpr ⟨List.mem_of_getElem? (i := 1060) (by decide +kernel), by decide +kernel⟩
abbrev uX6_small : MI := (yX6_small, cX6_small, 3, (some (.int)))
theorem code_X6_small : Cond.code yX6_small cX6_small 3 (some (.int)) ∈ lw_g := List.mem_filter.mpr ⟨List.mem_of_getElem? (i := 1065) (by decide +kernel), by decide +kernel⟩
abbrev uX6_standing : MI := (yX6_standing, cX6_standing, 4, (some (.long)))
theorem code_X6_standing : Cond.code yX6_standing cX6_standing 4 (some (.long)) ∈ lw_g := List.mem_filter.mpr ⟨List.mem_of_getElem? (i := 1069) (by decide +kernel), by decide +kernel⟩
abbrev uX6_holder : MI := (yX6_holder, cX6_holder, 2, (some (.int)))
theorem code_X6_holder : Cond.code yX6_holder cX6_holder 2 (some (.int)) ∈ lw_g := List.mem_filter.mpr ⟨List.mem_of_getElem? (i := 1074) (by decide +kernel), by decide +kernel⟩
abbrev uX6_ringed : MI := (yX6_ringed, cX6_ringed, 2, (some (.int)))
theorem code_X6_ringed : Cond.code yX6_ringed cX6_ringed 2 (some (.int)) ∈ lw_g := List.mem_filter.mpr ⟨List.mem_of_getElem? (i := 1078) (by decide +kernel), by decide +kernel⟩
abbrev uX6_row : MI := (yX6_row, cX6_row, 3, (some (.int)))
theorem code_X6_row : Cond.code yX6_row cX6_row 3 (some (.int)) ∈ lw_g := List.mem_filter.mpr ⟨List.mem_of_getElem? (i := 1082) (by decide +kernel), by decide +kernel⟩
abbrev uX6_isRow : MI := (yX6_isRow, cX6_isRow, 3, (some (.boolean)))
theorem code_X6_isRow : Cond.code yX6_isRow cX6_isRow 3 (some (.boolean)) ∈ lw_g := List.mem_filter.mpr ⟨List.mem_of_getElem? (i := 1086) (by decide +kernel), by decide +kernel⟩
abbrev uX6_forge : MI := (yX6_forge, cX6_forge, 4, (some (.boolean)))
theorem code_X6_forge : Cond.code yX6_forge cX6_forge 4 (some (.boolean)) ∈ lw_g := List.mem_filter.mpr ⟨List.mem_of_getElem? (i := 1090) (by decide +kernel), by decide +kernel⟩
abbrev uX6_check : MI := (yX6_check, cX6_check, 2, (some (.int)))
theorem code_X6_check : Cond.code yX6_check cX6_check 2 (some (.int)) ∈ lw_g := List.mem_filter.mpr ⟨List.mem_of_getElem? (i := 1094) (by decide +kernel), by decide +kernel⟩
abbrev uX6_checkedTo : MI := (yX6_checkedTo, cX6_checkedTo, 1, (some (.int)))
theorem code_X6_checkedTo : Cond.code yX6_checkedTo cX6_checkedTo 1 (some (.int)) ∈ lw_g := List.mem_filter.mpr ⟨List.mem_of_getElem? (i := 1098) (by decide +kernel), by decide +kernel⟩
abbrev uX6_bound : MI := (yX6_bound, cX6_bound, 12, (some (.long)))
theorem code_X6_bound : Cond.code yX6_bound cX6_bound 12 (some (.long)) ∈ lw_g := List.mem_filter.mpr ⟨List.mem_of_getElem? (i := 1102) (by decide +kernel), by decide +kernel⟩
abbrev uX6_payments : MI := (yX6_payments, cX6_payments, 9, (some (.long)))
theorem code_X6_payments : Cond.code yX6_payments cX6_payments 9 (some (.long)) ∈ lw_g := List.mem_filter.mpr ⟨List.mem_of_getElem? (i := 1106) (by decide +kernel), by decide +kernel⟩
abbrev uX6_trace : MI := (yX6_trace, cX6_trace, 2, (some (.int)))
theorem code_X6_trace : Cond.code yX6_trace cX6_trace 2 (some (.int)) ∈ lw_g := List.mem_filter.mpr ⟨List.mem_of_getElem? (i := 1112) (by decide +kernel), by decide +kernel⟩
abbrev uX6_count : MI := (yX6_count, cX6_count, 5, (some (.int)))
theorem code_X6_count : Cond.code yX6_count cX6_count 5 (some (.int)) ∈ lw_g := List.mem_filter.mpr ⟨List.mem_of_getElem? (i := 1117) (by decide +kernel), by decide +kernel⟩
abbrev uX6_image : MI := (yX6_image, cX6_image, 2, (some (.long)))
theorem code_X6_image : Cond.code yX6_image cX6_image 2 (some (.long)) ∈ lw_g := List.mem_filter.mpr ⟨List.mem_of_getElem? (i := 1121) (by decide +kernel), by decide +kernel⟩
abbrev uX6_digest : MI := (yX6_digest, cX6_digest, 5, (some (.long)))
theorem code_X6_digest : Cond.code yX6_digest cX6_digest 5 (some (.long)) ∈ lw_g := List.mem_filter.mpr ⟨List.mem_of_getElem? (i := 1125) (by decide +kernel), by decide +kernel⟩
abbrev uX6_load : MI := (yX6_load, cX6_load, 2, (some (.boolean)))
theorem code_X6_load : Cond.code yX6_load cX6_load 2 (some (.boolean)) ∈ lw_g := List.mem_filter.mpr ⟨List.mem_of_getElem? (i := 1131) (by decide +kernel), by decide +kernel⟩
abbrev uX6_status : MI := (yX6_status, cX6_status, 1, (some (.int)))
theorem code_X6_status : Cond.code yX6_status cX6_status 1 (some (.int)) ∈ lw_g := List.mem_filter.mpr ⟨List.mem_of_getElem? (i := 1136) (by decide +kernel), by decide +kernel⟩
theorem cl_L_7 : Cond.classLink RL 7 RX5 ∈ lw_g := List.mem_filter.mpr ⟨List.mem_of_getElem? (i := 119) (by decide +kernel), by decide +kernel⟩
theorem ins_X5 : Cond.instantiable RX5 7 ∈ lw_g := List.mem_filter.mpr ⟨List.mem_of_getElem? (i := 120) (by decide +kernel), by decide +kernel⟩
theorem lkm_L_9 : Cond.methodLink RL 9 yX5_init ∈ lw_g := List.mem_filter.mpr ⟨List.mem_of_getElem? (i := 121) (by decide +kernel), by decide +kernel⟩
theorem lk_L_9 : LK RL 9 yX5_init := Or.inl lkm_L_9
theorem im_X5_init : Cond.instanceMethod yX5_init ∈ lw_g := List.mem_filter.mpr ⟨List.mem_of_getElem? (i := 122) (by decide +kernel), by decide +kernel⟩
theorem cm_X5_init : CM uX5_init 0 := ⟨code_X5_init, ini_X5, ⟨by decide +kernel, by decide +kernel⟩, by decide +kernel, by decide⟩
theorem lkm_X5_3 : Cond.methodLink RX5 3 objectInit ∈ lw_g := List.mem_filter.mpr ⟨List.mem_of_getElem? (i := 124) (by decide +kernel), by decide +kernel⟩
theorem lk_X5_3 : LK RX5 3 objectInit := Or.inl lkm_X5_3
theorem im_obj : Cond.instanceMethod objectInit ∈ lw_g := List.mem_filter.mpr ⟨List.mem_of_getElem? (i := 125) (by decide +kernel), by decide +kernel⟩
theorem cl_X5_9 : Cond.classLink RX5 9 RX0 ∈ lw_g := List.mem_filter.mpr ⟨List.mem_of_getElem? (i := 127) (by decide +kernel), by decide +kernel⟩
theorem ins_X0 : Cond.instantiable RX0 12 ∈ lw_g := List.mem_filter.mpr ⟨List.mem_of_getElem? (i := 128) (by decide +kernel), by decide +kernel⟩
theorem lk_X5_11 : LK RX5 11 yX0_init := Or.inr ⟨"FairWheel", List.mem_filter.mpr ⟨List.mem_of_getElem? (i := 129) (by decide +kernel), by decide +kernel⟩⟩
theorem im_X0_init : Cond.instanceMethod yX0_init ∈ lw_g := List.mem_filter.mpr ⟨List.mem_of_getElem? (i := 130) (by decide +kernel), by decide +kernel⟩
theorem cm_X0_init : CM uX0_init 0 := ⟨code_X0_init, ini_X0, ⟨by decide +kernel, by decide +kernel⟩, by decide +kernel, by decide⟩
theorem lkm_X0_3 : Cond.methodLink RX0 3 objectInit ∈ lw_g := List.mem_filter.mpr ⟨List.mem_of_getElem? (i := 132) (by decide +kernel), by decide +kernel⟩
theorem lk_X0_3 : LK RX0 3 objectInit := Or.inl lkm_X0_3
theorem cl_X0_9 : Cond.classLink RX0 9 RX4 ∈ lw_g := List.mem_filter.mpr ⟨List.mem_of_getElem? (i := 133) (by decide +kernel), by decide +kernel⟩
theorem ao_X4 : Cond.arrayOver (.object RX4) ∈ lw_g := List.mem_filter.mpr ⟨List.mem_of_getElem? (i := 134) (by decide +kernel), by decide +kernel⟩
theorem cl_X0_17 : Cond.classLink RX0 17 RX2 ∈ lw_g := List.mem_filter.mpr ⟨List.mem_of_getElem? (i := 135) (by decide +kernel), by decide +kernel⟩
theorem ao_X2 : Cond.arrayOver (.object RX2) ∈ lw_g := List.mem_filter.mpr ⟨List.mem_of_getElem? (i := 136) (by decide +kernel), by decide +kernel⟩
theorem cl_X0_23 : Cond.classLink RX0 23 RX3 ∈ lw_g := List.mem_filter.mpr ⟨List.mem_of_getElem? (i := 137) (by decide +kernel), by decide +kernel⟩
theorem ins_X3 : Cond.instantiable RX3 2 ∈ lw_g := List.mem_filter.mpr ⟨List.mem_of_getElem? (i := 138) (by decide +kernel), by decide +kernel⟩
theorem lk_X0_25 : LK RX0 25 yX3_init := Or.inr ⟨"FairWheel", List.mem_filter.mpr ⟨List.mem_of_getElem? (i := 139) (by decide +kernel), by decide +kernel⟩⟩
theorem im_X3_init : Cond.instanceMethod yX3_init ∈ lw_g := List.mem_filter.mpr ⟨List.mem_of_getElem? (i := 140) (by decide +kernel), by decide +kernel⟩
theorem cm_X3_init : CM uX3_init 0 := ⟨code_X3_init, ini_X3, ⟨by decide +kernel, by decide +kernel⟩, by decide +kernel, by decide⟩
theorem lkm_X3_3 : Cond.methodLink RX3 3 objectInit ∈ lw_g := List.mem_filter.mpr ⟨List.mem_of_getElem? (i := 142) (by decide +kernel), by decide +kernel⟩
theorem lk_X3_3 : LK RX3 3 objectInit := Or.inl lkm_X3_3
theorem fl_X3_9m : Cond.fieldLink RX3 9 (TX3 0).1 (TX3 0).2.1 (TX3 0).2.2.1 ∈ lw_g := List.mem_filter.mpr ⟨List.mem_of_getElem? (i := 143) (by decide +kernel), by decide +kernel⟩
theorem fl_X3_9 : FL RX3 9 3 0 := ⟨_, rfl, by decide, Or.inl fl_X3_9m⟩
theorem fl_X0_72 : FL RX0 72 3 0 := ⟨_, rfl, by decide, Or.inr ⟨"FairWheel", List.mem_filter.mpr ⟨List.mem_of_getElem? (i := 144) (by decide +kernel), by decide +kernel⟩⟩⟩
theorem fl_X5_194 : FL RX5 194 3 0 := ⟨_, rfl, by decide, Or.inr ⟨"FairWheel", List.mem_filter.mpr ⟨List.mem_of_getElem? (i := 145) (by decide +kernel), by decide +kernel⟩⟩⟩
theorem fl_X3_15m : Cond.fieldLink RX3 15 (TX3 1).1 (TX3 1).2.1 (TX3 1).2.2.1 ∈ lw_g := List.mem_filter.mpr ⟨List.mem_of_getElem? (i := 146) (by decide +kernel), by decide +kernel⟩
theorem fl_X3_15 : FL RX3 15 3 1 := ⟨_, rfl, by decide, Or.inl fl_X3_15m⟩
theorem ac_int : Cond.arrayClass .int ∈ lw_g := List.mem_filter.mpr ⟨List.mem_of_getElem? (i := 152) (by decide +kernel), by decide +kernel⟩
theorem ins_X4 : Cond.instantiable RX4 19 ∈ lw_g := List.mem_filter.mpr ⟨List.mem_of_getElem? (i := 153) (by decide +kernel), by decide +kernel⟩
theorem lk_X0_59 : LK RX0 59 yX4_init := Or.inr ⟨"FairWheel", List.mem_filter.mpr ⟨List.mem_of_getElem? (i := 154) (by decide +kernel), by decide +kernel⟩⟩
theorem im_X4_init : Cond.instanceMethod yX4_init ∈ lw_g := List.mem_filter.mpr ⟨List.mem_of_getElem? (i := 155) (by decide +kernel), by decide +kernel⟩
theorem cm_X4_init : CM uX4_init 1 := ⟨code_X4_init, ini_X4, ⟨by decide +kernel, by decide +kernel⟩, by decide +kernel, by decide⟩
theorem lkm_X4_3 : Cond.methodLink RX4 3 objectInit ∈ lw_g := List.mem_filter.mpr ⟨List.mem_of_getElem? (i := 157) (by decide +kernel), by decide +kernel⟩
theorem lk_X4_3 : LK RX4 3 objectInit := Or.inl lkm_X4_3
theorem fl_X4_68m : Cond.fieldLink RX4 68 (TX4 0).1 (TX4 0).2.1 (TX4 0).2.2.1 ∈ lw_g := List.mem_filter.mpr ⟨List.mem_of_getElem? (i := 158) (by decide +kernel), by decide +kernel⟩
theorem fl_X4_68 : FL RX4 68 4 0 := ⟨_, rfl, by decide, Or.inl fl_X4_68m⟩
theorem fl_X0_108 : FL RX0 108 4 0 := ⟨_, rfl, by decide, Or.inr ⟨"FairWheel", List.mem_filter.mpr ⟨List.mem_of_getElem? (i := 159) (by decide +kernel), by decide +kernel⟩⟩⟩
theorem fl_X4_9m : Cond.fieldLink RX4 9 (TX4 1).1 (TX4 1).2.1 (TX4 1).2.2.1 ∈ lw_g := List.mem_filter.mpr ⟨List.mem_of_getElem? (i := 160) (by decide +kernel), by decide +kernel⟩
theorem fl_X4_9 : FL RX4 9 4 1 := ⟨_, rfl, by decide, Or.inl fl_X4_9m⟩
theorem fl_X0_204 : FL RX0 204 4 1 := ⟨_, rfl, by decide, Or.inr ⟨"FairWheel", List.mem_filter.mpr ⟨List.mem_of_getElem? (i := 161) (by decide +kernel), by decide +kernel⟩⟩⟩
theorem fl_X4_15m : Cond.fieldLink RX4 15 (TX4 2).1 (TX4 2).2.1 (TX4 2).2.2.1 ∈ lw_g := List.mem_filter.mpr ⟨List.mem_of_getElem? (i := 162) (by decide +kernel), by decide +kernel⟩
theorem fl_X4_15 : FL RX4 15 4 2 := ⟨_, rfl, by decide, Or.inl fl_X4_15m⟩
theorem fl_X0_219 : FL RX0 219 4 2 := ⟨_, rfl, by decide, Or.inr ⟨"FairWheel", List.mem_filter.mpr ⟨List.mem_of_getElem? (i := 163) (by decide +kernel), by decide +kernel⟩⟩⟩
theorem fl_X4_18m : Cond.fieldLink RX4 18 (TX4 3).1 (TX4 3).2.1 (TX4 3).2.2.1 ∈ lw_g := List.mem_filter.mpr ⟨List.mem_of_getElem? (i := 164) (by decide +kernel), by decide +kernel⟩
theorem fl_X4_18 : FL RX4 18 4 3 := ⟨_, rfl, by decide, Or.inl fl_X4_18m⟩
theorem fl_X0_289 : FL RX0 289 4 3 := ⟨_, rfl, by decide, Or.inr ⟨"FairWheel", List.mem_filter.mpr ⟨List.mem_of_getElem? (i := 165) (by decide +kernel), by decide +kernel⟩⟩⟩
theorem fl_X4_21m : Cond.fieldLink RX4 21 (TX4 4).1 (TX4 4).2.1 (TX4 4).2.2.1 ∈ lw_g := List.mem_filter.mpr ⟨List.mem_of_getElem? (i := 166) (by decide +kernel), by decide +kernel⟩
theorem fl_X4_21 : FL RX4 21 4 4 := ⟨_, rfl, by decide, Or.inl fl_X4_21m⟩
theorem fl_X0_111 : FL RX0 111 4 4 := ⟨_, rfl, by decide, Or.inr ⟨"FairWheel", List.mem_filter.mpr ⟨List.mem_of_getElem? (i := 167) (by decide +kernel), by decide +kernel⟩⟩⟩
theorem fl_X5_120 : FL RX5 120 4 4 := ⟨_, rfl, by decide, Or.inr ⟨"FairWheel", List.mem_filter.mpr ⟨List.mem_of_getElem? (i := 168) (by decide +kernel), by decide +kernel⟩⟩⟩
theorem fl_X4_25m : Cond.fieldLink RX4 25 (TX4 5).1 (TX4 5).2.1 (TX4 5).2.2.1 ∈ lw_g := List.mem_filter.mpr ⟨List.mem_of_getElem? (i := 169) (by decide +kernel), by decide +kernel⟩
theorem fl_X4_25 : FL RX4 25 4 5 := ⟨_, rfl, by decide, Or.inl fl_X4_25m⟩
theorem fl_X4_28m : Cond.fieldLink RX4 28 (TX4 6).1 (TX4 6).2.1 (TX4 6).2.2.1 ∈ lw_g := List.mem_filter.mpr ⟨List.mem_of_getElem? (i := 170) (by decide +kernel), by decide +kernel⟩
theorem fl_X4_28 : FL RX4 28 4 6 := ⟨_, rfl, by decide, Or.inl fl_X4_28m⟩
theorem fl_X0_216 : FL RX0 216 4 6 := ⟨_, rfl, by decide, Or.inr ⟨"FairWheel", List.mem_filter.mpr ⟨List.mem_of_getElem? (i := 171) (by decide +kernel), by decide +kernel⟩⟩⟩
theorem fl_X4_31m : Cond.fieldLink RX4 31 (TX4 7).1 (TX4 7).2.1 (TX4 7).2.2.1 ∈ lw_g := List.mem_filter.mpr ⟨List.mem_of_getElem? (i := 172) (by decide +kernel), by decide +kernel⟩
theorem fl_X4_31 : FL RX4 31 4 7 := ⟨_, rfl, by decide, Or.inl fl_X4_31m⟩
theorem fl_X0_226 : FL RX0 226 4 7 := ⟨_, rfl, by decide, Or.inr ⟨"FairWheel", List.mem_filter.mpr ⟨List.mem_of_getElem? (i := 173) (by decide +kernel), by decide +kernel⟩⟩⟩
theorem fl_X4_34m : Cond.fieldLink RX4 34 (TX4 8).1 (TX4 8).2.1 (TX4 8).2.2.1 ∈ lw_g := List.mem_filter.mpr ⟨List.mem_of_getElem? (i := 174) (by decide +kernel), by decide +kernel⟩
theorem fl_X4_34 : FL RX4 34 4 8 := ⟨_, rfl, by decide, Or.inl fl_X4_34m⟩
theorem fl_X0_93 : FL RX0 93 4 8 := ⟨_, rfl, by decide, Or.inr ⟨"FairWheel", List.mem_filter.mpr ⟨List.mem_of_getElem? (i := 175) (by decide +kernel), by decide +kernel⟩⟩⟩
theorem fl_X5_181 : FL RX5 181 4 8 := ⟨_, rfl, by decide, Or.inr ⟨"FairWheel", List.mem_filter.mpr ⟨List.mem_of_getElem? (i := 176) (by decide +kernel), by decide +kernel⟩⟩⟩
theorem fl_X4_37m : Cond.fieldLink RX4 37 (TX4 9).1 (TX4 9).2.1 (TX4 9).2.2.1 ∈ lw_g := List.mem_filter.mpr ⟨List.mem_of_getElem? (i := 177) (by decide +kernel), by decide +kernel⟩
theorem fl_X4_37 : FL RX4 37 4 9 := ⟨_, rfl, by decide, Or.inl fl_X4_37m⟩
theorem fl_X0_115 : FL RX0 115 4 9 := ⟨_, rfl, by decide, Or.inr ⟨"FairWheel", List.mem_filter.mpr ⟨List.mem_of_getElem? (i := 178) (by decide +kernel), by decide +kernel⟩⟩⟩
theorem fl_X4_40m : Cond.fieldLink RX4 40 (TX4 10).1 (TX4 10).2.1 (TX4 10).2.2.1 ∈ lw_g := List.mem_filter.mpr ⟨List.mem_of_getElem? (i := 179) (by decide +kernel), by decide +kernel⟩
theorem fl_X4_40 : FL RX4 40 4 10 := ⟨_, rfl, by decide, Or.inl fl_X4_40m⟩
theorem fl_X0_138 : FL RX0 138 4 10 := ⟨_, rfl, by decide, Or.inr ⟨"FairWheel", List.mem_filter.mpr ⟨List.mem_of_getElem? (i := 180) (by decide +kernel), by decide +kernel⟩⟩⟩
theorem fl_X4_43m : Cond.fieldLink RX4 43 (TX4 11).1 (TX4 11).2.1 (TX4 11).2.2.1 ∈ lw_g := List.mem_filter.mpr ⟨List.mem_of_getElem? (i := 181) (by decide +kernel), by decide +kernel⟩
theorem fl_X4_43 : FL RX4 43 4 11 := ⟨_, rfl, by decide, Or.inl fl_X4_43m⟩
theorem fl_X0_210 : FL RX0 210 4 11 := ⟨_, rfl, by decide, Or.inr ⟨"FairWheel", List.mem_filter.mpr ⟨List.mem_of_getElem? (i := 182) (by decide +kernel), by decide +kernel⟩⟩⟩
theorem fl_X4_46m : Cond.fieldLink RX4 46 (TX4 12).1 (TX4 12).2.1 (TX4 12).2.2.1 ∈ lw_g := List.mem_filter.mpr ⟨List.mem_of_getElem? (i := 183) (by decide +kernel), by decide +kernel⟩
theorem fl_X4_46 : FL RX4 46 4 12 := ⟨_, rfl, by decide, Or.inl fl_X4_46m⟩
theorem fl_X0_153 : FL RX0 153 4 12 := ⟨_, rfl, by decide, Or.inr ⟨"FairWheel", List.mem_filter.mpr ⟨List.mem_of_getElem? (i := 184) (by decide +kernel), by decide +kernel⟩⟩⟩
theorem fl_X4_49m : Cond.fieldLink RX4 49 (TX4 13).1 (TX4 13).2.1 (TX4 13).2.2.1 ∈ lw_g := List.mem_filter.mpr ⟨List.mem_of_getElem? (i := 185) (by decide +kernel), by decide +kernel⟩
theorem fl_X4_49 : FL RX4 49 4 13 := ⟨_, rfl, by decide, Or.inl fl_X4_49m⟩
theorem fl_X0_156 : FL RX0 156 4 13 := ⟨_, rfl, by decide, Or.inr ⟨"FairWheel", List.mem_filter.mpr ⟨List.mem_of_getElem? (i := 186) (by decide +kernel), by decide +kernel⟩⟩⟩
theorem fl_X4_52m : Cond.fieldLink RX4 52 (TX4 14).1 (TX4 14).2.1 (TX4 14).2.2.1 ∈ lw_g := List.mem_filter.mpr ⟨List.mem_of_getElem? (i := 187) (by decide +kernel), by decide +kernel⟩
theorem fl_X4_52 : FL RX4 52 4 14 := ⟨_, rfl, by decide, Or.inl fl_X4_52m⟩
theorem fl_X0_150 : FL RX0 150 4 14 := ⟨_, rfl, by decide, Or.inr ⟨"FairWheel", List.mem_filter.mpr ⟨List.mem_of_getElem? (i := 188) (by decide +kernel), by decide +kernel⟩⟩⟩
theorem fl_X4_55m : Cond.fieldLink RX4 55 (TX4 15).1 (TX4 15).2.1 (TX4 15).2.2.1 ∈ lw_g := List.mem_filter.mpr ⟨List.mem_of_getElem? (i := 189) (by decide +kernel), by decide +kernel⟩
theorem fl_X4_55 : FL RX4 55 4 15 := ⟨_, rfl, by decide, Or.inl fl_X4_55m⟩
theorem fl_X0_201 : FL RX0 201 4 15 := ⟨_, rfl, by decide, Or.inr ⟨"FairWheel", List.mem_filter.mpr ⟨List.mem_of_getElem? (i := 190) (by decide +kernel), by decide +kernel⟩⟩⟩
theorem fl_X4_58m : Cond.fieldLink RX4 58 (TX4 16).1 (TX4 16).2.1 (TX4 16).2.2.1 ∈ lw_g := List.mem_filter.mpr ⟨List.mem_of_getElem? (i := 191) (by decide +kernel), by decide +kernel⟩
theorem fl_X4_58 : FL RX4 58 4 16 := ⟨_, rfl, by decide, Or.inl fl_X4_58m⟩
theorem fl_X0_296 : FL RX0 296 4 16 := ⟨_, rfl, by decide, Or.inr ⟨"FairWheel", List.mem_filter.mpr ⟨List.mem_of_getElem? (i := 192) (by decide +kernel), by decide +kernel⟩⟩⟩
theorem fl_X4_61m : Cond.fieldLink RX4 61 (TX4 17).1 (TX4 17).2.1 (TX4 17).2.2.1 ∈ lw_g := List.mem_filter.mpr ⟨List.mem_of_getElem? (i := 193) (by decide +kernel), by decide +kernel⟩
theorem fl_X4_61 : FL RX4 61 4 17 := ⟨_, rfl, by decide, Or.inl fl_X4_61m⟩
theorem fl_X4_65m : Cond.fieldLink RX4 65 (TX4 18).1 (TX4 18).2.1 (TX4 18).2.2.1 ∈ lw_g := List.mem_filter.mpr ⟨List.mem_of_getElem? (i := 194) (by decide +kernel), by decide +kernel⟩
theorem fl_X4_65 : FL RX4 65 4 18 := ⟨_, rfl, by decide, Or.inl fl_X4_65m⟩
theorem fl_X5_130 : FL RX5 130 4 18 := ⟨_, rfl, by decide, Or.inr ⟨"FairWheel", List.mem_filter.mpr ⟨List.mem_of_getElem? (i := 195) (by decide +kernel), by decide +kernel⟩⟩⟩
theorem fl_X0_168 : FL RX0 168 4 18 := ⟨_, rfl, by decide, Or.inr ⟨"FairWheel", List.mem_filter.mpr ⟨List.mem_of_getElem? (i := 196) (by decide +kernel), by decide +kernel⟩⟩⟩
theorem ins_X2 : Cond.instantiable RX2 2 ∈ lw_g := List.mem_filter.mpr ⟨List.mem_of_getElem? (i := 236) (by decide +kernel), by decide +kernel⟩
theorem lk_X0_62 : LK RX0 62 yX2_init := Or.inr ⟨"FairWheel", List.mem_filter.mpr ⟨List.mem_of_getElem? (i := 237) (by decide +kernel), by decide +kernel⟩⟩
theorem im_X2_init : Cond.instanceMethod yX2_init ∈ lw_g := List.mem_filter.mpr ⟨List.mem_of_getElem? (i := 238) (by decide +kernel), by decide +kernel⟩
theorem cm_X2_init : CM uX2_init 0 := ⟨code_X2_init, ini_X2, ⟨by decide +kernel, by decide +kernel⟩, by decide +kernel, by decide⟩
theorem lkm_X2_3 : Cond.methodLink RX2 3 objectInit ∈ lw_g := List.mem_filter.mpr ⟨List.mem_of_getElem? (i := 240) (by decide +kernel), by decide +kernel⟩
theorem lk_X2_3 : LK RX2 3 objectInit := Or.inl lkm_X2_3
theorem fl_X2_9m : Cond.fieldLink RX2 9 (TX2 0).1 (TX2 0).2.1 (TX2 0).2.2.1 ∈ lw_g := List.mem_filter.mpr ⟨List.mem_of_getElem? (i := 241) (by decide +kernel), by decide +kernel⟩
theorem fl_X2_9 : FL RX2 9 2 0 := ⟨_, rfl, by decide, Or.inl fl_X2_9m⟩
theorem fl_X0_69 : FL RX0 69 2 0 := ⟨_, rfl, by decide, Or.inr ⟨"FairWheel", List.mem_filter.mpr ⟨List.mem_of_getElem? (i := 242) (by decide +kernel), by decide +kernel⟩⟩⟩
theorem fl_X2_15m : Cond.fieldLink RX2 15 (TX2 1).1 (TX2 1).2.1 (TX2 1).2.2.1 ∈ lw_g := List.mem_filter.mpr ⟨List.mem_of_getElem? (i := 243) (by decide +kernel), by decide +kernel⟩
theorem fl_X2_15 : FL RX2 15 2 1 := ⟨_, rfl, by decide, Or.inl fl_X2_15m⟩
theorem ac_byte : Cond.arrayClass .byte ∈ lw_g := List.mem_filter.mpr ⟨List.mem_of_getElem? (i := 249) (by decide +kernel), by decide +kernel⟩
theorem lkm_X0_63 : Cond.methodLink RX0 63 yJ7_fill_53178 ∈ lw_g := List.mem_filter.mpr ⟨List.mem_of_getElem? (i := 250) (by decide +kernel), by decide +kernel⟩
theorem lk_X0_63 : LK RX0 63 yJ7_fill_53178 := Or.inl lkm_X0_63
theorem sm_J7_fill_53178 : Cond.static yJ7_fill_53178 ∈ lw_g := List.mem_filter.mpr ⟨List.mem_of_getElem? (i := 251) (by decide +kernel), by decide +kernel⟩
theorem cm_J7_fill_53178 : CM uJ7_fill_53178 2 := ⟨code_J7_fill_53178, ini_J7, ⟨by decide +kernel, by decide +kernel⟩, by decide +kernel, by decide⟩
theorem fl_X0_11m : Cond.fieldLink RX0 11 (TX0 0).1 (TX0 0).2.1 (TX0 0).2.2.1 ∈ lw_g := List.mem_filter.mpr ⟨List.mem_of_getElem? (i := 253) (by decide +kernel), by decide +kernel⟩
theorem fl_X0_11 : FL RX0 11 0 0 := ⟨_, rfl, by decide, Or.inl fl_X0_11m⟩
theorem fl_X0_19m : Cond.fieldLink RX0 19 (TX0 1).1 (TX0 1).2.1 (TX0 1).2.2.1 ∈ lw_g := List.mem_filter.mpr ⟨List.mem_of_getElem? (i := 254) (by decide +kernel), by decide +kernel⟩
theorem fl_X0_19 : FL RX0 19 0 1 := ⟨_, rfl, by decide, Or.inl fl_X0_19m⟩
theorem fl_X0_26m : Cond.fieldLink RX0 26 (TX0 2).1 (TX0 2).2.1 (TX0 2).2.2.1 ∈ lw_g := List.mem_filter.mpr ⟨List.mem_of_getElem? (i := 255) (by decide +kernel), by decide +kernel⟩
theorem fl_X0_26 : FL RX0 26 0 2 := ⟨_, rfl, by decide, Or.inl fl_X0_26m⟩
theorem fl_X5_150 : FL RX5 150 0 2 := ⟨_, rfl, by decide, Or.inr ⟨"FairWheel", List.mem_filter.mpr ⟨List.mem_of_getElem? (i := 256) (by decide +kernel), by decide +kernel⟩⟩⟩
theorem fl_X0_30m : Cond.fieldLink RX0 30 (TX0 3).1 (TX0 3).2.1 (TX0 3).2.2.1 ∈ lw_g := List.mem_filter.mpr ⟨List.mem_of_getElem? (i := 257) (by decide +kernel), by decide +kernel⟩
theorem fl_X0_30 : FL RX0 30 0 3 := ⟨_, rfl, by decide, Or.inl fl_X0_30m⟩
theorem fl_X0_34m : Cond.fieldLink RX0 34 (TX0 4).1 (TX0 4).2.1 (TX0 4).2.2.1 ∈ lw_g := List.mem_filter.mpr ⟨List.mem_of_getElem? (i := 258) (by decide +kernel), by decide +kernel⟩
theorem fl_X0_34 : FL RX0 34 0 4 := ⟨_, rfl, by decide, Or.inl fl_X0_34m⟩
theorem fl_X5_108 : FL RX5 108 0 4 := ⟨_, rfl, by decide, Or.inr ⟨"FairWheel", List.mem_filter.mpr ⟨List.mem_of_getElem? (i := 259) (by decide +kernel), by decide +kernel⟩⟩⟩
theorem fl_X0_37m : Cond.fieldLink RX0 37 (TX0 5).1 (TX0 5).2.1 (TX0 5).2.2.1 ∈ lw_g := List.mem_filter.mpr ⟨List.mem_of_getElem? (i := 260) (by decide +kernel), by decide +kernel⟩
theorem fl_X0_37 : FL RX0 37 0 5 := ⟨_, rfl, by decide, Or.inl fl_X0_37m⟩
theorem fl_X5_147 : FL RX5 147 0 5 := ⟨_, rfl, by decide, Or.inr ⟨"FairWheel", List.mem_filter.mpr ⟨List.mem_of_getElem? (i := 261) (by decide +kernel), by decide +kernel⟩⟩⟩
theorem fl_X0_40m : Cond.fieldLink RX0 40 (TX0 6).1 (TX0 6).2.1 (TX0 6).2.2.1 ∈ lw_g := List.mem_filter.mpr ⟨List.mem_of_getElem? (i := 262) (by decide +kernel), by decide +kernel⟩
theorem fl_X0_40 : FL RX0 40 0 6 := ⟨_, rfl, by decide, Or.inl fl_X0_40m⟩
theorem fl_X5_188 : FL RX5 188 0 6 := ⟨_, rfl, by decide, Or.inr ⟨"FairWheel", List.mem_filter.mpr ⟨List.mem_of_getElem? (i := 263) (by decide +kernel), by decide +kernel⟩⟩⟩
theorem fl_X0_43m : Cond.fieldLink RX0 43 (TX0 7).1 (TX0 7).2.1 (TX0 7).2.2.1 ∈ lw_g := List.mem_filter.mpr ⟨List.mem_of_getElem? (i := 264) (by decide +kernel), by decide +kernel⟩
theorem fl_X0_43 : FL RX0 43 0 7 := ⟨_, rfl, by decide, Or.inl fl_X0_43m⟩
theorem fl_X5_65 : FL RX5 65 0 7 := ⟨_, rfl, by decide, Or.inr ⟨"FairWheel", List.mem_filter.mpr ⟨List.mem_of_getElem? (i := 265) (by decide +kernel), by decide +kernel⟩⟩⟩
theorem fl_X0_47m : Cond.fieldLink RX0 47 (TX0 8).1 (TX0 8).2.1 (TX0 8).2.2.1 ∈ lw_g := List.mem_filter.mpr ⟨List.mem_of_getElem? (i := 266) (by decide +kernel), by decide +kernel⟩
theorem fl_X0_47 : FL RX0 47 0 8 := ⟨_, rfl, by decide, Or.inl fl_X0_47m⟩
theorem fl_X5_85 : FL RX5 85 0 8 := ⟨_, rfl, by decide, Or.inr ⟨"FairWheel", List.mem_filter.mpr ⟨List.mem_of_getElem? (i := 267) (by decide +kernel), by decide +kernel⟩⟩⟩
theorem fl_X0_50m : Cond.fieldLink RX0 50 (TX0 9).1 (TX0 9).2.1 (TX0 9).2.2.1 ∈ lw_g := List.mem_filter.mpr ⟨List.mem_of_getElem? (i := 268) (by decide +kernel), by decide +kernel⟩
theorem fl_X0_50 : FL RX0 50 0 9 := ⟨_, rfl, by decide, Or.inl fl_X0_50m⟩
theorem fl_X5_195 : FL RX5 195 0 9 := ⟨_, rfl, by decide, Or.inr ⟨"FairWheel", List.mem_filter.mpr ⟨List.mem_of_getElem? (i := 269) (by decide +kernel), by decide +kernel⟩⟩⟩
theorem fl_X0_53m : Cond.fieldLink RX0 53 (TX0 10).1 (TX0 10).2.1 (TX0 10).2.2.1 ∈ lw_g := List.mem_filter.mpr ⟨List.mem_of_getElem? (i := 270) (by decide +kernel), by decide +kernel⟩
theorem fl_X0_53 : FL RX0 53 0 10 := ⟨_, rfl, by decide, Or.inl fl_X0_53m⟩
theorem fl_X5_144 : FL RX5 144 0 10 := ⟨_, rfl, by decide, Or.inr ⟨"FairWheel", List.mem_filter.mpr ⟨List.mem_of_getElem? (i := 271) (by decide +kernel), by decide +kernel⟩⟩⟩
theorem fl_X0_56m : Cond.fieldLink RX0 56 (TX0 11).1 (TX0 11).2.1 (TX0 11).2.2.1 ∈ lw_g := List.mem_filter.mpr ⟨List.mem_of_getElem? (i := 272) (by decide +kernel), by decide +kernel⟩
theorem fl_X0_56 : FL RX0 56 0 11 := ⟨_, rfl, by decide, Or.inl fl_X0_56m⟩
theorem fl_X5_198 : FL RX5 198 0 11 := ⟨_, rfl, by decide, Or.inr ⟨"FairWheel", List.mem_filter.mpr ⟨List.mem_of_getElem? (i := 273) (by decide +kernel), by decide +kernel⟩⟩⟩
theorem cl_X5_16 : Cond.classLink RX5 16 RX1 ∈ lw_g := List.mem_filter.mpr ⟨List.mem_of_getElem? (i := 299) (by decide +kernel), by decide +kernel⟩
theorem ins_X1 : Cond.instantiable RX1 2 ∈ lw_g := List.mem_filter.mpr ⟨List.mem_of_getElem? (i := 300) (by decide +kernel), by decide +kernel⟩
theorem lk_X5_18 : LK RX5 18 yX1_init := Or.inr ⟨"FairWheel", List.mem_filter.mpr ⟨List.mem_of_getElem? (i := 301) (by decide +kernel), by decide +kernel⟩⟩
theorem im_X1_init : Cond.instanceMethod yX1_init ∈ lw_g := List.mem_filter.mpr ⟨List.mem_of_getElem? (i := 302) (by decide +kernel), by decide +kernel⟩
theorem cm_X1_init : CM uX1_init 0 := ⟨code_X1_init, ini_X1, ⟨by decide +kernel, by decide +kernel⟩, by decide +kernel, by decide⟩
theorem lkm_X1_3 : Cond.methodLink RX1 3 objectInit ∈ lw_g := List.mem_filter.mpr ⟨List.mem_of_getElem? (i := 304) (by decide +kernel), by decide +kernel⟩
theorem lk_X1_3 : LK RX1 3 objectInit := Or.inl lkm_X1_3
theorem fl_X1_9m : Cond.fieldLink RX1 9 (TX1 0).1 (TX1 0).2.1 (TX1 0).2.2.1 ∈ lw_g := List.mem_filter.mpr ⟨List.mem_of_getElem? (i := 305) (by decide +kernel), by decide +kernel⟩
theorem fl_X1_9 : FL RX1 9 1 0 := ⟨_, rfl, by decide, Or.inl fl_X1_9m⟩
theorem fl_X5_170 : FL RX5 170 1 0 := ⟨_, rfl, by decide, Or.inr ⟨"FairWheel", List.mem_filter.mpr ⟨List.mem_of_getElem? (i := 306) (by decide +kernel), by decide +kernel⟩⟩⟩
theorem fl_X1_15m : Cond.fieldLink RX1 15 (TX1 1).1 (TX1 1).2.1 (TX1 1).2.2.1 ∈ lw_g := List.mem_filter.mpr ⟨List.mem_of_getElem? (i := 307) (by decide +kernel), by decide +kernel⟩
theorem fl_X1_15 : FL RX1 15 1 1 := ⟨_, rfl, by decide, Or.inl fl_X1_15m⟩
theorem ac_long : Cond.arrayClass .long ∈ lw_g := List.mem_filter.mpr ⟨List.mem_of_getElem? (i := 313) (by decide +kernel), by decide +kernel⟩
theorem fl_X5_12m : Cond.fieldLink RX5 12 (TX5 0).1 (TX5 0).2.1 (TX5 0).2.2.1 ∈ lw_g := List.mem_filter.mpr ⟨List.mem_of_getElem? (i := 314) (by decide +kernel), by decide +kernel⟩
theorem fl_X5_12 : FL RX5 12 5 0 := ⟨_, rfl, by decide, Or.inl fl_X5_12m⟩
theorem fl_X5_19m : Cond.fieldLink RX5 19 (TX5 1).1 (TX5 1).2.1 (TX5 1).2.2.1 ∈ lw_g := List.mem_filter.mpr ⟨List.mem_of_getElem? (i := 315) (by decide +kernel), by decide +kernel⟩
theorem fl_X5_19 : FL RX5 19 5 1 := ⟨_, rfl, by decide, Or.inl fl_X5_19m⟩
theorem fl_X5_23m : Cond.fieldLink RX5 23 (TX5 2).1 (TX5 2).2.1 (TX5 2).2.2.1 ∈ lw_g := List.mem_filter.mpr ⟨List.mem_of_getElem? (i := 316) (by decide +kernel), by decide +kernel⟩
theorem fl_X5_23 : FL RX5 23 5 2 := ⟨_, rfl, by decide, Or.inl fl_X5_23m⟩
theorem fl_X5_26m : Cond.fieldLink RX5 26 (TX5 3).1 (TX5 3).2.1 (TX5 3).2.2.1 ∈ lw_g := List.mem_filter.mpr ⟨List.mem_of_getElem? (i := 317) (by decide +kernel), by decide +kernel⟩
theorem fl_X5_26 : FL RX5 26 5 3 := ⟨_, rfl, by decide, Or.inl fl_X5_26m⟩
theorem fl_X5_29m : Cond.fieldLink RX5 29 (TX5 4).1 (TX5 4).2.1 (TX5 4).2.2.1 ∈ lw_g := List.mem_filter.mpr ⟨List.mem_of_getElem? (i := 318) (by decide +kernel), by decide +kernel⟩
theorem fl_X5_29 : FL RX5 29 5 4 := ⟨_, rfl, by decide, Or.inl fl_X5_29m⟩
theorem fl_X5_32m : Cond.fieldLink RX5 32 (TX5 5).1 (TX5 5).2.1 (TX5 5).2.2.1 ∈ lw_g := List.mem_filter.mpr ⟨List.mem_of_getElem? (i := 319) (by decide +kernel), by decide +kernel⟩
theorem fl_X5_32 : FL RX5 32 5 5 := ⟨_, rfl, by decide, Or.inl fl_X5_32m⟩
theorem fl_X5_36m : Cond.fieldLink RX5 36 (TX5 6).1 (TX5 6).2.1 (TX5 6).2.2.1 ∈ lw_g := List.mem_filter.mpr ⟨List.mem_of_getElem? (i := 320) (by decide +kernel), by decide +kernel⟩
theorem fl_X5_36 : FL RX5 36 5 6 := ⟨_, rfl, by decide, Or.inl fl_X5_36m⟩
theorem lkm_L_15 : Cond.methodLink RL 15 yX5_program ∈ lw_g := List.mem_filter.mpr ⟨List.mem_of_getElem? (i := 336) (by decide +kernel), by decide +kernel⟩
theorem lk_L_15 : LK RL 15 yX5_program := Or.inl lkm_L_15
theorem im_X5_program : Cond.instanceMethod yX5_program ∈ lw_g := List.mem_filter.mpr ⟨List.mem_of_getElem? (i := 337) (by decide +kernel), by decide +kernel⟩
theorem sel_X5_program : Cond.selects RX5 yX5_program yX5_program ∈ lw_g := List.mem_filter.mpr ⟨List.mem_of_getElem? (i := 338) (by decide +kernel), by decide +kernel⟩
theorem cm_X5_program : CM uX5_program 3 := ⟨code_X5_program, ini_X5, ⟨by decide +kernel, by decide +kernel⟩, by decide +kernel, by decide⟩
theorem lk_X5_39 : LK RX5 39 yX0_programAt := Or.inr ⟨"FairWheel", List.mem_filter.mpr ⟨List.mem_of_getElem? (i := 340) (by decide +kernel), by decide +kernel⟩⟩
theorem im_X0_programAt : Cond.instanceMethod yX0_programAt ∈ lw_g := List.mem_filter.mpr ⟨List.mem_of_getElem? (i := 342) (by decide +kernel), by decide +kernel⟩
theorem cm_X0_programAt : CM uX0_programAt 1 := ⟨code_X0_programAt, ini_X0, ⟨by decide +kernel, by decide +kernel⟩, by decide +kernel, by decide⟩
theorem lkm_X5_43 : Cond.methodLink RX5 43 yX5_refused ∈ lw_g := List.mem_filter.mpr ⟨List.mem_of_getElem? (i := 344) (by decide +kernel), by decide +kernel⟩
theorem lk_X5_43 : LK RX5 43 yX5_refused := Or.inl lkm_X5_43
theorem im_X5_refused : Cond.instanceMethod yX5_refused ∈ lw_g := List.mem_filter.mpr ⟨List.mem_of_getElem? (i := 346) (by decide +kernel), by decide +kernel⟩
theorem cm_X5_refused : CM uX5_refused 1 := ⟨code_X5_refused, ini_X5, ⟨by decide +kernel, by decide +kernel⟩, by decide +kernel, by decide⟩
theorem lk_X5_47 : LK RX5 47 yX2_length := Or.inr ⟨"FairWheel", List.mem_filter.mpr ⟨List.mem_of_getElem? (i := 348) (by decide +kernel), by decide +kernel⟩⟩
theorem im_X2_length : Cond.instanceMethod yX2_length ∈ lw_g := List.mem_filter.mpr ⟨List.mem_of_getElem? (i := 350) (by decide +kernel), by decide +kernel⟩
theorem cm_X2_length : CM uX2_length 0 := ⟨code_X2_length, ini_X2, ⟨by decide +kernel, by decide +kernel⟩, by decide +kernel, by decide⟩
theorem lkm_X2_19 : Cond.methodLink RX2 19 yJ9_max_7cf53 ∈ lw_g := List.mem_filter.mpr ⟨List.mem_of_getElem? (i := 352) (by decide +kernel), by decide +kernel⟩
theorem lk_X2_19 : LK RX2 19 yJ9_max_7cf53 := Or.inl lkm_X2_19
theorem sm_J9_max_7cf53 : Cond.static yJ9_max_7cf53 ∈ lw_g := List.mem_filter.mpr ⟨List.mem_of_getElem? (i := 353) (by decide +kernel), by decide +kernel⟩
theorem cm_J9_max_7cf53 : CM uJ9_max_7cf53 2 := ⟨code_J9_max_7cf53, ini_J9, ⟨by decide +kernel, by decide +kernel⟩, by decide +kernel, by decide⟩
theorem lkm_X5_53 : Cond.methodLink RX5 53 yX5_noted ∈ lw_g := List.mem_filter.mpr ⟨List.mem_of_getElem? (i := 355) (by decide +kernel), by decide +kernel⟩
theorem lk_X5_53 : LK RX5 53 yX5_noted := Or.inl lkm_X5_53
theorem im_X5_noted : Cond.instanceMethod yX5_noted ∈ lw_g := List.mem_filter.mpr ⟨List.mem_of_getElem? (i := 357) (by decide +kernel), by decide +kernel⟩
theorem cm_X5_noted : CM uX5_noted 4 := ⟨code_X5_noted, ini_X5, ⟨by decide +kernel, by decide +kernel⟩, by decide +kernel, by decide⟩
theorem lk_X5_212 : LK RX5 212 yX1_add := Or.inr ⟨"FairWheel", List.mem_filter.mpr ⟨List.mem_of_getElem? (i := 359) (by decide +kernel), by decide +kernel⟩⟩
theorem im_X1_add : Cond.instanceMethod yX1_add ∈ lw_g := List.mem_filter.mpr ⟨List.mem_of_getElem? (i := 361) (by decide +kernel), by decide +kernel⟩
theorem cm_X1_add : CM uX1_add 4 := ⟨code_X1_add, ini_X1, ⟨by decide +kernel, by decide +kernel⟩, by decide +kernel, by decide⟩
theorem lkm_X1_25 : Cond.methodLink RX1 25 yJ9_min_7cf53 ∈ lw_g := List.mem_filter.mpr ⟨List.mem_of_getElem? (i := 363) (by decide +kernel), by decide +kernel⟩
theorem lk_X1_25 : LK RX1 25 yJ9_min_7cf53 := Or.inl lkm_X1_25
theorem sm_J9_min_7cf53 : Cond.static yJ9_min_7cf53 ∈ lw_g := List.mem_filter.mpr ⟨List.mem_of_getElem? (i := 364) (by decide +kernel), by decide +kernel⟩
theorem cm_J9_min_7cf53 : CM uJ9_min_7cf53 2 := ⟨code_J9_min_7cf53, ini_J9, ⟨by decide +kernel, by decide +kernel⟩, by decide +kernel, by decide⟩
theorem lkm_X1_31 : Cond.methodLink RX1 31 yJ7_copyOf_c38d5 ∈ lw_g := List.mem_filter.mpr ⟨List.mem_of_getElem? (i := 366) (by decide +kernel), by decide +kernel⟩
theorem lk_X1_31 : LK RX1 31 yJ7_copyOf_c38d5 := Or.inl lkm_X1_31
theorem sm_J7_copyOf_c38d5 : Cond.static yJ7_copyOf_c38d5 ∈ lw_g := List.mem_filter.mpr ⟨List.mem_of_getElem? (i := 367) (by decide +kernel), by decide +kernel⟩
theorem cm_J7_copyOf_c38d5 : CM uJ7_copyOf_c38d5 2 := ⟨code_J7_copyOf_c38d5, ini_J7, ⟨by decide +kernel, by decide +kernel⟩, by decide +kernel, by decide⟩
theorem lkm_J7_319 : Cond.methodLink RJ7 319 (⟨"[J", "clone", "()Ljava/lang/Object;"⟩ : MethodName) ∈ lw_g := List.mem_filter.mpr ⟨List.mem_of_getElem? (i := 369) (by decide +kernel), by decide +kernel⟩
theorem lk_J7_319 : LK RJ7 319 (⟨"[J", "clone", "()Ljava/lang/Object;"⟩ : MethodName) := Or.inl lkm_J7_319
theorem nat_u263 : Cond.native (⟨"java/lang/Object", "clone", "()Ljava/lang/Object;"⟩ : MethodName) ∈ lw_g := List.mem_filter.mpr ⟨List.mem_of_getElem? (i := 371) (by decide +kernel), by decide +kernel⟩
theorem im_u264 : Cond.instanceMethod (⟨"java/lang/Object", "clone", "()Ljava/lang/Object;"⟩ : MethodName) ∈ lw_g := List.mem_filter.mpr ⟨List.mem_of_getElem? (i := 372) (by decide +kernel), by decide +kernel⟩
theorem lkm_J7_304 : Cond.methodLink RJ7 304 yJ9_min_7cf53 ∈ lw_g := List.mem_filter.mpr ⟨List.mem_of_getElem? (i := 376) (by decide +kernel), by decide +kernel⟩
theorem lk_J7_304 : LK RJ7 304 yJ9_min_7cf53 := Or.inl lkm_J7_304
theorem lkm_J7_150 : Cond.methodLink RJ7 150 (⟨"java/lang/System", "arraycopy", "(Ljava/lang/Object;ILjava/lang/Object;II)V"⟩ : MethodName) ∈ lw_g := List.mem_filter.mpr ⟨List.mem_of_getElem? (i := 377) (by decide +kernel), by decide +kernel⟩
theorem lk_J7_150 : LK RJ7 150 (⟨"java/lang/System", "arraycopy", "(Ljava/lang/Object;ILjava/lang/Object;II)V"⟩ : MethodName) := Or.inl lkm_J7_150
theorem sm_arraycopy : Cond.static (⟨"java/lang/System", "arraycopy", "(Ljava/lang/Object;ILjava/lang/Object;II)V"⟩ : MethodName) ∈ lw_g := List.mem_filter.mpr ⟨List.mem_of_getElem? (i := 378) (by decide +kernel), by decide +kernel⟩
theorem nat_arraycopy : Cond.native (⟨"java/lang/System", "arraycopy", "(Ljava/lang/Object;ILjava/lang/Object;II)V"⟩ : MethodName) ∈ lw_g := List.mem_filter.mpr ⟨List.mem_of_getElem? (i := 379) (by decide +kernel), by decide +kernel⟩
theorem lk_X5_57 : LK RX5 57 yX2_extend := Or.inr ⟨"FairWheel", List.mem_filter.mpr ⟨List.mem_of_getElem? (i := 380) (by decide +kernel), by decide +kernel⟩⟩
theorem im_X2_extend : Cond.instanceMethod yX2_extend ∈ lw_g := List.mem_filter.mpr ⟨List.mem_of_getElem? (i := 382) (by decide +kernel), by decide +kernel⟩
theorem cm_X2_extend : CM uX2_extend 2 := ⟨code_X2_extend, ini_X2, ⟨by decide +kernel, by decide +kernel⟩, by decide +kernel, by decide⟩
theorem lkm_X2_31 : Cond.methodLink RX2 31 yX2_length ∈ lw_g := List.mem_filter.mpr ⟨List.mem_of_getElem? (i := 384) (by decide +kernel), by decide +kernel⟩
theorem lk_X2_31 : LK RX2 31 yX2_length := Or.inl lkm_X2_31
theorem lkm_X2_35 : Cond.methodLink RX2 35 yJ9_min_7cf53 ∈ lw_g := List.mem_filter.mpr ⟨List.mem_of_getElem? (i := 385) (by decide +kernel), by decide +kernel⟩
theorem lk_X2_35 : LK RX2 35 yJ9_min_7cf53 := Or.inl lkm_X2_35
theorem lkm_X2_38 : Cond.methodLink RX2 38 yJ7_copyOf_9075b ∈ lw_g := List.mem_filter.mpr ⟨List.mem_of_getElem? (i := 386) (by decide +kernel), by decide +kernel⟩
theorem lk_X2_38 : LK RX2 38 yJ7_copyOf_9075b := Or.inl lkm_X2_38
theorem sm_J7_copyOf_9075b : Cond.static yJ7_copyOf_9075b ∈ lw_g := List.mem_filter.mpr ⟨List.mem_of_getElem? (i := 387) (by decide +kernel), by decide +kernel⟩
theorem cm_J7_copyOf_9075b : CM uJ7_copyOf_9075b 2 := ⟨code_J7_copyOf_9075b, ini_J7, ⟨by decide +kernel, by decide +kernel⟩, by decide +kernel, by decide⟩
theorem lkm_J7_310 : Cond.methodLink RJ7 310 (⟨"[B", "clone", "()Ljava/lang/Object;"⟩ : MethodName) ∈ lw_g := List.mem_filter.mpr ⟨List.mem_of_getElem? (i := 389) (by decide +kernel), by decide +kernel⟩
theorem lk_J7_310 : LK RJ7 310 (⟨"[B", "clone", "()Ljava/lang/Object;"⟩ : MethodName) := Or.inl lkm_J7_310
theorem lkm_L_20 : Cond.methodLink RL 20 yX5_task ∈ lw_g := List.mem_filter.mpr ⟨List.mem_of_getElem? (i := 394) (by decide +kernel), by decide +kernel⟩
theorem lk_L_20 : LK RL 20 yX5_task := Or.inl lkm_L_20
theorem im_X5_task : Cond.instanceMethod yX5_task ∈ lw_g := List.mem_filter.mpr ⟨List.mem_of_getElem? (i := 395) (by decide +kernel), by decide +kernel⟩
theorem sel_X5_task : Cond.selects RX5 yX5_task yX5_task ∈ lw_g := List.mem_filter.mpr ⟨List.mem_of_getElem? (i := 396) (by decide +kernel), by decide +kernel⟩
theorem cm_X5_task : CM uX5_task 3 := ⟨code_X5_task, ini_X5, ⟨by decide +kernel, by decide +kernel⟩, by decide +kernel, by decide⟩
theorem lkm_X5_61 : Cond.methodLink RX5 61 yX5_isShare ∈ lw_g := List.mem_filter.mpr ⟨List.mem_of_getElem? (i := 398) (by decide +kernel), by decide +kernel⟩
theorem lk_X5_61 : LK RX5 61 yX5_isShare := Or.inl lkm_X5_61
theorem sm_X5_isShare : Cond.static yX5_isShare ∈ lw_g := List.mem_filter.mpr ⟨List.mem_of_getElem? (i := 399) (by decide +kernel), by decide +kernel⟩
theorem cm_X5_isShare : CM uX5_isShare 1 := ⟨code_X5_isShare, ini_X5, ⟨by decide +kernel, by decide +kernel⟩, by decide +kernel, by decide⟩
theorem lk_X5_68 : LK RX5 68 yX0_addTask := Or.inr ⟨"FairWheel", List.mem_filter.mpr ⟨List.mem_of_getElem? (i := 401) (by decide +kernel), by decide +kernel⟩⟩
theorem im_X0_addTask : Cond.instanceMethod yX0_addTask ∈ lw_g := List.mem_filter.mpr ⟨List.mem_of_getElem? (i := 403) (by decide +kernel), by decide +kernel⟩
theorem cm_X0_addTask : CM uX0_addTask 3 := ⟨code_X0_addTask, ini_X0, ⟨by decide +kernel, by decide +kernel⟩, by decide +kernel, by decide⟩
theorem lkm_X0_96 : Cond.methodLink RX0 96 yX0_leastVirtual ∈ lw_g := List.mem_filter.mpr ⟨List.mem_of_getElem? (i := 405) (by decide +kernel), by decide +kernel⟩
theorem lk_X0_96 : LK RX0 96 yX0_leastVirtual := Or.inl lkm_X0_96
theorem im_X0_leastVirtual : Cond.instanceMethod yX0_leastVirtual ∈ lw_g := List.mem_filter.mpr ⟨List.mem_of_getElem? (i := 407) (by decide +kernel), by decide +kernel⟩
theorem cm_X0_leastVirtual : CM uX0_leastVirtual 0 := ⟨code_X0_leastVirtual, ini_X0, ⟨by decide +kernel, by decide +kernel⟩, by decide +kernel, by decide⟩
theorem lk_X0_100 : LK RX0 100 yX4_begin := Or.inr ⟨"FairWheel", List.mem_filter.mpr ⟨List.mem_of_getElem? (i := 409) (by decide +kernel), by decide +kernel⟩⟩
theorem im_X4_begin : Cond.instanceMethod yX4_begin ∈ lw_g := List.mem_filter.mpr ⟨List.mem_of_getElem? (i := 411) (by decide +kernel), by decide +kernel⟩
theorem cm_X4_begin : CM uX4_begin 4 := ⟨code_X4_begin, ini_X4, ⟨by decide +kernel, by decide +kernel⟩, by decide +kernel, by decide⟩
theorem lk_X0_104 : LK RX0 104 yX4_startPeriod := Or.inr ⟨"FairWheel", List.mem_filter.mpr ⟨List.mem_of_getElem? (i := 413) (by decide +kernel), by decide +kernel⟩⟩
theorem im_X4_startPeriod : Cond.instanceMethod yX4_startPeriod ∈ lw_g := List.mem_filter.mpr ⟨List.mem_of_getElem? (i := 415) (by decide +kernel), by decide +kernel⟩
theorem cm_X4_startPeriod : CM uX4_startPeriod 3 := ⟨code_X4_startPeriod, ini_X4, ⟨by decide +kernel, by decide +kernel⟩, by decide +kernel, by decide⟩
theorem lkm_L_25 : Cond.methodLink RL 25 yX5_share ∈ lw_g := List.mem_filter.mpr ⟨List.mem_of_getElem? (i := 417) (by decide +kernel), by decide +kernel⟩
theorem lk_L_25 : LK RL 25 yX5_share := Or.inl lkm_L_25
theorem im_X5_share : Cond.instanceMethod yX5_share ∈ lw_g := List.mem_filter.mpr ⟨List.mem_of_getElem? (i := 418) (by decide +kernel), by decide +kernel⟩
theorem sel_X5_share : Cond.selects RX5 yX5_share yX5_share ∈ lw_g := List.mem_filter.mpr ⟨List.mem_of_getElem? (i := 419) (by decide +kernel), by decide +kernel⟩
theorem cm_X5_share : CM uX5_share 2 := ⟨code_X5_share, ini_X5, ⟨by decide +kernel, by decide +kernel⟩, by decide +kernel, by decide⟩
theorem lk_X5_72 : LK RX5 72 yX0_unendedTask := Or.inr ⟨"FairWheel", List.mem_filter.mpr ⟨List.mem_of_getElem? (i := 421) (by decide +kernel), by decide +kernel⟩⟩
theorem im_X0_unendedTask : Cond.instanceMethod yX0_unendedTask ∈ lw_g := List.mem_filter.mpr ⟨List.mem_of_getElem? (i := 423) (by decide +kernel), by decide +kernel⟩
theorem cm_X0_unendedTask : CM uX0_unendedTask 1 := ⟨code_X0_unendedTask, ini_X0, ⟨by decide +kernel, by decide +kernel⟩, by decide +kernel, by decide⟩
theorem lkm_X0_89 : Cond.methodLink RX0 89 yX0_taskAt ∈ lw_g := List.mem_filter.mpr ⟨List.mem_of_getElem? (i := 425) (by decide +kernel), by decide +kernel⟩
theorem lk_X0_89 : LK RX0 89 yX0_taskAt := Or.inl lkm_X0_89
theorem im_X0_taskAt : Cond.instanceMethod yX0_taskAt ∈ lw_g := List.mem_filter.mpr ⟨List.mem_of_getElem? (i := 427) (by decide +kernel), by decide +kernel⟩
theorem cm_X0_taskAt : CM uX0_taskAt 1 := ⟨code_X0_taskAt, ini_X0, ⟨by decide +kernel, by decide +kernel⟩, by decide +kernel, by decide⟩
theorem lk_X5_76 : LK RX5 76 yX4_changeShare := Or.inr ⟨"FairWheel", List.mem_filter.mpr ⟨List.mem_of_getElem? (i := 429) (by decide +kernel), by decide +kernel⟩⟩
theorem im_X4_changeShare : Cond.instanceMethod yX4_changeShare ∈ lw_g := List.mem_filter.mpr ⟨List.mem_of_getElem? (i := 431) (by decide +kernel), by decide +kernel⟩
theorem cm_X4_changeShare : CM uX4_changeShare 1 := ⟨code_X4_changeShare, ini_X4, ⟨by decide +kernel, by decide +kernel⟩, by decide +kernel, by decide⟩
theorem lkm_X4_89 : Cond.methodLink RX4 89 yJ9_min_7cf53 ∈ lw_g := List.mem_filter.mpr ⟨List.mem_of_getElem? (i := 433) (by decide +kernel), by decide +kernel⟩
theorem lk_X4_89 : LK RX4 89 yJ9_min_7cf53 := Or.inl lkm_X4_89
theorem lkm_L_30 : Cond.methodLink RL 30 yX5_deadline ∈ lw_g := List.mem_filter.mpr ⟨List.mem_of_getElem? (i := 434) (by decide +kernel), by decide +kernel⟩
theorem lk_L_30 : LK RL 30 yX5_deadline := Or.inl lkm_L_30
theorem im_X5_deadline : Cond.instanceMethod yX5_deadline ∈ lw_g := List.mem_filter.mpr ⟨List.mem_of_getElem? (i := 435) (by decide +kernel), by decide +kernel⟩
theorem sel_X5_deadline : Cond.selects RX5 yX5_deadline yX5_deadline ∈ lw_g := List.mem_filter.mpr ⟨List.mem_of_getElem? (i := 436) (by decide +kernel), by decide +kernel⟩
theorem cm_X5_deadline : CM uX5_deadline 3 := ⟨code_X5_deadline, ini_X5, ⟨by decide +kernel, by decide +kernel⟩, by decide +kernel, by decide⟩
theorem lk_X5_81 : LK RX5 81 yX4_hasDeadline := Or.inr ⟨"FairWheel", List.mem_filter.mpr ⟨List.mem_of_getElem? (i := 438) (by decide +kernel), by decide +kernel⟩⟩
theorem im_X4_hasDeadline : Cond.instanceMethod yX4_hasDeadline ∈ lw_g := List.mem_filter.mpr ⟨List.mem_of_getElem? (i := 440) (by decide +kernel), by decide +kernel⟩
theorem cm_X4_hasDeadline : CM uX4_hasDeadline 0 := ⟨code_X4_hasDeadline, ini_X4, ⟨by decide +kernel, by decide +kernel⟩, by decide +kernel, by decide⟩
theorem lk_X5_88 : LK RX5 88 yX4_startPeriod := Or.inr ⟨"FairWheel", List.mem_filter.mpr ⟨List.mem_of_getElem? (i := 442) (by decide +kernel), by decide +kernel⟩⟩
theorem lkm_L_35 : Cond.methodLink RL 35 yX5_processors ∈ lw_g := List.mem_filter.mpr ⟨List.mem_of_getElem? (i := 443) (by decide +kernel), by decide +kernel⟩
theorem lk_L_35 : LK RL 35 yX5_processors := Or.inl lkm_L_35
theorem im_X5_processors : Cond.instanceMethod yX5_processors ∈ lw_g := List.mem_filter.mpr ⟨List.mem_of_getElem? (i := 444) (by decide +kernel), by decide +kernel⟩
theorem sel_X5_processors : Cond.selects RX5 yX5_processors yX5_processors ∈ lw_g := List.mem_filter.mpr ⟨List.mem_of_getElem? (i := 445) (by decide +kernel), by decide +kernel⟩
theorem cm_X5_processors : CM uX5_processors 1 := ⟨code_X5_processors, ini_X5, ⟨by decide +kernel, by decide +kernel⟩, by decide +kernel, by decide⟩
theorem lk_X5_92 : LK RX5 92 yX0_changeProcessors := Or.inr ⟨"FairWheel", List.mem_filter.mpr ⟨List.mem_of_getElem? (i := 447) (by decide +kernel), by decide +kernel⟩⟩
theorem im_X0_changeProcessors : Cond.instanceMethod yX0_changeProcessors ∈ lw_g := List.mem_filter.mpr ⟨List.mem_of_getElem? (i := 449) (by decide +kernel), by decide +kernel⟩
theorem cm_X0_changeProcessors : CM uX0_changeProcessors 1 := ⟨code_X0_changeProcessors, ini_X0, ⟨by decide +kernel, by decide +kernel⟩, by decide +kernel, by decide⟩
theorem lkm_L_40 : Cond.methodLink RL 40 yX5_lock ∈ lw_g := List.mem_filter.mpr ⟨List.mem_of_getElem? (i := 451) (by decide +kernel), by decide +kernel⟩
theorem lk_L_40 : LK RL 40 yX5_lock := Or.inl lkm_L_40
theorem im_X5_lock : Cond.instanceMethod yX5_lock ∈ lw_g := List.mem_filter.mpr ⟨List.mem_of_getElem? (i := 452) (by decide +kernel), by decide +kernel⟩
theorem sel_X5_lock : Cond.selects RX5 yX5_lock yX5_lock ∈ lw_g := List.mem_filter.mpr ⟨List.mem_of_getElem? (i := 453) (by decide +kernel), by decide +kernel⟩
theorem cm_X5_lock : CM uX5_lock 1 := ⟨code_X5_lock, ini_X5, ⟨by decide +kernel, by decide +kernel⟩, by decide +kernel, by decide⟩
theorem lk_X5_95 : LK RX5 95 yX0_holderOf := Or.inr ⟨"FairWheel", List.mem_filter.mpr ⟨List.mem_of_getElem? (i := 455) (by decide +kernel), by decide +kernel⟩⟩
theorem im_X0_holderOf : Cond.instanceMethod yX0_holderOf ∈ lw_g := List.mem_filter.mpr ⟨List.mem_of_getElem? (i := 457) (by decide +kernel), by decide +kernel⟩
theorem cm_X0_holderOf : CM uX0_holderOf 1 := ⟨code_X0_holderOf, ini_X0, ⟨by decide +kernel, by decide +kernel⟩, by decide +kernel, by decide⟩
theorem lk_X5_98 : LK RX5 98 yX0_addLock := Or.inr ⟨"FairWheel", List.mem_filter.mpr ⟨List.mem_of_getElem? (i := 459) (by decide +kernel), by decide +kernel⟩⟩
theorem im_X0_addLock : Cond.instanceMethod yX0_addLock ∈ lw_g := List.mem_filter.mpr ⟨List.mem_of_getElem? (i := 461) (by decide +kernel), by decide +kernel⟩
theorem cm_X0_addLock : CM uX0_addLock 1 := ⟨code_X0_addLock, ini_X0, ⟨by decide +kernel, by decide +kernel⟩, by decide +kernel, by decide⟩
theorem lkm_L_45 : Cond.methodLink RL 45 yX5_ring ∈ lw_g := List.mem_filter.mpr ⟨List.mem_of_getElem? (i := 463) (by decide +kernel), by decide +kernel⟩
theorem lk_L_45 : LK RL 45 yX5_ring := Or.inl lkm_L_45
theorem im_X5_ring : Cond.instanceMethod yX5_ring ∈ lw_g := List.mem_filter.mpr ⟨List.mem_of_getElem? (i := 464) (by decide +kernel), by decide +kernel⟩
theorem sel_X5_ring : Cond.selects RX5 yX5_ring yX5_ring ∈ lw_g := List.mem_filter.mpr ⟨List.mem_of_getElem? (i := 465) (by decide +kernel), by decide +kernel⟩
theorem cm_X5_ring : CM uX5_ring 1 := ⟨code_X5_ring, ini_X5, ⟨by decide +kernel, by decide +kernel⟩, by decide +kernel, by decide⟩
theorem lk_X5_102 : LK RX5 102 yX0_ringBell := Or.inr ⟨"FairWheel", List.mem_filter.mpr ⟨List.mem_of_getElem? (i := 467) (by decide +kernel), by decide +kernel⟩⟩
theorem im_X0_ringBell : Cond.instanceMethod yX0_ringBell ∈ lw_g := List.mem_filter.mpr ⟨List.mem_of_getElem? (i := 469) (by decide +kernel), by decide +kernel⟩
theorem cm_X0_ringBell : CM uX0_ringBell 1 := ⟨code_X0_ringBell, ini_X0, ⟨by decide +kernel, by decide +kernel⟩, by decide +kernel, by decide⟩
theorem lk_X0_118 : LK RX0 118 yX4_wake := Or.inr ⟨"FairWheel", List.mem_filter.mpr ⟨List.mem_of_getElem? (i := 471) (by decide +kernel), by decide +kernel⟩⟩
theorem im_X4_wake : Cond.instanceMethod yX4_wake ∈ lw_g := List.mem_filter.mpr ⟨List.mem_of_getElem? (i := 473) (by decide +kernel), by decide +kernel⟩
theorem cm_X4_wake : CM uX4_wake 0 := ⟨code_X4_wake, ini_X4, ⟨by decide +kernel, by decide +kernel⟩, by decide +kernel, by decide⟩
theorem lkm_L_49 : Cond.methodLink RL 49 yX5_run ∈ lw_g := List.mem_filter.mpr ⟨List.mem_of_getElem? (i := 475) (by decide +kernel), by decide +kernel⟩
theorem lk_L_49 : LK RL 49 yX5_run := Or.inl lkm_L_49
theorem im_X5_run : Cond.instanceMethod yX5_run ∈ lw_g := List.mem_filter.mpr ⟨List.mem_of_getElem? (i := 476) (by decide +kernel), by decide +kernel⟩
theorem sel_X5_run : Cond.selects RX5 yX5_run yX5_run ∈ lw_g := List.mem_filter.mpr ⟨List.mem_of_getElem? (i := 477) (by decide +kernel), by decide +kernel⟩
theorem cm_X5_run : CM uX5_run 1 := ⟨code_X5_run, ini_X5, ⟨by decide +kernel, by decide +kernel⟩, by decide +kernel, by decide⟩
theorem lk_X5_105 : LK RX5 105 yX0_goOn := Or.inr ⟨"FairWheel", List.mem_filter.mpr ⟨List.mem_of_getElem? (i := 479) (by decide +kernel), by decide +kernel⟩⟩
theorem im_X0_goOn : Cond.instanceMethod yX0_goOn ∈ lw_g := List.mem_filter.mpr ⟨List.mem_of_getElem? (i := 481) (by decide +kernel), by decide +kernel⟩
theorem cm_X0_goOn : CM uX0_goOn 1 := ⟨code_X0_goOn, ini_X0, ⟨by decide +kernel, by decide +kernel⟩, by decide +kernel, by decide⟩
theorem lk_X0_121 : LK RX0 121 yX3_haveRoom := Or.inr ⟨"FairWheel", List.mem_filter.mpr ⟨List.mem_of_getElem? (i := 483) (by decide +kernel), by decide +kernel⟩⟩
theorem im_X3_haveRoom : Cond.instanceMethod yX3_haveRoom ∈ lw_g := List.mem_filter.mpr ⟨List.mem_of_getElem? (i := 485) (by decide +kernel), by decide +kernel⟩
theorem cm_X3_haveRoom : CM uX3_haveRoom 0 := ⟨code_X3_haveRoom, ini_X3, ⟨by decide +kernel, by decide +kernel⟩, by decide +kernel, by decide⟩
theorem lkm_X0_125 : Cond.methodLink RX0 125 yX0_quietTicks ∈ lw_g := List.mem_filter.mpr ⟨List.mem_of_getElem? (i := 487) (by decide +kernel), by decide +kernel⟩
theorem lk_X0_125 : LK RX0 125 yX0_quietTicks := Or.inl lkm_X0_125
theorem im_X0_quietTicks : Cond.instanceMethod yX0_quietTicks ∈ lw_g := List.mem_filter.mpr ⟨List.mem_of_getElem? (i := 489) (by decide +kernel), by decide +kernel⟩
theorem cm_X0_quietTicks : CM uX0_quietTicks 1 := ⟨code_X0_quietTicks, ini_X0, ⟨by decide +kernel, by decide +kernel⟩, by decide +kernel, by decide⟩
theorem lkm_X0_141 : Cond.methodLink RX0 141 yJ9_min_7cf53 ∈ lw_g := List.mem_filter.mpr ⟨List.mem_of_getElem? (i := 491) (by decide +kernel), by decide +kernel⟩
theorem lk_X0_141 : LK RX0 141 yJ9_min_7cf53 := Or.inl lkm_X0_141
theorem lk_X0_147 : LK RX0 147 yX4_hasDeadline := Or.inr ⟨"FairWheel", List.mem_filter.mpr ⟨List.mem_of_getElem? (i := 492) (by decide +kernel), by decide +kernel⟩⟩
theorem lkm_X0_129 : Cond.methodLink RX0 129 yX0_wakeAndRefill ∈ lw_g := List.mem_filter.mpr ⟨List.mem_of_getElem? (i := 493) (by decide +kernel), by decide +kernel⟩
theorem lk_X0_129 : LK RX0 129 yX0_wakeAndRefill := Or.inl lkm_X0_129
theorem im_X0_wakeAndRefill : Cond.instanceMethod yX0_wakeAndRefill ∈ lw_g := List.mem_filter.mpr ⟨List.mem_of_getElem? (i := 495) (by decide +kernel), by decide +kernel⟩
theorem cm_X0_wakeAndRefill : CM uX0_wakeAndRefill 0 := ⟨code_X0_wakeAndRefill, ini_X0, ⟨by decide +kernel, by decide +kernel⟩, by decide +kernel, by decide⟩
theorem lkm_X0_132 : Cond.methodLink RX0 132 yX0_choose ∈ lw_g := List.mem_filter.mpr ⟨List.mem_of_getElem? (i := 497) (by decide +kernel), by decide +kernel⟩
theorem lk_X0_132 : LK RX0 132 yX0_choose := Or.inl lkm_X0_132
theorem im_X0_choose : Cond.instanceMethod yX0_choose ∈ lw_g := List.mem_filter.mpr ⟨List.mem_of_getElem? (i := 499) (by decide +kernel), by decide +kernel⟩
theorem cm_X0_choose : CM uX0_choose 0 := ⟨code_X0_choose, ini_X0, ⟨by decide +kernel, by decide +kernel⟩, by decide +kernel, by decide⟩
theorem lkm_X0_159 : Cond.methodLink RX0 159 yX0_settle ∈ lw_g := List.mem_filter.mpr ⟨List.mem_of_getElem? (i := 501) (by decide +kernel), by decide +kernel⟩
theorem lk_X0_159 : LK RX0 159 yX0_settle := Or.inl lkm_X0_159
theorem im_X0_settle : Cond.instanceMethod yX0_settle ∈ lw_g := List.mem_filter.mpr ⟨List.mem_of_getElem? (i := 503) (by decide +kernel), by decide +kernel⟩
theorem cm_X0_settle : CM uX0_settle 0 := ⟨code_X0_settle, ini_X0, ⟨by decide +kernel, by decide +kernel⟩, by decide +kernel, by decide⟩
theorem lk_X0_183 : LK RX0 183 yX4_rank := Or.inr ⟨"FairWheel", List.mem_filter.mpr ⟨List.mem_of_getElem? (i := 505) (by decide +kernel), by decide +kernel⟩⟩
theorem im_X4_rank : Cond.instanceMethod yX4_rank ∈ lw_g := List.mem_filter.mpr ⟨List.mem_of_getElem? (i := 507) (by decide +kernel), by decide +kernel⟩
theorem cm_X4_rank : CM uX4_rank 0 := ⟨code_X4_rank, ini_X4, ⟨by decide +kernel, by decide +kernel⟩, by decide +kernel, by decide⟩
theorem cs_X4_87 : Jvm.Cond.constantLong RX4 87 281474976710656 ∈ lw_g := List.mem_filter.mpr ⟨List.mem_of_getElem? (i := 509) (by decide +kernel), by decide +kernel⟩
theorem lkm_X0_186 : Cond.methodLink RX0 186 yX0_blockerOf ∈ lw_g := List.mem_filter.mpr ⟨List.mem_of_getElem? (i := 510) (by decide +kernel), by decide +kernel⟩
theorem lk_X0_186 : LK RX0 186 yX0_blockerOf := Or.inl lkm_X0_186
theorem im_X0_blockerOf : Cond.instanceMethod yX0_blockerOf ∈ lw_g := List.mem_filter.mpr ⟨List.mem_of_getElem? (i := 512) (by decide +kernel), by decide +kernel⟩
theorem cm_X0_blockerOf : CM uX0_blockerOf 1 := ⟨code_X0_blockerOf, ini_X0, ⟨by decide +kernel, by decide +kernel⟩, by decide +kernel, by decide⟩
theorem cs_X0_162 : Jvm.Cond.constantLong RX0 162 (-1) ∈ lw_g := List.mem_filter.mpr ⟨List.mem_of_getElem? (i := 514) (by decide +kernel), by decide +kernel⟩
theorem lkm_X0_164 : Cond.methodLink RX0 164 yX0_foremostBehind ∈ lw_g := List.mem_filter.mpr ⟨List.mem_of_getElem? (i := 515) (by decide +kernel), by decide +kernel⟩
theorem lk_X0_164 : LK RX0 164 yX0_foremostBehind := Or.inl lkm_X0_164
theorem im_X0_foremostBehind : Cond.instanceMethod yX0_foremostBehind ∈ lw_g := List.mem_filter.mpr ⟨List.mem_of_getElem? (i := 517) (by decide +kernel), by decide +kernel⟩
theorem cm_X0_foremostBehind : CM uX0_foremostBehind 1 := ⟨code_X0_foremostBehind, ini_X0, ⟨by decide +kernel, by decide +kernel⟩, by decide +kernel, by decide⟩
theorem lk_X0_171 : LK RX0 171 yX5_classOf := Or.inr ⟨"FairWheel", List.mem_filter.mpr ⟨List.mem_of_getElem? (i := 519) (by decide +kernel), by decide +kernel⟩⟩
theorem sm_X5_classOf : Cond.static yX5_classOf ∈ lw_g := List.mem_filter.mpr ⟨List.mem_of_getElem? (i := 520) (by decide +kernel), by decide +kernel⟩
theorem cm_X5_classOf : CM uX5_classOf 1 := ⟨code_X5_classOf, ini_X5, ⟨by decide +kernel, by decide +kernel⟩, by decide +kernel, by decide⟩
theorem lk_X0_175 : LK RX0 175 yX5_keyOf := Or.inr ⟨"FairWheel", List.mem_filter.mpr ⟨List.mem_of_getElem? (i := 522) (by decide +kernel), by decide +kernel⟩⟩
theorem sm_X5_keyOf : Cond.static yX5_keyOf ∈ lw_g := List.mem_filter.mpr ⟨List.mem_of_getElem? (i := 523) (by decide +kernel), by decide +kernel⟩
theorem cm_X5_keyOf : CM uX5_keyOf 1 := ⟨code_X5_keyOf, ini_X5, ⟨by decide +kernel, by decide +kernel⟩, by decide +kernel, by decide⟩
theorem cs_X5_218 : Jvm.Cond.constantLong RX5 218 1099511627775 ∈ lw_g := List.mem_filter.mpr ⟨List.mem_of_getElem? (i := 525) (by decide +kernel), by decide +kernel⟩
theorem lk_X0_179 : LK RX0 179 yX3_add := Or.inr ⟨"FairWheel", List.mem_filter.mpr ⟨List.mem_of_getElem? (i := 526) (by decide +kernel), by decide +kernel⟩⟩
theorem im_X3_add : Cond.instanceMethod yX3_add ∈ lw_g := List.mem_filter.mpr ⟨List.mem_of_getElem? (i := 528) (by decide +kernel), by decide +kernel⟩
theorem cm_X3_add : CM uX3_add 5 := ⟨code_X3_add, ini_X3, ⟨by decide +kernel, by decide +kernel⟩, by decide +kernel, by decide⟩
theorem cs_X3_29 : Jvm.Cond.constant RX3 29 40000 ∈ lw_g := List.mem_filter.mpr ⟨List.mem_of_getElem? (i := 530) (by decide +kernel), by decide +kernel⟩
theorem lkm_X3_30 : Cond.methodLink RX3 30 yJ9_min_7cf53 ∈ lw_g := List.mem_filter.mpr ⟨List.mem_of_getElem? (i := 531) (by decide +kernel), by decide +kernel⟩
theorem lk_X3_30 : LK RX3 30 yJ9_min_7cf53 := Or.inl lkm_X3_30
theorem lkm_X3_36 : Cond.methodLink RX3 36 yJ7_copyOf_59c91 ∈ lw_g := List.mem_filter.mpr ⟨List.mem_of_getElem? (i := 532) (by decide +kernel), by decide +kernel⟩
theorem lk_X3_36 : LK RX3 36 yJ7_copyOf_59c91 := Or.inl lkm_X3_36
theorem sm_J7_copyOf_59c91 : Cond.static yJ7_copyOf_59c91 ∈ lw_g := List.mem_filter.mpr ⟨List.mem_of_getElem? (i := 533) (by decide +kernel), by decide +kernel⟩
theorem cm_J7_copyOf_59c91 : CM uJ7_copyOf_59c91 2 := ⟨code_J7_copyOf_59c91, ini_J7, ⟨by decide +kernel, by decide +kernel⟩, by decide +kernel, by decide⟩
theorem lkm_J7_316 : Cond.methodLink RJ7 316 (⟨"[I", "clone", "()Ljava/lang/Object;"⟩ : MethodName) ∈ lw_g := List.mem_filter.mpr ⟨List.mem_of_getElem? (i := 535) (by decide +kernel), by decide +kernel⟩
theorem lk_J7_316 : LK RJ7 316 (⟨"[I", "clone", "()Ljava/lang/Object;"⟩ : MethodName) := Or.inl lkm_J7_316
theorem lkm_X0_135 : Cond.methodLink RX0 135 yX0_turn ∈ lw_g := List.mem_filter.mpr ⟨List.mem_of_getElem? (i := 540) (by decide +kernel), by decide +kernel⟩
theorem lk_X0_135 : LK RX0 135 yX0_turn := Or.inl lkm_X0_135
theorem im_X0_turn : Cond.instanceMethod yX0_turn ∈ lw_g := List.mem_filter.mpr ⟨List.mem_of_getElem? (i := 542) (by decide +kernel), by decide +kernel⟩
theorem cm_X0_turn : CM uX0_turn 1 := ⟨code_X0_turn, ini_X0, ⟨by decide +kernel, by decide +kernel⟩, by decide +kernel, by decide⟩
theorem lkm_X0_190 : Cond.methodLink RX0 190 yX0_pay ∈ lw_g := List.mem_filter.mpr ⟨List.mem_of_getElem? (i := 544) (by decide +kernel), by decide +kernel⟩
theorem lk_X0_190 : LK RX0 190 yX0_pay := Or.inl lkm_X0_190
theorem im_X0_pay : Cond.instanceMethod yX0_pay ∈ lw_g := List.mem_filter.mpr ⟨List.mem_of_getElem? (i := 546) (by decide +kernel), by decide +kernel⟩
theorem cm_X0_pay : CM uX0_pay 1 := ⟨code_X0_pay, ini_X0, ⟨by decide +kernel, by decide +kernel⟩, by decide +kernel, by decide⟩
theorem lk_X0_207 : LK RX0 207 yX4_payOnce := Or.inr ⟨"FairWheel", List.mem_filter.mpr ⟨List.mem_of_getElem? (i := 548) (by decide +kernel), by decide +kernel⟩⟩
theorem im_X4_payOnce : Cond.instanceMethod yX4_payOnce ∈ lw_g := List.mem_filter.mpr ⟨List.mem_of_getElem? (i := 550) (by decide +kernel), by decide +kernel⟩
theorem cm_X4_payOnce : CM uX4_payOnce 0 := ⟨code_X4_payOnce, ini_X4, ⟨by decide +kernel, by decide +kernel⟩, by decide +kernel, by decide⟩
theorem lkm_X0_193 : Cond.methodLink RX0 193 yX0_act ∈ lw_g := List.mem_filter.mpr ⟨List.mem_of_getElem? (i := 552) (by decide +kernel), by decide +kernel⟩
theorem lk_X0_193 : LK RX0 193 yX0_act := Or.inl lkm_X0_193
theorem im_X0_act : Cond.instanceMethod yX0_act ∈ lw_g := List.mem_filter.mpr ⟨List.mem_of_getElem? (i := 554) (by decide +kernel), by decide +kernel⟩
theorem cm_X0_act : CM uX0_act 1 := ⟨code_X0_act, ini_X0, ⟨by decide +kernel, by decide +kernel⟩, by decide +kernel, by decide⟩
theorem lkm_X0_222 : Cond.methodLink RX0 222 yX0_programAt ∈ lw_g := List.mem_filter.mpr ⟨List.mem_of_getElem? (i := 556) (by decide +kernel), by decide +kernel⟩
theorem lk_X0_222 : LK RX0 222 yX0_programAt := Or.inl lkm_X0_222
theorem lkm_X0_229 : Cond.methodLink RX0 229 yX0_readable ∈ lw_g := List.mem_filter.mpr ⟨List.mem_of_getElem? (i := 557) (by decide +kernel), by decide +kernel⟩
theorem lk_X0_229 : LK RX0 229 yX0_readable := Or.inl lkm_X0_229
theorem im_X0_readable : Cond.instanceMethod yX0_readable ∈ lw_g := List.mem_filter.mpr ⟨List.mem_of_getElem? (i := 559) (by decide +kernel), by decide +kernel⟩
theorem cm_X0_readable : CM uX0_readable 2 := ⟨code_X0_readable, ini_X0, ⟨by decide +kernel, by decide +kernel⟩, by decide +kernel, by decide⟩
theorem lk_X0_233 : LK RX0 233 yX2_byteAt := Or.inr ⟨"FairWheel", List.mem_filter.mpr ⟨List.mem_of_getElem? (i := 561) (by decide +kernel), by decide +kernel⟩⟩
theorem im_X2_byteAt : Cond.instanceMethod yX2_byteAt ∈ lw_g := List.mem_filter.mpr ⟨List.mem_of_getElem? (i := 563) (by decide +kernel), by decide +kernel⟩
theorem cm_X2_byteAt : CM uX2_byteAt 1 := ⟨code_X2_byteAt, ini_X2, ⟨by decide +kernel, by decide +kernel⟩, by decide +kernel, by decide⟩
theorem lkm_X0_236 : Cond.methodLink RX0 236 yJ9_max_7cf53 ∈ lw_g := List.mem_filter.mpr ⟨List.mem_of_getElem? (i := 565) (by decide +kernel), by decide +kernel⟩
theorem lk_X0_236 : LK RX0 236 yJ9_max_7cf53 := Or.inl lkm_X0_236
theorem lkm_X0_239 : Cond.methodLink RX0 239 yX0_take ∈ lw_g := List.mem_filter.mpr ⟨List.mem_of_getElem? (i := 566) (by decide +kernel), by decide +kernel⟩
theorem lk_X0_239 : LK RX0 239 yX0_take := Or.inl lkm_X0_239
theorem im_X0_take : Cond.instanceMethod yX0_take ∈ lw_g := List.mem_filter.mpr ⟨List.mem_of_getElem? (i := 568) (by decide +kernel), by decide +kernel⟩
theorem cm_X0_take : CM uX0_take 2 := ⟨code_X0_take, ini_X0, ⟨by decide +kernel, by decide +kernel⟩, by decide +kernel, by decide⟩
theorem lkm_X0_273 : Cond.methodLink RX0 273 yX0_holderOf ∈ lw_g := List.mem_filter.mpr ⟨List.mem_of_getElem? (i := 570) (by decide +kernel), by decide +kernel⟩
theorem lk_X0_273 : LK RX0 273 yX0_holderOf := Or.inl lkm_X0_273
theorem lkm_X0_276 : Cond.methodLink RX0 276 yX0_leadsTo ∈ lw_g := List.mem_filter.mpr ⟨List.mem_of_getElem? (i := 571) (by decide +kernel), by decide +kernel⟩
theorem lk_X0_276 : LK RX0 276 yX0_leadsTo := Or.inl lkm_X0_276
theorem im_X0_leadsTo : Cond.instanceMethod yX0_leadsTo ∈ lw_g := List.mem_filter.mpr ⟨List.mem_of_getElem? (i := 573) (by decide +kernel), by decide +kernel⟩
theorem cm_X0_leadsTo : CM uX0_leadsTo 2 := ⟨code_X0_leadsTo, ini_X0, ⟨by decide +kernel, by decide +kernel⟩, by decide +kernel, by decide⟩
theorem lkm_X0_280 : Cond.methodLink RX0 280 yX0_keepRing ∈ lw_g := List.mem_filter.mpr ⟨List.mem_of_getElem? (i := 575) (by decide +kernel), by decide +kernel⟩
theorem lk_X0_280 : LK RX0 280 yX0_keepRing := Or.inl lkm_X0_280
theorem im_X0_keepRing : Cond.instanceMethod yX0_keepRing ∈ lw_g := List.mem_filter.mpr ⟨List.mem_of_getElem? (i := 577) (by decide +kernel), by decide +kernel⟩
theorem cm_X0_keepRing : CM uX0_keepRing 2 := ⟨code_X0_keepRing, ini_X0, ⟨by decide +kernel, by decide +kernel⟩, by decide +kernel, by decide⟩
theorem lkm_X0_283 : Cond.methodLink RX0 283 yX0_beginWait ∈ lw_g := List.mem_filter.mpr ⟨List.mem_of_getElem? (i := 579) (by decide +kernel), by decide +kernel⟩
theorem lk_X0_283 : LK RX0 283 yX0_beginWait := Or.inl lkm_X0_283
theorem im_X0_beginWait : Cond.instanceMethod yX0_beginWait ∈ lw_g := List.mem_filter.mpr ⟨List.mem_of_getElem? (i := 581) (by decide +kernel), by decide +kernel⟩
theorem cm_X0_beginWait : CM uX0_beginWait 2 := ⟨code_X0_beginWait, ini_X0, ⟨by decide +kernel, by decide +kernel⟩, by decide +kernel, by decide⟩
theorem lkm_X0_243 : Cond.methodLink RX0 243 yX0_give ∈ lw_g := List.mem_filter.mpr ⟨List.mem_of_getElem? (i := 583) (by decide +kernel), by decide +kernel⟩
theorem lk_X0_243 : LK RX0 243 yX0_give := Or.inl lkm_X0_243
theorem im_X0_give : Cond.instanceMethod yX0_give ∈ lw_g := List.mem_filter.mpr ⟨List.mem_of_getElem? (i := 585) (by decide +kernel), by decide +kernel⟩
theorem cm_X0_give : CM uX0_give 2 := ⟨code_X0_give, ini_X0, ⟨by decide +kernel, by decide +kernel⟩, by decide +kernel, by decide⟩
theorem lkm_X0_213 : Cond.methodLink RX0 213 yX0_handOver ∈ lw_g := List.mem_filter.mpr ⟨List.mem_of_getElem? (i := 587) (by decide +kernel), by decide +kernel⟩
theorem lk_X0_213 : LK RX0 213 yX0_handOver := Or.inl lkm_X0_213
theorem im_X0_handOver : Cond.instanceMethod yX0_handOver ∈ lw_g := List.mem_filter.mpr ⟨List.mem_of_getElem? (i := 589) (by decide +kernel), by decide +kernel⟩
theorem cm_X0_handOver : CM uX0_handOver 1 := ⟨code_X0_handOver, ini_X0, ⟨by decide +kernel, by decide +kernel⟩, by decide +kernel, by decide⟩
theorem lkm_X0_246 : Cond.methodLink RX0 246 yX0_waitForBell ∈ lw_g := List.mem_filter.mpr ⟨List.mem_of_getElem? (i := 591) (by decide +kernel), by decide +kernel⟩
theorem lk_X0_246 : LK RX0 246 yX0_waitForBell := Or.inl lkm_X0_246
theorem im_X0_waitForBell : Cond.instanceMethod yX0_waitForBell ∈ lw_g := List.mem_filter.mpr ⟨List.mem_of_getElem? (i := 593) (by decide +kernel), by decide +kernel⟩
theorem cm_X0_waitForBell : CM uX0_waitForBell 2 := ⟨code_X0_waitForBell, ini_X0, ⟨by decide +kernel, by decide +kernel⟩, by decide +kernel, by decide⟩
theorem lkm_X0_249 : Cond.methodLink RX0 249 yX0_ringFrom ∈ lw_g := List.mem_filter.mpr ⟨List.mem_of_getElem? (i := 595) (by decide +kernel), by decide +kernel⟩
theorem lk_X0_249 : LK RX0 249 yX0_ringFrom := Or.inl lkm_X0_249
theorem im_X0_ringFrom : Cond.instanceMethod yX0_ringFrom ∈ lw_g := List.mem_filter.mpr ⟨List.mem_of_getElem? (i := 597) (by decide +kernel), by decide +kernel⟩
theorem cm_X0_ringFrom : CM uX0_ringFrom 1 := ⟨code_X0_ringFrom, ini_X0, ⟨by decide +kernel, by decide +kernel⟩, by decide +kernel, by decide⟩
theorem lkm_X0_286 : Cond.methodLink RX0 286 yX0_ringBell ∈ lw_g := List.mem_filter.mpr ⟨List.mem_of_getElem? (i := 599) (by decide +kernel), by decide +kernel⟩
theorem lk_X0_286 : LK RX0 286 yX0_ringBell := Or.inl lkm_X0_286
theorem lkm_X0_252 : Cond.methodLink RX0 252 yX0_sleep ∈ lw_g := List.mem_filter.mpr ⟨List.mem_of_getElem? (i := 600) (by decide +kernel), by decide +kernel⟩
theorem lk_X0_252 : LK RX0 252 yX0_sleep := Or.inl lkm_X0_252
theorem im_X0_sleep : Cond.instanceMethod yX0_sleep ∈ lw_g := List.mem_filter.mpr ⟨List.mem_of_getElem? (i := 602) (by decide +kernel), by decide +kernel⟩
theorem cm_X0_sleep : CM uX0_sleep 2 := ⟨code_X0_sleep, ini_X0, ⟨by decide +kernel, by decide +kernel⟩, by decide +kernel, by decide⟩
theorem lkm_X0_255 : Cond.methodLink RX0 255 yX0_spawn ∈ lw_g := List.mem_filter.mpr ⟨List.mem_of_getElem? (i := 604) (by decide +kernel), by decide +kernel⟩
theorem lk_X0_255 : LK RX0 255 yX0_spawn := Or.inl lkm_X0_255
theorem im_X0_spawn : Cond.instanceMethod yX0_spawn ∈ lw_g := List.mem_filter.mpr ⟨List.mem_of_getElem? (i := 606) (by decide +kernel), by decide +kernel⟩
theorem cm_X0_spawn : CM uX0_spawn 2 := ⟨code_X0_spawn, ini_X0, ⟨by decide +kernel, by decide +kernel⟩, by decide +kernel, by decide⟩
theorem lkm_X0_292 : Cond.methodLink RX0 292 yX0_addTask ∈ lw_g := List.mem_filter.mpr ⟨List.mem_of_getElem? (i := 608) (by decide +kernel), by decide +kernel⟩
theorem lk_X0_292 : LK RX0 292 yX0_addTask := Or.inl lkm_X0_292
theorem lkm_X0_258 : Cond.methodLink RX0 258 yX0_getShorts ∈ lw_g := List.mem_filter.mpr ⟨List.mem_of_getElem? (i := 609) (by decide +kernel), by decide +kernel⟩
theorem lk_X0_258 : LK RX0 258 yX0_getShorts := Or.inl lkm_X0_258
theorem im_X0_getShorts : Cond.instanceMethod yX0_getShorts ∈ lw_g := List.mem_filter.mpr ⟨List.mem_of_getElem? (i := 611) (by decide +kernel), by decide +kernel⟩
theorem cm_X0_getShorts : CM uX0_getShorts 2 := ⟨code_X0_getShorts, ini_X0, ⟨by decide +kernel, by decide +kernel⟩, by decide +kernel, by decide⟩
theorem lk_X0_299 : LK RX0 299 yX4_makeShorts := Or.inr ⟨"FairWheel", List.mem_filter.mpr ⟨List.mem_of_getElem? (i := 613) (by decide +kernel), by decide +kernel⟩⟩
theorem im_X4_makeShorts : Cond.instanceMethod yX4_makeShorts ∈ lw_g := List.mem_filter.mpr ⟨List.mem_of_getElem? (i := 615) (by decide +kernel), by decide +kernel⟩
theorem cm_X4_makeShorts : CM uX4_makeShorts 1 := ⟨code_X4_makeShorts, ini_X4, ⟨by decide +kernel, by decide +kernel⟩, by decide +kernel, by decide⟩
theorem lkm_X4_107 : Cond.methodLink RX4 107 yJ7_fill_fb410 ∈ lw_g := List.mem_filter.mpr ⟨List.mem_of_getElem? (i := 617) (by decide +kernel), by decide +kernel⟩
theorem lk_X4_107 : LK RX4 107 yJ7_fill_fb410 := Or.inl lkm_X4_107
theorem sm_J7_fill_fb410 : Cond.static yJ7_fill_fb410 ∈ lw_g := List.mem_filter.mpr ⟨List.mem_of_getElem? (i := 618) (by decide +kernel), by decide +kernel⟩
theorem cm_J7_fill_fb410 : CM uJ7_fill_fb410 2 := ⟨code_J7_fill_fb410, ini_J7, ⟨by decide +kernel, by decide +kernel⟩, by decide +kernel, by decide⟩
theorem lkm_X0_261 : Cond.methodLink RX0 261 yX0_stamp ∈ lw_g := List.mem_filter.mpr ⟨List.mem_of_getElem? (i := 620) (by decide +kernel), by decide +kernel⟩
theorem lk_X0_261 : LK RX0 261 yX0_stamp := Or.inl lkm_X0_261
theorem im_X0_stamp : Cond.instanceMethod yX0_stamp ∈ lw_g := List.mem_filter.mpr ⟨List.mem_of_getElem? (i := 622) (by decide +kernel), by decide +kernel⟩
theorem cm_X0_stamp : CM uX0_stamp 2 := ⟨code_X0_stamp, ini_X0, ⟨by decide +kernel, by decide +kernel⟩, by decide +kernel, by decide⟩
theorem lk_X0_306 : LK RX0 306 yX4_setShort := Or.inr ⟨"FairWheel", List.mem_filter.mpr ⟨List.mem_of_getElem? (i := 624) (by decide +kernel), by decide +kernel⟩⟩
theorem im_X4_setShort : Cond.instanceMethod yX4_setShort ∈ lw_g := List.mem_filter.mpr ⟨List.mem_of_getElem? (i := 626) (by decide +kernel), by decide +kernel⟩
theorem cm_X4_setShort : CM uX4_setShort 2 := ⟨code_X4_setShort, ini_X4, ⟨by decide +kernel, by decide +kernel⟩, by decide +kernel, by decide⟩
theorem lkm_X4_113 : Cond.methodLink RX4 113 yX4_hasShort ∈ lw_g := List.mem_filter.mpr ⟨List.mem_of_getElem? (i := 628) (by decide +kernel), by decide +kernel⟩
theorem lk_X4_113 : LK RX4 113 yX4_hasShort := Or.inl lkm_X4_113
theorem im_X4_hasShort : Cond.instanceMethod yX4_hasShort ∈ lw_g := List.mem_filter.mpr ⟨List.mem_of_getElem? (i := 630) (by decide +kernel), by decide +kernel⟩
theorem cm_X4_hasShort : CM uX4_hasShort 1 := ⟨code_X4_hasShort, ini_X4, ⟨by decide +kernel, by decide +kernel⟩, by decide +kernel, by decide⟩
theorem lkm_X0_310 : Cond.methodLink RX0 310 yX0_findShort ∈ lw_g := List.mem_filter.mpr ⟨List.mem_of_getElem? (i := 632) (by decide +kernel), by decide +kernel⟩
theorem lk_X0_310 : LK RX0 310 yX0_findShort := Or.inl lkm_X0_310
theorem im_X0_findShort : Cond.instanceMethod yX0_findShort ∈ lw_g := List.mem_filter.mpr ⟨List.mem_of_getElem? (i := 634) (by decide +kernel), by decide +kernel⟩
theorem cm_X0_findShort : CM uX0_findShort 2 := ⟨code_X0_findShort, ini_X0, ⟨by decide +kernel, by decide +kernel⟩, by decide +kernel, by decide⟩
theorem lk_X0_302 : LK RX0 302 yX4_hasShort := Or.inr ⟨"FairWheel", List.mem_filter.mpr ⟨List.mem_of_getElem? (i := 636) (by decide +kernel), by decide +kernel⟩⟩
theorem lkm_X0_264 : Cond.methodLink RX0 264 yX0_claim ∈ lw_g := List.mem_filter.mpr ⟨List.mem_of_getElem? (i := 637) (by decide +kernel), by decide +kernel⟩
theorem lk_X0_264 : LK RX0 264 yX0_claim := Or.inl lkm_X0_264
theorem im_X0_claim : Cond.instanceMethod yX0_claim ∈ lw_g := List.mem_filter.mpr ⟨List.mem_of_getElem? (i := 639) (by decide +kernel), by decide +kernel⟩
theorem cm_X0_claim : CM uX0_claim 2 := ⟨code_X0_claim, ini_X0, ⟨by decide +kernel, by decide +kernel⟩, by decide +kernel, by decide⟩
theorem lk_X0_316 : LK RX0 316 yX4_isOf := Or.inr ⟨"FairWheel", List.mem_filter.mpr ⟨List.mem_of_getElem? (i := 641) (by decide +kernel), by decide +kernel⟩⟩
theorem im_X4_isOf : Cond.instanceMethod yX4_isOf ∈ lw_g := List.mem_filter.mpr ⟨List.mem_of_getElem? (i := 643) (by decide +kernel), by decide +kernel⟩
theorem cm_X4_isOf : CM uX4_isOf 1 := ⟨code_X4_isOf, ini_X4, ⟨by decide +kernel, by decide +kernel⟩, by decide +kernel, by decide⟩
theorem lkm_X0_267 : Cond.methodLink RX0 267 yX0_fail ∈ lw_g := List.mem_filter.mpr ⟨List.mem_of_getElem? (i := 645) (by decide +kernel), by decide +kernel⟩
theorem lk_X0_267 : LK RX0 267 yX0_fail := Or.inl lkm_X0_267
theorem im_X0_fail : Cond.instanceMethod yX0_fail ∈ lw_g := List.mem_filter.mpr ⟨List.mem_of_getElem? (i := 647) (by decide +kernel), by decide +kernel⟩
theorem cm_X0_fail : CM uX0_fail 1 := ⟨code_X0_fail, ini_X0, ⟨by decide +kernel, by decide +kernel⟩, by decide +kernel, by decide⟩
theorem lkm_X0_270 : Cond.methodLink RX0 270 yX0_workByShort ∈ lw_g := List.mem_filter.mpr ⟨List.mem_of_getElem? (i := 649) (by decide +kernel), by decide +kernel⟩
theorem lk_X0_270 : LK RX0 270 yX0_workByShort := Or.inl lkm_X0_270
theorem im_X0_workByShort : Cond.instanceMethod yX0_workByShort ∈ lw_g := List.mem_filter.mpr ⟨List.mem_of_getElem? (i := 651) (by decide +kernel), by decide +kernel⟩
theorem cm_X0_workByShort : CM uX0_workByShort 2 := ⟨code_X0_workByShort, ini_X0, ⟨by decide +kernel, by decide +kernel⟩, by decide +kernel, by decide⟩
theorem lk_X0_313 : LK RX0 313 yX4_shortAt := Or.inr ⟨"FairWheel", List.mem_filter.mpr ⟨List.mem_of_getElem? (i := 653) (by decide +kernel), by decide +kernel⟩⟩
theorem im_X4_shortAt : Cond.instanceMethod yX4_shortAt ∈ lw_g := List.mem_filter.mpr ⟨List.mem_of_getElem? (i := 655) (by decide +kernel), by decide +kernel⟩
theorem cm_X4_shortAt : CM uX4_shortAt 1 := ⟨code_X4_shortAt, ini_X4, ⟨by decide +kernel, by decide +kernel⟩, by decide +kernel, by decide⟩
theorem lkm_X0_197 : Cond.methodLink RX0 197 yX0_end ∈ lw_g := List.mem_filter.mpr ⟨List.mem_of_getElem? (i := 657) (by decide +kernel), by decide +kernel⟩
theorem lk_X0_197 : LK RX0 197 yX0_end := Or.inl lkm_X0_197
theorem im_X0_end : Cond.instanceMethod yX0_end ∈ lw_g := List.mem_filter.mpr ⟨List.mem_of_getElem? (i := 659) (by decide +kernel), by decide +kernel⟩
theorem cm_X0_end : CM uX0_end 2 := ⟨code_X0_end, ini_X0, ⟨by decide +kernel, by decide +kernel⟩, by decide +kernel, by decide⟩
theorem ac_short : Cond.arrayClass .short ∈ lw_g := List.mem_filter.mpr ⟨List.mem_of_getElem? (i := 661) (by decide +kernel), by decide +kernel⟩
theorem lkm_L_53 : Cond.methodLink RL 53 yX5_chosen ∈ lw_g := List.mem_filter.mpr ⟨List.mem_of_getElem? (i := 662) (by decide +kernel), by decide +kernel⟩
theorem lk_L_53 : LK RL 53 yX5_chosen := Or.inl lkm_L_53
theorem im_X5_chosen : Cond.instanceMethod yX5_chosen ∈ lw_g := List.mem_filter.mpr ⟨List.mem_of_getElem? (i := 663) (by decide +kernel), by decide +kernel⟩
theorem sel_X5_chosen : Cond.selects RX5 yX5_chosen yX5_chosen ∈ lw_g := List.mem_filter.mpr ⟨List.mem_of_getElem? (i := 664) (by decide +kernel), by decide +kernel⟩
theorem cm_X5_chosen : CM uX5_chosen 1 := ⟨code_X5_chosen, ini_X5, ⟨by decide +kernel, by decide +kernel⟩, by decide +kernel, by decide⟩
theorem lkm_L_57 : Cond.methodLink RL 57 yX5_about ∈ lw_g := List.mem_filter.mpr ⟨List.mem_of_getElem? (i := 666) (by decide +kernel), by decide +kernel⟩
theorem lk_L_57 : LK RL 57 yX5_about := Or.inl lkm_L_57
theorem im_X5_about : Cond.instanceMethod yX5_about ∈ lw_g := List.mem_filter.mpr ⟨List.mem_of_getElem? (i := 667) (by decide +kernel), by decide +kernel⟩
theorem sel_X5_about : Cond.selects RX5 yX5_about yX5_about ∈ lw_g := List.mem_filter.mpr ⟨List.mem_of_getElem? (i := 668) (by decide +kernel), by decide +kernel⟩
theorem cm_X5_about : CM uX5_about 2 := ⟨code_X5_about, ini_X5, ⟨by decide +kernel, by decide +kernel⟩, by decide +kernel, by decide⟩
theorem lk_X5_112 : LK RX5 112 yX0_taskAt := Or.inr ⟨"FairWheel", List.mem_filter.mpr ⟨List.mem_of_getElem? (i := 670) (by decide +kernel), by decide +kernel⟩⟩
theorem lk_X5_115 : LK RX5 115 yX4_tell := Or.inr ⟨"FairWheel", List.mem_filter.mpr ⟨List.mem_of_getElem? (i := 671) (by decide +kernel), by decide +kernel⟩⟩
theorem im_X4_tell : Cond.instanceMethod yX4_tell ∈ lw_g := List.mem_filter.mpr ⟨List.mem_of_getElem? (i := 673) (by decide +kernel), by decide +kernel⟩
theorem cm_X4_tell : CM uX4_tell 1 := ⟨code_X4_tell, ini_X4, ⟨by decide +kernel, by decide +kernel⟩, by decide +kernel, by decide⟩
theorem lkm_X4_117 : Cond.methodLink RX4 117 yX4_hasDeadline ∈ lw_g := List.mem_filter.mpr ⟨List.mem_of_getElem? (i := 675) (by decide +kernel), by decide +kernel⟩
theorem lk_X4_117 : LK RX4 117 yX4_hasDeadline := Or.inl lkm_X4_117
theorem lkm_L_61 : Cond.methodLink RL 61 yX5_virtual ∈ lw_g := List.mem_filter.mpr ⟨List.mem_of_getElem? (i := 676) (by decide +kernel), by decide +kernel⟩
theorem lk_L_61 : LK RL 61 yX5_virtual := Or.inl lkm_L_61
theorem im_X5_virtual : Cond.instanceMethod yX5_virtual ∈ lw_g := List.mem_filter.mpr ⟨List.mem_of_getElem? (i := 677) (by decide +kernel), by decide +kernel⟩
theorem sel_X5_virtual : Cond.selects RX5 yX5_virtual yX5_virtual ∈ lw_g := List.mem_filter.mpr ⟨List.mem_of_getElem? (i := 678) (by decide +kernel), by decide +kernel⟩
theorem cm_X5_virtual : CM uX5_virtual 1 := ⟨code_X5_virtual, ini_X5, ⟨by decide +kernel, by decide +kernel⟩, by decide +kernel, by decide⟩
theorem cs_X5_118 : Jvm.Cond.constantLong RX5 118 (-1) ∈ lw_g := List.mem_filter.mpr ⟨List.mem_of_getElem? (i := 680) (by decide +kernel), by decide +kernel⟩
theorem lkm_L_66 : Cond.methodLink RL 66 yX5_small ∈ lw_g := List.mem_filter.mpr ⟨List.mem_of_getElem? (i := 681) (by decide +kernel), by decide +kernel⟩
theorem lk_L_66 : LK RL 66 yX5_small := Or.inl lkm_L_66
theorem im_X5_small : Cond.instanceMethod yX5_small ∈ lw_g := List.mem_filter.mpr ⟨List.mem_of_getElem? (i := 682) (by decide +kernel), by decide +kernel⟩
theorem sel_X5_small : Cond.selects RX5 yX5_small yX5_small ∈ lw_g := List.mem_filter.mpr ⟨List.mem_of_getElem? (i := 683) (by decide +kernel), by decide +kernel⟩
theorem cm_X5_small : CM uX5_small 2 := ⟨code_X5_small, ini_X5, ⟨by decide +kernel, by decide +kernel⟩, by decide +kernel, by decide⟩
theorem lk_X5_124 : LK RX5 124 yX4_shortAt := Or.inr ⟨"FairWheel", List.mem_filter.mpr ⟨List.mem_of_getElem? (i := 685) (by decide +kernel), by decide +kernel⟩⟩
theorem lkm_L_70 : Cond.methodLink RL 70 yX5_standing ∈ lw_g := List.mem_filter.mpr ⟨List.mem_of_getElem? (i := 686) (by decide +kernel), by decide +kernel⟩
theorem lk_L_70 : LK RL 70 yX5_standing := Or.inl lkm_L_70
theorem im_X5_standing : Cond.instanceMethod yX5_standing ∈ lw_g := List.mem_filter.mpr ⟨List.mem_of_getElem? (i := 687) (by decide +kernel), by decide +kernel⟩
theorem sel_X5_standing : Cond.selects RX5 yX5_standing yX5_standing ∈ lw_g := List.mem_filter.mpr ⟨List.mem_of_getElem? (i := 688) (by decide +kernel), by decide +kernel⟩
theorem cm_X5_standing : CM uX5_standing 2 := ⟨code_X5_standing, ini_X5, ⟨by decide +kernel, by decide +kernel⟩, by decide +kernel, by decide⟩
theorem lk_X5_127 : LK RX5 127 yX0_settle := Or.inr ⟨"FairWheel", List.mem_filter.mpr ⟨List.mem_of_getElem? (i := 690) (by decide +kernel), by decide +kernel⟩⟩
theorem lkm_X5_133 : Cond.methodLink RX5 133 yX5_classOf ∈ lw_g := List.mem_filter.mpr ⟨List.mem_of_getElem? (i := 691) (by decide +kernel), by decide +kernel⟩
theorem lk_X5_133 : LK RX5 133 yX5_classOf := Or.inl lkm_X5_133
theorem lkm_X5_137 : Cond.methodLink RX5 137 yX5_keyOf ∈ lw_g := List.mem_filter.mpr ⟨List.mem_of_getElem? (i := 692) (by decide +kernel), by decide +kernel⟩
theorem lk_X5_137 : LK RX5 137 yX5_keyOf := Or.inl lkm_X5_137
theorem lkm_X5_141 : Cond.methodLink RX5 141 yX5_numberOf ∈ lw_g := List.mem_filter.mpr ⟨List.mem_of_getElem? (i := 693) (by decide +kernel), by decide +kernel⟩
theorem lk_X5_141 : LK RX5 141 yX5_numberOf := Or.inl lkm_X5_141
theorem sm_X5_numberOf : Cond.static yX5_numberOf ∈ lw_g := List.mem_filter.mpr ⟨List.mem_of_getElem? (i := 694) (by decide +kernel), by decide +kernel⟩
theorem cm_X5_numberOf : CM uX5_numberOf 1 := ⟨code_X5_numberOf, ini_X5, ⟨by decide +kernel, by decide +kernel⟩, by decide +kernel, by decide⟩
theorem cs_X5_220 : Jvm.Cond.constantLong RX5 220 255 ∈ lw_g := List.mem_filter.mpr ⟨List.mem_of_getElem? (i := 696) (by decide +kernel), by decide +kernel⟩
theorem lkm_L_75 : Cond.methodLink RL 75 yX5_holder ∈ lw_g := List.mem_filter.mpr ⟨List.mem_of_getElem? (i := 697) (by decide +kernel), by decide +kernel⟩
theorem lk_L_75 : LK RL 75 yX5_holder := Or.inl lkm_L_75
theorem im_X5_holder : Cond.instanceMethod yX5_holder ∈ lw_g := List.mem_filter.mpr ⟨List.mem_of_getElem? (i := 698) (by decide +kernel), by decide +kernel⟩
theorem sel_X5_holder : Cond.selects RX5 yX5_holder yX5_holder ∈ lw_g := List.mem_filter.mpr ⟨List.mem_of_getElem? (i := 699) (by decide +kernel), by decide +kernel⟩
theorem cm_X5_holder : CM uX5_holder 1 := ⟨code_X5_holder, ini_X5, ⟨by decide +kernel, by decide +kernel⟩, by decide +kernel, by decide⟩
theorem lkm_L_79 : Cond.methodLink RL 79 yX5_ringed ∈ lw_g := List.mem_filter.mpr ⟨List.mem_of_getElem? (i := 701) (by decide +kernel), by decide +kernel⟩
theorem lk_L_79 : LK RL 79 yX5_ringed := Or.inl lkm_L_79
theorem im_X5_ringed : Cond.instanceMethod yX5_ringed ∈ lw_g := List.mem_filter.mpr ⟨List.mem_of_getElem? (i := 702) (by decide +kernel), by decide +kernel⟩
theorem sel_X5_ringed : Cond.selects RX5 yX5_ringed yX5_ringed ∈ lw_g := List.mem_filter.mpr ⟨List.mem_of_getElem? (i := 703) (by decide +kernel), by decide +kernel⟩
theorem cm_X5_ringed : CM uX5_ringed 1 := ⟨code_X5_ringed, ini_X5, ⟨by decide +kernel, by decide +kernel⟩, by decide +kernel, by decide⟩
theorem lkm_L_83 : Cond.methodLink RL 83 yX5_row ∈ lw_g := List.mem_filter.mpr ⟨List.mem_of_getElem? (i := 705) (by decide +kernel), by decide +kernel⟩
theorem lk_L_83 : LK RL 83 yX5_row := Or.inl lkm_L_83
theorem im_X5_row : Cond.instanceMethod yX5_row ∈ lw_g := List.mem_filter.mpr ⟨List.mem_of_getElem? (i := 706) (by decide +kernel), by decide +kernel⟩
theorem sel_X5_row : Cond.selects RX5 yX5_row yX5_row ∈ lw_g := List.mem_filter.mpr ⟨List.mem_of_getElem? (i := 707) (by decide +kernel), by decide +kernel⟩
theorem cm_X5_row : CM uX5_row 2 := ⟨code_X5_row, ini_X5, ⟨by decide +kernel, by decide +kernel⟩, by decide +kernel, by decide⟩
theorem lk_X5_154 : LK RX5 154 yX3_has := Or.inr ⟨"FairWheel", List.mem_filter.mpr ⟨List.mem_of_getElem? (i := 709) (by decide +kernel), by decide +kernel⟩⟩
theorem im_X3_has : Cond.instanceMethod yX3_has ∈ lw_g := List.mem_filter.mpr ⟨List.mem_of_getElem? (i := 711) (by decide +kernel), by decide +kernel⟩
theorem cm_X3_has : CM uX3_has 2 := ⟨code_X3_has, ini_X3, ⟨by decide +kernel, by decide +kernel⟩, by decide +kernel, by decide⟩
theorem lk_X5_160 : LK RX5 160 yX3_get := Or.inr ⟨"FairWheel", List.mem_filter.mpr ⟨List.mem_of_getElem? (i := 713) (by decide +kernel), by decide +kernel⟩⟩
theorem im_X3_get : Cond.instanceMethod yX3_get ∈ lw_g := List.mem_filter.mpr ⟨List.mem_of_getElem? (i := 715) (by decide +kernel), by decide +kernel⟩
theorem cm_X3_get : CM uX3_get 2 := ⟨code_X3_get, ini_X3, ⟨by decide +kernel, by decide +kernel⟩, by decide +kernel, by decide⟩
theorem lkm_X3_25 : Cond.methodLink RX3 25 yX3_has ∈ lw_g := List.mem_filter.mpr ⟨List.mem_of_getElem? (i := 717) (by decide +kernel), by decide +kernel⟩
theorem lk_X3_25 : LK RX3 25 yX3_has := Or.inl lkm_X3_25
theorem lkm_L_87 : Cond.methodLink RL 87 yX5_forge ∈ lw_g := List.mem_filter.mpr ⟨List.mem_of_getElem? (i := 718) (by decide +kernel), by decide +kernel⟩
theorem lk_L_87 : LK RL 87 yX5_forge := Or.inl lkm_L_87
theorem im_X5_forge : Cond.instanceMethod yX5_forge ∈ lw_g := List.mem_filter.mpr ⟨List.mem_of_getElem? (i := 719) (by decide +kernel), by decide +kernel⟩
theorem sel_X5_forge : Cond.selects RX5 yX5_forge yX5_forge ∈ lw_g := List.mem_filter.mpr ⟨List.mem_of_getElem? (i := 720) (by decide +kernel), by decide +kernel⟩
theorem cm_X5_forge : CM uX5_forge 3 := ⟨code_X5_forge, ini_X5, ⟨by decide +kernel, by decide +kernel⟩, by decide +kernel, by decide⟩
theorem lk_X5_164 : LK RX5 164 yX3_grow := Or.inr ⟨"FairWheel", List.mem_filter.mpr ⟨List.mem_of_getElem? (i := 722) (by decide +kernel), by decide +kernel⟩⟩
theorem im_X3_grow : Cond.instanceMethod yX3_grow ∈ lw_g := List.mem_filter.mpr ⟨List.mem_of_getElem? (i := 724) (by decide +kernel), by decide +kernel⟩
theorem cm_X3_grow : CM uX3_grow 3 := ⟨code_X3_grow, ini_X3, ⟨by decide +kernel, by decide +kernel⟩, by decide +kernel, by decide⟩
theorem lkm_L_91 : Cond.methodLink RL 91 yX5_check ∈ lw_g := List.mem_filter.mpr ⟨List.mem_of_getElem? (i := 726) (by decide +kernel), by decide +kernel⟩
theorem lk_L_91 : LK RL 91 yX5_check := Or.inl lkm_L_91
theorem im_X5_check : Cond.instanceMethod yX5_check ∈ lw_g := List.mem_filter.mpr ⟨List.mem_of_getElem? (i := 727) (by decide +kernel), by decide +kernel⟩
theorem sel_X5_check : Cond.selects RX5 yX5_check yX5_check ∈ lw_g := List.mem_filter.mpr ⟨List.mem_of_getElem? (i := 728) (by decide +kernel), by decide +kernel⟩
theorem cm_X5_check : CM uX5_check 0 := ⟨code_X5_check, ini_X5, ⟨by decide +kernel, by decide +kernel⟩, by decide +kernel, by decide⟩
theorem lk_X5_167 : LK RX5 167 yX0_clear := Or.inr ⟨"FairWheel", List.mem_filter.mpr ⟨List.mem_of_getElem? (i := 730) (by decide +kernel), by decide +kernel⟩⟩
theorem im_X0_clear : Cond.instanceMethod yX0_clear ∈ lw_g := List.mem_filter.mpr ⟨List.mem_of_getElem? (i := 732) (by decide +kernel), by decide +kernel⟩
theorem cm_X0_clear : CM uX0_clear 0 := ⟨code_X0_clear, ini_X0, ⟨by decide +kernel, by decide +kernel⟩, by decide +kernel, by decide⟩
theorem lkm_X5_173 : Cond.methodLink RX5 173 yX5_redo ∈ lw_g := List.mem_filter.mpr ⟨List.mem_of_getElem? (i := 734) (by decide +kernel), by decide +kernel⟩
theorem lk_X5_173 : LK RX5 173 yX5_redo := Or.inl lkm_X5_173
theorem im_X5_redo : Cond.instanceMethod yX5_redo ∈ lw_g := List.mem_filter.mpr ⟨List.mem_of_getElem? (i := 736) (by decide +kernel), by decide +kernel⟩
theorem cm_X5_redo : CM uX5_redo 2 := ⟨code_X5_redo, ini_X5, ⟨by decide +kernel, by decide +kernel⟩, by decide +kernel, by decide⟩
theorem lk_X5_215 : LK RX5 215 yX1_get := Or.inr ⟨"FairWheel", List.mem_filter.mpr ⟨List.mem_of_getElem? (i := 738) (by decide +kernel), by decide +kernel⟩⟩
theorem im_X1_get : Cond.instanceMethod yX1_get ∈ lw_g := List.mem_filter.mpr ⟨List.mem_of_getElem? (i := 740) (by decide +kernel), by decide +kernel⟩
theorem cm_X1_get : CM uX1_get 2 := ⟨code_X1_get, ini_X1, ⟨by decide +kernel, by decide +kernel⟩, by decide +kernel, by decide⟩
theorem lk_X5_177 : LK RX5 177 yX3_firstUnlike := Or.inr ⟨"FairWheel", List.mem_filter.mpr ⟨List.mem_of_getElem? (i := 742) (by decide +kernel), by decide +kernel⟩⟩
theorem im_X3_firstUnlike : Cond.instanceMethod yX3_firstUnlike ∈ lw_g := List.mem_filter.mpr ⟨List.mem_of_getElem? (i := 744) (by decide +kernel), by decide +kernel⟩
theorem cm_X3_firstUnlike : CM uX3_firstUnlike 1 := ⟨code_X3_firstUnlike, ini_X3, ⟨by decide +kernel, by decide +kernel⟩, by decide +kernel, by decide⟩
theorem lkm_L_96 : Cond.methodLink RL 96 yX5_checkedTo ∈ lw_g := List.mem_filter.mpr ⟨List.mem_of_getElem? (i := 746) (by decide +kernel), by decide +kernel⟩
theorem lk_L_96 : LK RL 96 yX5_checkedTo := Or.inl lkm_L_96
theorem im_X5_checkedTo : Cond.instanceMethod yX5_checkedTo ∈ lw_g := List.mem_filter.mpr ⟨List.mem_of_getElem? (i := 747) (by decide +kernel), by decide +kernel⟩
theorem sel_X5_checkedTo : Cond.selects RX5 yX5_checkedTo yX5_checkedTo ∈ lw_g := List.mem_filter.mpr ⟨List.mem_of_getElem? (i := 748) (by decide +kernel), by decide +kernel⟩
theorem cm_X5_checkedTo : CM uX5_checkedTo 0 := ⟨code_X5_checkedTo, ini_X5, ⟨by decide +kernel, by decide +kernel⟩, by decide +kernel, by decide⟩
theorem lkm_L_100 : Cond.methodLink RL 100 yX5_bound ∈ lw_g := List.mem_filter.mpr ⟨List.mem_of_getElem? (i := 750) (by decide +kernel), by decide +kernel⟩
theorem lk_L_100 : LK RL 100 yX5_bound := Or.inl lkm_L_100
theorem im_X5_bound : Cond.instanceMethod yX5_bound ∈ lw_g := List.mem_filter.mpr ⟨List.mem_of_getElem? (i := 751) (by decide +kernel), by decide +kernel⟩
theorem sel_X5_bound : Cond.selects RX5 yX5_bound yX5_bound ∈ lw_g := List.mem_filter.mpr ⟨List.mem_of_getElem? (i := 752) (by decide +kernel), by decide +kernel⟩
theorem cm_X5_bound : CM uX5_bound 1 := ⟨code_X5_bound, ini_X5, ⟨by decide +kernel, by decide +kernel⟩, by decide +kernel, by decide⟩
theorem lk_X5_184 : LK RX5 184 yX0_ticksUntilChosen := Or.inr ⟨"FairWheel", List.mem_filter.mpr ⟨List.mem_of_getElem? (i := 754) (by decide +kernel), by decide +kernel⟩⟩
theorem im_X0_ticksUntilChosen : Cond.instanceMethod yX0_ticksUntilChosen ∈ lw_g := List.mem_filter.mpr ⟨List.mem_of_getElem? (i := 756) (by decide +kernel), by decide +kernel⟩
theorem cm_X0_ticksUntilChosen : CM uX0_ticksUntilChosen 1 := ⟨code_X0_ticksUntilChosen, ini_X0, ⟨by decide +kernel, by decide +kernel⟩, by decide +kernel, by decide⟩
theorem lk_X0_319 : LK RX0 319 yX5_numberOf := Or.inr ⟨"FairWheel", List.mem_filter.mpr ⟨List.mem_of_getElem? (i := 758) (by decide +kernel), by decide +kernel⟩⟩
theorem lkm_X0_322 : Cond.methodLink RX0 322 yX0_turnsAhead ∈ lw_g := List.mem_filter.mpr ⟨List.mem_of_getElem? (i := 759) (by decide +kernel), by decide +kernel⟩
theorem lk_X0_322 : LK RX0 322 yX0_turnsAhead := Or.inl lkm_X0_322
theorem im_X0_turnsAhead : Cond.instanceMethod yX0_turnsAhead ∈ lw_g := List.mem_filter.mpr ⟨List.mem_of_getElem? (i := 761) (by decide +kernel), by decide +kernel⟩
theorem cm_X0_turnsAhead : CM uX0_turnsAhead 2 := ⟨code_X0_turnsAhead, ini_X0, ⟨by decide +kernel, by decide +kernel⟩, by decide +kernel, by decide⟩
theorem lk_X0_326 : LK RX0 326 yX4_paymentsBehind := Or.inr ⟨"FairWheel", List.mem_filter.mpr ⟨List.mem_of_getElem? (i := 763) (by decide +kernel), by decide +kernel⟩⟩
theorem im_X4_paymentsBehind : Cond.instanceMethod yX4_paymentsBehind ∈ lw_g := List.mem_filter.mpr ⟨List.mem_of_getElem? (i := 765) (by decide +kernel), by decide +kernel⟩
theorem cm_X4_paymentsBehind : CM uX4_paymentsBehind 1 := ⟨code_X4_paymentsBehind, ini_X4, ⟨by decide +kernel, by decide +kernel⟩, by decide +kernel, by decide⟩
theorem lk_X4_95 : LK RX4 95 yX5_keyOf := Or.inr ⟨"FairWheel", List.mem_filter.mpr ⟨List.mem_of_getElem? (i := 767) (by decide +kernel), by decide +kernel⟩⟩
theorem lk_X4_99 : LK RX4 99 yX5_numberOf := Or.inr ⟨"FairWheel", List.mem_filter.mpr ⟨List.mem_of_getElem? (i := 768) (by decide +kernel), by decide +kernel⟩⟩
theorem cs_X4_103 : Jvm.Cond.constantLong RX4 103 999 ∈ lw_g := List.mem_filter.mpr ⟨List.mem_of_getElem? (i := 769) (by decide +kernel), by decide +kernel⟩
theorem cs_X4_105 : Jvm.Cond.constantLong RX4 105 1000 ∈ lw_g := List.mem_filter.mpr ⟨List.mem_of_getElem? (i := 770) (by decide +kernel), by decide +kernel⟩
theorem lkm_X0_329 : Cond.methodLink RX0 329 yJ9_max_f86c9 ∈ lw_g := List.mem_filter.mpr ⟨List.mem_of_getElem? (i := 771) (by decide +kernel), by decide +kernel⟩
theorem lk_X0_329 : LK RX0 329 yJ9_max_f86c9 := Or.inl lkm_X0_329
theorem sm_J9_max_f86c9 : Cond.static yJ9_max_f86c9 ∈ lw_g := List.mem_filter.mpr ⟨List.mem_of_getElem? (i := 772) (by decide +kernel), by decide +kernel⟩
theorem cm_J9_max_f86c9 : CM uJ9_max_f86c9 2 := ⟨code_J9_max_f86c9, ini_J9, ⟨by decide +kernel, by decide +kernel⟩, by decide +kernel, by decide⟩
theorem cs_X0_332 : Jvm.Cond.constantLong RX0 332 2 ∈ lw_g := List.mem_filter.mpr ⟨List.mem_of_getElem? (i := 774) (by decide +kernel), by decide +kernel⟩
theorem lkm_L_104 : Cond.methodLink RL 104 yX5_trace ∈ lw_g := List.mem_filter.mpr ⟨List.mem_of_getElem? (i := 775) (by decide +kernel), by decide +kernel⟩
theorem lk_L_104 : LK RL 104 yX5_trace := Or.inl lkm_L_104
theorem im_X5_trace : Cond.instanceMethod yX5_trace ∈ lw_g := List.mem_filter.mpr ⟨List.mem_of_getElem? (i := 776) (by decide +kernel), by decide +kernel⟩
theorem sel_X5_trace : Cond.selects RX5 yX5_trace yX5_trace ∈ lw_g := List.mem_filter.mpr ⟨List.mem_of_getElem? (i := 777) (by decide +kernel), by decide +kernel⟩
theorem cm_X5_trace : CM uX5_trace 1 := ⟨code_X5_trace, ini_X5, ⟨by decide +kernel, by decide +kernel⟩, by decide +kernel, by decide⟩
theorem lkm_L_108 : Cond.methodLink RL 108 yX5_count ∈ lw_g := List.mem_filter.mpr ⟨List.mem_of_getElem? (i := 779) (by decide +kernel), by decide +kernel⟩
theorem lk_L_108 : LK RL 108 yX5_count := Or.inl lkm_L_108
theorem im_X5_count : Cond.instanceMethod yX5_count ∈ lw_g := List.mem_filter.mpr ⟨List.mem_of_getElem? (i := 780) (by decide +kernel), by decide +kernel⟩
theorem sel_X5_count : Cond.selects RX5 yX5_count yX5_count ∈ lw_g := List.mem_filter.mpr ⟨List.mem_of_getElem? (i := 781) (by decide +kernel), by decide +kernel⟩
theorem cm_X5_count : CM uX5_count 1 := ⟨code_X5_count, ini_X5, ⟨by decide +kernel, by decide +kernel⟩, by decide +kernel, by decide⟩
theorem lk_X5_191 : LK RX5 191 yX0_howMany := Or.inr ⟨"FairWheel", List.mem_filter.mpr ⟨List.mem_of_getElem? (i := 783) (by decide +kernel), by decide +kernel⟩⟩
theorem im_X0_howMany : Cond.instanceMethod yX0_howMany ∈ lw_g := List.mem_filter.mpr ⟨List.mem_of_getElem? (i := 785) (by decide +kernel), by decide +kernel⟩
theorem cm_X0_howMany : CM uX0_howMany 1 := ⟨code_X0_howMany, ini_X0, ⟨by decide +kernel, by decide +kernel⟩, by decide +kernel, by decide⟩
theorem lkm_L_112 : Cond.methodLink RL 112 yX5_image ∈ lw_g := List.mem_filter.mpr ⟨List.mem_of_getElem? (i := 787) (by decide +kernel), by decide +kernel⟩
theorem lk_L_112 : LK RL 112 yX5_image := Or.inl lkm_L_112
theorem im_X5_image : Cond.instanceMethod yX5_image ∈ lw_g := List.mem_filter.mpr ⟨List.mem_of_getElem? (i := 788) (by decide +kernel), by decide +kernel⟩
theorem sel_X5_image : Cond.selects RX5 yX5_image yX5_image ∈ lw_g := List.mem_filter.mpr ⟨List.mem_of_getElem? (i := 789) (by decide +kernel), by decide +kernel⟩
theorem cm_X5_image : CM uX5_image 0 := ⟨code_X5_image, ini_X5, ⟨by decide +kernel, by decide +kernel⟩, by decide +kernel, by decide⟩
theorem lk_X5_201 : LK RX5 201 yX0_become := Or.inr ⟨"FairWheel", List.mem_filter.mpr ⟨List.mem_of_getElem? (i := 791) (by decide +kernel), by decide +kernel⟩⟩
theorem im_X0_become : Cond.instanceMethod yX0_become ∈ lw_g := List.mem_filter.mpr ⟨List.mem_of_getElem? (i := 793) (by decide +kernel), by decide +kernel⟩
theorem cm_X0_become : CM uX0_become 1 := ⟨code_X0_become, ini_X0, ⟨by decide +kernel, by decide +kernel⟩, by decide +kernel, by decide⟩
theorem lk_X0_73 : LK RX0 73 yX4_become := Or.inr ⟨"FairWheel", List.mem_filter.mpr ⟨List.mem_of_getElem? (i := 795) (by decide +kernel), by decide +kernel⟩⟩
theorem im_X4_become : Cond.instanceMethod yX4_become ∈ lw_g := List.mem_filter.mpr ⟨List.mem_of_getElem? (i := 797) (by decide +kernel), by decide +kernel⟩
theorem cm_X4_become : CM uX4_become 1 := ⟨code_X4_become, ini_X4, ⟨by decide +kernel, by decide +kernel⟩, by decide +kernel, by decide⟩
theorem lkm_X4_71 : Cond.methodLink RX4 71 yX4_begin ∈ lw_g := List.mem_filter.mpr ⟨List.mem_of_getElem? (i := 799) (by decide +kernel), by decide +kernel⟩
theorem lk_X4_71 : LK RX4 71 yX4_begin := Or.inl lkm_X4_71
theorem lkm_X4_75 : Cond.methodLink RX4 75 yX4_makeShorts ∈ lw_g := List.mem_filter.mpr ⟨List.mem_of_getElem? (i := 800) (by decide +kernel), by decide +kernel⟩
theorem lk_X4_75 : LK RX4 75 yX4_makeShorts := Or.inl lkm_X4_75
theorem lkm_X4_79 : Cond.methodLink RX4 79 yX4_shortAt ∈ lw_g := List.mem_filter.mpr ⟨List.mem_of_getElem? (i := 801) (by decide +kernel), by decide +kernel⟩
theorem lk_X4_79 : LK RX4 79 yX4_shortAt := Or.inl lkm_X4_79
theorem lkm_X4_83 : Cond.methodLink RX4 83 yX4_setShort ∈ lw_g := List.mem_filter.mpr ⟨List.mem_of_getElem? (i := 802) (by decide +kernel), by decide +kernel⟩
theorem lk_X4_83 : LK RX4 83 yX4_setShort := Or.inl lkm_X4_83
theorem lk_X0_77 : LK RX0 77 yX2_become := Or.inr ⟨"FairWheel", List.mem_filter.mpr ⟨List.mem_of_getElem? (i := 803) (by decide +kernel), by decide +kernel⟩⟩
theorem im_X2_become : Cond.instanceMethod yX2_become ∈ lw_g := List.mem_filter.mpr ⟨List.mem_of_getElem? (i := 805) (by decide +kernel), by decide +kernel⟩
theorem cm_X2_become : CM uX2_become 1 := ⟨code_X2_become, ini_X2, ⟨by decide +kernel, by decide +kernel⟩, by decide +kernel, by decide⟩
theorem lkm_X2_25 : Cond.methodLink RX2 25 (⟨"java/lang/System", "arraycopy", "(Ljava/lang/Object;ILjava/lang/Object;II)V"⟩ : MethodName) ∈ lw_g := List.mem_filter.mpr ⟨List.mem_of_getElem? (i := 807) (by decide +kernel), by decide +kernel⟩
theorem lk_X2_25 : LK RX2 25 (⟨"java/lang/System", "arraycopy", "(Ljava/lang/Object;ILjava/lang/Object;II)V"⟩ : MethodName) := Or.inl lkm_X2_25
theorem lk_X0_80 : LK RX0 80 yX3_become := Or.inr ⟨"FairWheel", List.mem_filter.mpr ⟨List.mem_of_getElem? (i := 808) (by decide +kernel), by decide +kernel⟩⟩
theorem im_X3_become : Cond.instanceMethod yX3_become ∈ lw_g := List.mem_filter.mpr ⟨List.mem_of_getElem? (i := 810) (by decide +kernel), by decide +kernel⟩
theorem cm_X3_become : CM uX3_become 1 := ⟨code_X3_become, ini_X3, ⟨by decide +kernel, by decide +kernel⟩, by decide +kernel, by decide⟩
theorem lkm_X3_19 : Cond.methodLink RX3 19 (⟨"java/lang/System", "arraycopy", "(Ljava/lang/Object;ILjava/lang/Object;II)V"⟩ : MethodName) ∈ lw_g := List.mem_filter.mpr ⟨List.mem_of_getElem? (i := 812) (by decide +kernel), by decide +kernel⟩
theorem lk_X3_19 : LK RX3 19 (⟨"java/lang/System", "arraycopy", "(Ljava/lang/Object;ILjava/lang/Object;II)V"⟩ : MethodName) := Or.inl lkm_X3_19
theorem lkm_X0_83 : Cond.methodLink RX0 83 (⟨"java/lang/System", "arraycopy", "(Ljava/lang/Object;ILjava/lang/Object;II)V"⟩ : MethodName) ∈ lw_g := List.mem_filter.mpr ⟨List.mem_of_getElem? (i := 813) (by decide +kernel), by decide +kernel⟩
theorem lk_X0_83 : LK RX0 83 (⟨"java/lang/System", "arraycopy", "(Ljava/lang/Object;ILjava/lang/Object;II)V"⟩ : MethodName) := Or.inl lkm_X0_83
theorem lk_X5_205 : LK RX5 205 yX1_become := Or.inr ⟨"FairWheel", List.mem_filter.mpr ⟨List.mem_of_getElem? (i := 814) (by decide +kernel), by decide +kernel⟩⟩
theorem im_X1_become : Cond.instanceMethod yX1_become ∈ lw_g := List.mem_filter.mpr ⟨List.mem_of_getElem? (i := 816) (by decide +kernel), by decide +kernel⟩
theorem cm_X1_become : CM uX1_become 1 := ⟨code_X1_become, ini_X1, ⟨by decide +kernel, by decide +kernel⟩, by decide +kernel, by decide⟩
theorem lkm_X1_19 : Cond.methodLink RX1 19 (⟨"java/lang/System", "arraycopy", "(Ljava/lang/Object;ILjava/lang/Object;II)V"⟩ : MethodName) ∈ lw_g := List.mem_filter.mpr ⟨List.mem_of_getElem? (i := 818) (by decide +kernel), by decide +kernel⟩
theorem lk_X1_19 : LK RX1 19 (⟨"java/lang/System", "arraycopy", "(Ljava/lang/Object;ILjava/lang/Object;II)V"⟩ : MethodName) := Or.inl lkm_X1_19
theorem lk_X5_208 : LK RX5 208 yX0_summed := Or.inr ⟨"FairWheel", List.mem_filter.mpr ⟨List.mem_of_getElem? (i := 819) (by decide +kernel), by decide +kernel⟩⟩
theorem im_X0_summed : Cond.instanceMethod yX0_summed ∈ lw_g := List.mem_filter.mpr ⟨List.mem_of_getElem? (i := 821) (by decide +kernel), by decide +kernel⟩
theorem cm_X0_summed : CM uX0_summed 0 := ⟨code_X0_summed, ini_X0, ⟨by decide +kernel, by decide +kernel⟩, by decide +kernel, by decide⟩
theorem cs_X0_334 : Jvm.Cond.constantLong RX0 334 7 ∈ lw_g := List.mem_filter.mpr ⟨List.mem_of_getElem? (i := 823) (by decide +kernel), by decide +kernel⟩
theorem cs_X0_336 : Jvm.Cond.constantLong RX0 336 31 ∈ lw_g := List.mem_filter.mpr ⟨List.mem_of_getElem? (i := 824) (by decide +kernel), by decide +kernel⟩
theorem lk_X0_338 : LK RX0 338 yX4_tell := Or.inr ⟨"FairWheel", List.mem_filter.mpr ⟨List.mem_of_getElem? (i := 825) (by decide +kernel), by decide +kernel⟩⟩
theorem lk_X0_341 : LK RX0 341 yX3_summed := Or.inr ⟨"FairWheel", List.mem_filter.mpr ⟨List.mem_of_getElem? (i := 826) (by decide +kernel), by decide +kernel⟩⟩
theorem im_X3_summed : Cond.instanceMethod yX3_summed ∈ lw_g := List.mem_filter.mpr ⟨List.mem_of_getElem? (i := 828) (by decide +kernel), by decide +kernel⟩
theorem cm_X3_summed : CM uX3_summed 1 := ⟨code_X3_summed, ini_X3, ⟨by decide +kernel, by decide +kernel⟩, by decide +kernel, by decide⟩
theorem cs_X3_42 : Jvm.Cond.constantLong RX3 42 31 ∈ lw_g := List.mem_filter.mpr ⟨List.mem_of_getElem? (i := 830) (by decide +kernel), by decide +kernel⟩
theorem lkm_L_117 : Cond.methodLink RL 117 yX5_load ∈ lw_g := List.mem_filter.mpr ⟨List.mem_of_getElem? (i := 831) (by decide +kernel), by decide +kernel⟩
theorem lk_L_117 : LK RL 117 yX5_load := Or.inl lkm_L_117
theorem im_X5_load : Cond.instanceMethod yX5_load ∈ lw_g := List.mem_filter.mpr ⟨List.mem_of_getElem? (i := 832) (by decide +kernel), by decide +kernel⟩
theorem sel_X5_load : Cond.selects RX5 yX5_load yX5_load ∈ lw_g := List.mem_filter.mpr ⟨List.mem_of_getElem? (i := 833) (by decide +kernel), by decide +kernel⟩
theorem cm_X5_load : CM uX5_load 0 := ⟨code_X5_load, ini_X5, ⟨by decide +kernel, by decide +kernel⟩, by decide +kernel, by decide⟩
theorem lkm_L_122 : Cond.methodLink RL 122 yX5_digest ∈ lw_g := List.mem_filter.mpr ⟨List.mem_of_getElem? (i := 835) (by decide +kernel), by decide +kernel⟩
theorem lk_L_122 : LK RL 122 yX5_digest := Or.inl lkm_L_122
theorem im_X5_digest : Cond.instanceMethod yX5_digest ∈ lw_g := List.mem_filter.mpr ⟨List.mem_of_getElem? (i := 836) (by decide +kernel), by decide +kernel⟩
theorem sel_X5_digest : Cond.selects RX5 yX5_digest yX5_digest ∈ lw_g := List.mem_filter.mpr ⟨List.mem_of_getElem? (i := 837) (by decide +kernel), by decide +kernel⟩
theorem cm_X5_digest : CM uX5_digest 0 := ⟨code_X5_digest, ini_X5, ⟨by decide +kernel, by decide +kernel⟩, by decide +kernel, by decide⟩
theorem lkm_L_126 : Cond.methodLink RL 126 yX5_status ∈ lw_g := List.mem_filter.mpr ⟨List.mem_of_getElem? (i := 839) (by decide +kernel), by decide +kernel⟩
theorem lk_L_126 : LK RL 126 yX5_status := Or.inl lkm_L_126
theorem im_X5_status : Cond.instanceMethod yX5_status ∈ lw_g := List.mem_filter.mpr ⟨List.mem_of_getElem? (i := 840) (by decide +kernel), by decide +kernel⟩
theorem sel_X5_status : Cond.selects RX5 yX5_status yX5_status ∈ lw_g := List.mem_filter.mpr ⟨List.mem_of_getElem? (i := 841) (by decide +kernel), by decide +kernel⟩
theorem cm_X5_status : CM uX5_status 0 := ⟨code_X5_status, ini_X5, ⟨by decide +kernel, by decide +kernel⟩, by decide +kernel, by decide⟩
theorem cl_L_10 : Cond.classLink RL 10 RX6 ∈ lw_g := List.mem_filter.mpr ⟨List.mem_of_getElem? (i := 843) (by decide +kernel), by decide +kernel⟩
theorem ins_X6 : Cond.instantiable RX6 8 ∈ lw_g := List.mem_filter.mpr ⟨List.mem_of_getElem? (i := 844) (by decide +kernel), by decide +kernel⟩
theorem lkm_L_12 : Cond.methodLink RL 12 yX6_init ∈ lw_g := List.mem_filter.mpr ⟨List.mem_of_getElem? (i := 845) (by decide +kernel), by decide +kernel⟩
theorem lk_L_12 : LK RL 12 yX6_init := Or.inl lkm_L_12
theorem im_X6_init : Cond.instanceMethod yX6_init ∈ lw_g := List.mem_filter.mpr ⟨List.mem_of_getElem? (i := 846) (by decide +kernel), by decide +kernel⟩
theorem cm_X6_init : CM uX6_init 0 := ⟨code_X6_init, ini_X6, ⟨by decide +kernel, by decide +kernel⟩, by decide +kernel, by decide⟩
theorem lkm_X6_1 : Cond.methodLink RX6 1 objectInit ∈ lw_g := List.mem_filter.mpr ⟨List.mem_of_getElem? (i := 848) (by decide +kernel), by decide +kernel⟩
theorem lk_X6_1 : LK RX6 1 objectInit := Or.inl lkm_X6_1
theorem cs_X6_7 : Jvm.Cond.constant RX6 7 142000 ∈ lw_g := List.mem_filter.mpr ⟨List.mem_of_getElem? (i := 849) (by decide +kernel), by decide +kernel⟩
theorem fl_X6_8m : Cond.fieldLink RX6 8 (TX6 0).1 (TX6 0).2.1 (TX6 0).2.2.1 ∈ lw_g := List.mem_filter.mpr ⟨List.mem_of_getElem? (i := 850) (by decide +kernel), by decide +kernel⟩
theorem fl_X6_8 : FL RX6 8 6 0 := ⟨_, rfl, by decide, Or.inl fl_X6_8m⟩
theorem fl_X6_14m : Cond.fieldLink RX6 14 (TX6 1).1 (TX6 1).2.1 (TX6 1).2.2.1 ∈ lw_g := List.mem_filter.mpr ⟨List.mem_of_getElem? (i := 851) (by decide +kernel), by decide +kernel⟩
theorem fl_X6_14 : FL RX6 14 6 1 := ⟨_, rfl, by decide, Or.inl fl_X6_14m⟩
theorem fl_X6_18m : Cond.fieldLink RX6 18 (TX6 2).1 (TX6 2).2.1 (TX6 2).2.2.1 ∈ lw_g := List.mem_filter.mpr ⟨List.mem_of_getElem? (i := 852) (by decide +kernel), by decide +kernel⟩
theorem fl_X6_18 : FL RX6 18 6 2 := ⟨_, rfl, by decide, Or.inl fl_X6_18m⟩
theorem fl_X6_21m : Cond.fieldLink RX6 21 (TX6 3).1 (TX6 3).2.1 (TX6 3).2.2.1 ∈ lw_g := List.mem_filter.mpr ⟨List.mem_of_getElem? (i := 853) (by decide +kernel), by decide +kernel⟩
theorem fl_X6_21 : FL RX6 21 6 3 := ⟨_, rfl, by decide, Or.inl fl_X6_21m⟩
theorem fl_X6_194m : Cond.fieldLink RX6 194 (TX6 4).1 (TX6 4).2.1 (TX6 4).2.2.1 ∈ lw_g := List.mem_filter.mpr ⟨List.mem_of_getElem? (i := 854) (by decide +kernel), by decide +kernel⟩
theorem fl_X6_194 : FL RX6 194 6 4 := ⟨_, rfl, by decide, Or.inl fl_X6_194m⟩
theorem fl_X6_40m : Cond.fieldLink RX6 40 (TX6 5).1 (TX6 5).2.1 (TX6 5).2.2.1 ∈ lw_g := List.mem_filter.mpr ⟨List.mem_of_getElem? (i := 855) (by decide +kernel), by decide +kernel⟩
theorem fl_X6_40 : FL RX6 40 6 5 := ⟨_, rfl, by decide, Or.inl fl_X6_40m⟩
theorem fl_X6_24m : Cond.fieldLink RX6 24 (TX6 6).1 (TX6 6).2.1 (TX6 6).2.2.1 ∈ lw_g := List.mem_filter.mpr ⟨List.mem_of_getElem? (i := 856) (by decide +kernel), by decide +kernel⟩
theorem fl_X6_24 : FL RX6 24 6 6 := ⟨_, rfl, by decide, Or.inl fl_X6_24m⟩
theorem fl_X6_28m : Cond.fieldLink RX6 28 (TX6 7).1 (TX6 7).2.1 (TX6 7).2.2.1 ∈ lw_g := List.mem_filter.mpr ⟨List.mem_of_getElem? (i := 857) (by decide +kernel), by decide +kernel⟩
theorem fl_X6_28 : FL RX6 28 6 7 := ⟨_, rfl, by decide, Or.inl fl_X6_28m⟩
theorem ac_boolean : Cond.arrayClass .boolean ∈ lw_g := List.mem_filter.mpr ⟨List.mem_of_getElem? (i := 875) (by decide +kernel), by decide +kernel⟩
theorem lkm_L_19 : Cond.methodLink RL 19 yX6_program ∈ lw_g := List.mem_filter.mpr ⟨List.mem_of_getElem? (i := 876) (by decide +kernel), by decide +kernel⟩
theorem lk_L_19 : LK RL 19 yX6_program := Or.inl lkm_L_19
theorem im_X6_program : Cond.instanceMethod yX6_program ∈ lw_g := List.mem_filter.mpr ⟨List.mem_of_getElem? (i := 877) (by decide +kernel), by decide +kernel⟩
theorem sel_X6_program : Cond.selects RX6 yX6_program yX6_program ∈ lw_g := List.mem_filter.mpr ⟨List.mem_of_getElem? (i := 878) (by decide +kernel), by decide +kernel⟩
theorem cm_X6_program : CM uX6_program 3 := ⟨code_X6_program, ini_X6, ⟨by decide +kernel, by decide +kernel⟩, by decide +kernel, by decide⟩
theorem cs_X6_125 : Jvm.Cond.constantLong RX6 125 31 ∈ lw_g := List.mem_filter.mpr ⟨List.mem_of_getElem? (i := 880) (by decide +kernel), by decide +kernel⟩
theorem lkm_X6_32 : Cond.methodLink RX6 32 yX6_isIn ∈ lw_g := List.mem_filter.mpr ⟨List.mem_of_getElem? (i := 881) (by decide +kernel), by decide +kernel⟩
theorem lk_X6_32 : LK RX6 32 yX6_isIn := Or.inl lkm_X6_32
theorem sm_X6_isIn : Cond.static yX6_isIn ∈ lw_g := List.mem_filter.mpr ⟨List.mem_of_getElem? (i := 882) (by decide +kernel), by decide +kernel⟩
theorem cm_X6_isIn : CM uX6_isIn 3 := ⟨code_X6_isIn, ini_X6, ⟨by decide +kernel, by decide +kernel⟩, by decide +kernel, by decide⟩
theorem lkm_X6_120 : Cond.methodLink RX6 120 yJ9_max_7cf53 ∈ lw_g := List.mem_filter.mpr ⟨List.mem_of_getElem? (i := 884) (by decide +kernel), by decide +kernel⟩
theorem lk_X6_120 : LK RX6 120 yJ9_max_7cf53 := Or.inl lkm_X6_120
theorem cs_X6_151 : Jvm.Cond.constantLong RX6 151 8 ∈ lw_g := List.mem_filter.mpr ⟨List.mem_of_getElem? (i := 885) (by decide +kernel), by decide +kernel⟩
theorem lkm_X6_153 : Cond.methodLink RX6 153 yX6_isRefused ∈ lw_g := List.mem_filter.mpr ⟨List.mem_of_getElem? (i := 886) (by decide +kernel), by decide +kernel⟩
theorem lk_X6_153 : LK RX6 153 yX6_isRefused := Or.inl lkm_X6_153
theorem im_X6_isRefused : Cond.instanceMethod yX6_isRefused ∈ lw_g := List.mem_filter.mpr ⟨List.mem_of_getElem? (i := 888) (by decide +kernel), by decide +kernel⟩
theorem cm_X6_isRefused : CM uX6_isRefused 1 := ⟨code_X6_isRefused, ini_X6, ⟨by decide +kernel, by decide +kernel⟩, by decide +kernel, by decide⟩
theorem lkm_L_24 : Cond.methodLink RL 24 yX6_task ∈ lw_g := List.mem_filter.mpr ⟨List.mem_of_getElem? (i := 890) (by decide +kernel), by decide +kernel⟩
theorem lk_L_24 : LK RL 24 yX6_task := Or.inl lkm_L_24
theorem im_X6_task : Cond.instanceMethod yX6_task ∈ lw_g := List.mem_filter.mpr ⟨List.mem_of_getElem? (i := 891) (by decide +kernel), by decide +kernel⟩
theorem sel_X6_task : Cond.selects RX6 yX6_task yX6_task ∈ lw_g := List.mem_filter.mpr ⟨List.mem_of_getElem? (i := 892) (by decide +kernel), by decide +kernel⟩
theorem cm_X6_task : CM uX6_task 3 := ⟨code_X6_task, ini_X6, ⟨by decide +kernel, by decide +kernel⟩, by decide +kernel, by decide⟩
theorem cs_X6_131 : Jvm.Cond.constantLong RX6 131 4 ∈ lw_g := List.mem_filter.mpr ⟨List.mem_of_getElem? (i := 894) (by decide +kernel), by decide +kernel⟩
theorem cs_X6_156 : Jvm.Cond.constantLong RX6 156 1000 ∈ lw_g := List.mem_filter.mpr ⟨List.mem_of_getElem? (i := 895) (by decide +kernel), by decide +kernel⟩
theorem lkm_X6_127 : Cond.methodLink RX6 127 yX6_added ∈ lw_g := List.mem_filter.mpr ⟨List.mem_of_getElem? (i := 896) (by decide +kernel), by decide +kernel⟩
theorem lk_X6_127 : LK RX6 127 yX6_added := Or.inl lkm_X6_127
theorem im_X6_added : Cond.instanceMethod yX6_added ∈ lw_g := List.mem_filter.mpr ⟨List.mem_of_getElem? (i := 898) (by decide +kernel), by decide +kernel⟩
theorem cm_X6_added : CM uX6_added 5 := ⟨code_X6_added, ini_X6, ⟨by decide +kernel, by decide +kernel⟩, by decide +kernel, by decide⟩
theorem lkm_X6_36 : Cond.methodLink RX6 36 yX6_get ∈ lw_g := List.mem_filter.mpr ⟨List.mem_of_getElem? (i := 900) (by decide +kernel), by decide +kernel⟩
theorem lk_X6_36 : LK RX6 36 yX6_get := Or.inl lkm_X6_36
theorem im_X6_get : Cond.instanceMethod yX6_get ∈ lw_g := List.mem_filter.mpr ⟨List.mem_of_getElem? (i := 902) (by decide +kernel), by decide +kernel⟩
theorem cm_X6_get : CM uX6_get 2 := ⟨code_X6_get, ini_X6, ⟨by decide +kernel, by decide +kernel⟩, by decide +kernel, by decide⟩
theorem lkm_X6_59 : Cond.methodLink RX6 59 yX6_set ∈ lw_g := List.mem_filter.mpr ⟨List.mem_of_getElem? (i := 904) (by decide +kernel), by decide +kernel⟩
theorem lk_X6_59 : LK RX6 59 yX6_set := Or.inl lkm_X6_59
theorem im_X6_set : Cond.instanceMethod yX6_set ∈ lw_g := List.mem_filter.mpr ⟨List.mem_of_getElem? (i := 906) (by decide +kernel), by decide +kernel⟩
theorem cm_X6_set : CM uX6_set 3 := ⟨code_X6_set, ini_X6, ⟨by decide +kernel, by decide +kernel⟩, by decide +kernel, by decide⟩
theorem lkm_L_29 : Cond.methodLink RL 29 yX6_share ∈ lw_g := List.mem_filter.mpr ⟨List.mem_of_getElem? (i := 908) (by decide +kernel), by decide +kernel⟩
theorem lk_L_29 : LK RL 29 yX6_share := Or.inl lkm_L_29
theorem im_X6_share : Cond.instanceMethod yX6_share ∈ lw_g := List.mem_filter.mpr ⟨List.mem_of_getElem? (i := 909) (by decide +kernel), by decide +kernel⟩
theorem sel_X6_share : Cond.selects RX6 yX6_share yX6_share ∈ lw_g := List.mem_filter.mpr ⟨List.mem_of_getElem? (i := 910) (by decide +kernel), by decide +kernel⟩
theorem cm_X6_share : CM uX6_share 2 := ⟨code_X6_share, ini_X6, ⟨by decide +kernel, by decide +kernel⟩, by decide +kernel, by decide⟩
theorem lkm_X6_161 : Cond.methodLink RX6 161 yX6_isLiving ∈ lw_g := List.mem_filter.mpr ⟨List.mem_of_getElem? (i := 912) (by decide +kernel), by decide +kernel⟩
theorem lk_X6_161 : LK RX6 161 yX6_isLiving := Or.inl lkm_X6_161
theorem im_X6_isLiving : Cond.instanceMethod yX6_isLiving ∈ lw_g := List.mem_filter.mpr ⟨List.mem_of_getElem? (i := 914) (by decide +kernel), by decide +kernel⟩
theorem cm_X6_isLiving : CM uX6_isLiving 1 := ⟨code_X6_isLiving, ini_X6, ⟨by decide +kernel, by decide +kernel⟩, by decide +kernel, by decide⟩
theorem lkm_X6_158 : Cond.methodLink RX6 158 yX6_isTask ∈ lw_g := List.mem_filter.mpr ⟨List.mem_of_getElem? (i := 916) (by decide +kernel), by decide +kernel⟩
theorem lk_X6_158 : LK RX6 158 yX6_isTask := Or.inl lkm_X6_158
theorem im_X6_isTask : Cond.instanceMethod yX6_isTask ∈ lw_g := List.mem_filter.mpr ⟨List.mem_of_getElem? (i := 918) (by decide +kernel), by decide +kernel⟩
theorem cm_X6_isTask : CM uX6_isTask 1 := ⟨code_X6_isTask, ini_X6, ⟨by decide +kernel, by decide +kernel⟩, by decide +kernel, by decide⟩
theorem lkm_X6_164 : Cond.methodLink RX6 164 yJ9_min_7cf53 ∈ lw_g := List.mem_filter.mpr ⟨List.mem_of_getElem? (i := 920) (by decide +kernel), by decide +kernel⟩
theorem lk_X6_164 : LK RX6 164 yJ9_min_7cf53 := Or.inl lkm_X6_164
theorem lkm_L_34 : Cond.methodLink RL 34 yX6_deadline ∈ lw_g := List.mem_filter.mpr ⟨List.mem_of_getElem? (i := 921) (by decide +kernel), by decide +kernel⟩
theorem lk_L_34 : LK RL 34 yX6_deadline := Or.inl lkm_L_34
theorem im_X6_deadline : Cond.instanceMethod yX6_deadline ∈ lw_g := List.mem_filter.mpr ⟨List.mem_of_getElem? (i := 922) (by decide +kernel), by decide +kernel⟩
theorem sel_X6_deadline : Cond.selects RX6 yX6_deadline yX6_deadline ∈ lw_g := List.mem_filter.mpr ⟨List.mem_of_getElem? (i := 923) (by decide +kernel), by decide +kernel⟩
theorem cm_X6_deadline : CM uX6_deadline 3 := ⟨code_X6_deadline, ini_X6, ⟨by decide +kernel, by decide +kernel⟩, by decide +kernel, by decide⟩
theorem lkm_X6_43 : Cond.methodLink RX6 43 yX6_isDue ∈ lw_g := List.mem_filter.mpr ⟨List.mem_of_getElem? (i := 925) (by decide +kernel), by decide +kernel⟩
theorem lk_X6_43 : LK RX6 43 yX6_isDue := Or.inl lkm_X6_43
theorem im_X6_isDue : Cond.instanceMethod yX6_isDue ∈ lw_g := List.mem_filter.mpr ⟨List.mem_of_getElem? (i := 927) (by decide +kernel), by decide +kernel⟩
theorem cm_X6_isDue : CM uX6_isDue 1 := ⟨code_X6_isDue, ini_X6, ⟨by decide +kernel, by decide +kernel⟩, by decide +kernel, by decide⟩
theorem lkm_L_39 : Cond.methodLink RL 39 yX6_processors ∈ lw_g := List.mem_filter.mpr ⟨List.mem_of_getElem? (i := 929) (by decide +kernel), by decide +kernel⟩
theorem lk_L_39 : LK RL 39 yX6_processors := Or.inl lkm_L_39
theorem im_X6_processors : Cond.instanceMethod yX6_processors ∈ lw_g := List.mem_filter.mpr ⟨List.mem_of_getElem? (i := 930) (by decide +kernel), by decide +kernel⟩
theorem sel_X6_processors : Cond.selects RX6 yX6_processors yX6_processors ∈ lw_g := List.mem_filter.mpr ⟨List.mem_of_getElem? (i := 931) (by decide +kernel), by decide +kernel⟩
theorem cm_X6_processors : CM uX6_processors 1 := ⟨code_X6_processors, ini_X6, ⟨by decide +kernel, by decide +kernel⟩, by decide +kernel, by decide⟩
theorem lkm_L_44 : Cond.methodLink RL 44 yX6_lock ∈ lw_g := List.mem_filter.mpr ⟨List.mem_of_getElem? (i := 933) (by decide +kernel), by decide +kernel⟩
theorem lk_L_44 : LK RL 44 yX6_lock := Or.inl lkm_L_44
theorem im_X6_lock : Cond.instanceMethod yX6_lock ∈ lw_g := List.mem_filter.mpr ⟨List.mem_of_getElem? (i := 934) (by decide +kernel), by decide +kernel⟩
theorem sel_X6_lock : Cond.selects RX6 yX6_lock yX6_lock ∈ lw_g := List.mem_filter.mpr ⟨List.mem_of_getElem? (i := 935) (by decide +kernel), by decide +kernel⟩
theorem cm_X6_lock : CM uX6_lock 1 := ⟨code_X6_lock, ini_X6, ⟨by decide +kernel, by decide +kernel⟩, by decide +kernel, by decide⟩
theorem cs_X6_118 : Jvm.Cond.constantLong RX6 118 99 ∈ lw_g := List.mem_filter.mpr ⟨List.mem_of_getElem? (i := 937) (by decide +kernel), by decide +kernel⟩
theorem lkm_L_48 : Cond.methodLink RL 48 yX6_ring ∈ lw_g := List.mem_filter.mpr ⟨List.mem_of_getElem? (i := 938) (by decide +kernel), by decide +kernel⟩
theorem lk_L_48 : LK RL 48 yX6_ring := Or.inl lkm_L_48
theorem im_X6_ring : Cond.instanceMethod yX6_ring ∈ lw_g := List.mem_filter.mpr ⟨List.mem_of_getElem? (i := 939) (by decide +kernel), by decide +kernel⟩
theorem sel_X6_ring : Cond.selects RX6 yX6_ring yX6_ring ∈ lw_g := List.mem_filter.mpr ⟨List.mem_of_getElem? (i := 940) (by decide +kernel), by decide +kernel⟩
theorem cm_X6_ring : CM uX6_ring 1 := ⟨code_X6_ring, ini_X6, ⟨by decide +kernel, by decide +kernel⟩, by decide +kernel, by decide⟩
theorem cs_X6_97 : Jvm.Cond.constantLong RX6 97 15 ∈ lw_g := List.mem_filter.mpr ⟨List.mem_of_getElem? (i := 942) (by decide +kernel), by decide +kernel⟩
theorem lkm_X6_103 : Cond.methodLink RX6 103 yX6_ringBell ∈ lw_g := List.mem_filter.mpr ⟨List.mem_of_getElem? (i := 943) (by decide +kernel), by decide +kernel⟩
theorem lk_X6_103 : LK RX6 103 yX6_ringBell := Or.inl lkm_X6_103
theorem im_X6_ringBell : Cond.instanceMethod yX6_ringBell ∈ lw_g := List.mem_filter.mpr ⟨List.mem_of_getElem? (i := 945) (by decide +kernel), by decide +kernel⟩
theorem cm_X6_ringBell : CM uX6_ringBell 1 := ⟨code_X6_ringBell, ini_X6, ⟨by decide +kernel, by decide +kernel⟩, by decide +kernel, by decide⟩
theorem lkm_X6_70 : Cond.methodLink RX6 70 yX6_isReadyNow ∈ lw_g := List.mem_filter.mpr ⟨List.mem_of_getElem? (i := 947) (by decide +kernel), by decide +kernel⟩
theorem lk_X6_70 : LK RX6 70 yX6_isReadyNow := Or.inl lkm_X6_70
theorem im_X6_isReadyNow : Cond.instanceMethod yX6_isReadyNow ∈ lw_g := List.mem_filter.mpr ⟨List.mem_of_getElem? (i := 949) (by decide +kernel), by decide +kernel⟩
theorem cm_X6_isReadyNow : CM uX6_isReadyNow 1 := ⟨code_X6_isReadyNow, ini_X6, ⟨by decide +kernel, by decide +kernel⟩, by decide +kernel, by decide⟩
theorem lkm_L_52 : Cond.methodLink RL 52 yX6_run ∈ lw_g := List.mem_filter.mpr ⟨List.mem_of_getElem? (i := 951) (by decide +kernel), by decide +kernel⟩
theorem lk_L_52 : LK RL 52 yX6_run := Or.inl lkm_L_52
theorem im_X6_run : Cond.instanceMethod yX6_run ∈ lw_g := List.mem_filter.mpr ⟨List.mem_of_getElem? (i := 952) (by decide +kernel), by decide +kernel⟩
theorem sel_X6_run : Cond.selects RX6 yX6_run yX6_run ∈ lw_g := List.mem_filter.mpr ⟨List.mem_of_getElem? (i := 953) (by decide +kernel), by decide +kernel⟩
theorem cm_X6_run : CM uX6_run 1 := ⟨code_X6_run, ini_X6, ⟨by decide +kernel, by decide +kernel⟩, by decide +kernel, by decide⟩
theorem lkm_X6_167 : Cond.methodLink RX6 167 yX6_tick ∈ lw_g := List.mem_filter.mpr ⟨List.mem_of_getElem? (i := 955) (by decide +kernel), by decide +kernel⟩
theorem lk_X6_167 : LK RX6 167 yX6_tick := Or.inl lkm_X6_167
theorem im_X6_tick : Cond.instanceMethod yX6_tick ∈ lw_g := List.mem_filter.mpr ⟨List.mem_of_getElem? (i := 957) (by decide +kernel), by decide +kernel⟩
theorem cm_X6_tick : CM uX6_tick 0 := ⟨code_X6_tick, ini_X6, ⟨by decide +kernel, by decide +kernel⟩, by decide +kernel, by decide⟩
theorem lkm_X6_142 : Cond.methodLink RX6 142 yX6_wakes ∈ lw_g := List.mem_filter.mpr ⟨List.mem_of_getElem? (i := 959) (by decide +kernel), by decide +kernel⟩
theorem lk_X6_142 : LK RX6 142 yX6_wakes := Or.inl lkm_X6_142
theorem im_X6_wakes : Cond.instanceMethod yX6_wakes ∈ lw_g := List.mem_filter.mpr ⟨List.mem_of_getElem? (i := 961) (by decide +kernel), by decide +kernel⟩
theorem cm_X6_wakes : CM uX6_wakes 0 := ⟨code_X6_wakes, ini_X6, ⟨by decide +kernel, by decide +kernel⟩, by decide +kernel, by decide⟩
theorem lkm_X6_63 : Cond.methodLink RX6 63 yX6_body ∈ lw_g := List.mem_filter.mpr ⟨List.mem_of_getElem? (i := 963) (by decide +kernel), by decide +kernel⟩
theorem lk_X6_63 : LK RX6 63 yX6_body := Or.inl lkm_X6_63
theorem im_X6_body : Cond.instanceMethod yX6_body ∈ lw_g := List.mem_filter.mpr ⟨List.mem_of_getElem? (i := 965) (by decide +kernel), by decide +kernel⟩
theorem cm_X6_body : CM uX6_body 1 := ⟨code_X6_body, ini_X6, ⟨by decide +kernel, by decide +kernel⟩, by decide +kernel, by decide⟩
theorem lkm_X6_145 : Cond.methodLink RX6 145 yX6_chooses ∈ lw_g := List.mem_filter.mpr ⟨List.mem_of_getElem? (i := 967) (by decide +kernel), by decide +kernel⟩
theorem lk_X6_145 : LK RX6 145 yX6_chooses := Or.inl lkm_X6_145
theorem im_X6_chooses : Cond.instanceMethod yX6_chooses ∈ lw_g := List.mem_filter.mpr ⟨List.mem_of_getElem? (i := 969) (by decide +kernel), by decide +kernel⟩
theorem cm_X6_chooses : CM uX6_chooses 1 := ⟨code_X6_chooses, ini_X6, ⟨by decide +kernel, by decide +kernel⟩, by decide +kernel, by decide⟩
theorem lkm_X6_67 : Cond.methodLink RX6 67 yX6_standingOf ∈ lw_g := List.mem_filter.mpr ⟨List.mem_of_getElem? (i := 971) (by decide +kernel), by decide +kernel⟩
theorem lk_X6_67 : LK RX6 67 yX6_standingOf := Or.inl lkm_X6_67
theorem im_X6_standingOf : Cond.instanceMethod yX6_standingOf ∈ lw_g := List.mem_filter.mpr ⟨List.mem_of_getElem? (i := 973) (by decide +kernel), by decide +kernel⟩
theorem cm_X6_standingOf : CM uX6_standingOf 1 := ⟨code_X6_standingOf, ini_X6, ⟨by decide +kernel, by decide +kernel⟩, by decide +kernel, by decide⟩
theorem lkm_X6_55 : Cond.methodLink RX6 55 yX6_isAhead ∈ lw_g := List.mem_filter.mpr ⟨List.mem_of_getElem? (i := 975) (by decide +kernel), by decide +kernel⟩
theorem lk_X6_55 : LK RX6 55 yX6_isAhead := Or.inl lkm_X6_55
theorem im_X6_isAhead : Cond.instanceMethod yX6_isAhead ∈ lw_g := List.mem_filter.mpr ⟨List.mem_of_getElem? (i := 977) (by decide +kernel), by decide +kernel⟩
theorem cm_X6_isAhead : CM uX6_isAhead 2 := ⟨code_X6_isAhead, ini_X6, ⟨by decide +kernel, by decide +kernel⟩, by decide +kernel, by decide⟩
theorem lkm_X6_47 : Cond.methodLink RX6 47 yX6_classOf ∈ lw_g := List.mem_filter.mpr ⟨List.mem_of_getElem? (i := 979) (by decide +kernel), by decide +kernel⟩
theorem lk_X6_47 : LK RX6 47 yX6_classOf := Or.inl lkm_X6_47
theorem im_X6_classOf : Cond.instanceMethod yX6_classOf ∈ lw_g := List.mem_filter.mpr ⟨List.mem_of_getElem? (i := 981) (by decide +kernel), by decide +kernel⟩
theorem cm_X6_classOf : CM uX6_classOf 1 := ⟨code_X6_classOf, ini_X6, ⟨by decide +kernel, by decide +kernel⟩, by decide +kernel, by decide⟩
theorem lkm_X6_51 : Cond.methodLink RX6 51 yX6_keyOf ∈ lw_g := List.mem_filter.mpr ⟨List.mem_of_getElem? (i := 983) (by decide +kernel), by decide +kernel⟩
theorem lk_X6_51 : LK RX6 51 yX6_keyOf := Or.inl lkm_X6_51
theorem im_X6_keyOf : Cond.instanceMethod yX6_keyOf ∈ lw_g := List.mem_filter.mpr ⟨List.mem_of_getElem? (i := 985) (by decide +kernel), by decide +kernel⟩
theorem cm_X6_keyOf : CM uX6_keyOf 1 := ⟨code_X6_keyOf, ini_X6, ⟨by decide +kernel, by decide +kernel⟩, by decide +kernel, by decide⟩
theorem lkm_X6_136 : Cond.methodLink RX6 136 yX6_puts ∈ lw_g := List.mem_filter.mpr ⟨List.mem_of_getElem? (i := 987) (by decide +kernel), by decide +kernel⟩
theorem lk_X6_136 : LK RX6 136 yX6_puts := Or.inl lkm_X6_136
theorem im_X6_puts : Cond.instanceMethod yX6_puts ∈ lw_g := List.mem_filter.mpr ⟨List.mem_of_getElem? (i := 989) (by decide +kernel), by decide +kernel⟩
theorem cm_X6_puts : CM uX6_puts 6 := ⟨code_X6_puts, ini_X6, ⟨by decide +kernel, by decide +kernel⟩, by decide +kernel, by decide⟩
theorem cs_X6_140 : Jvm.Cond.constant RX6 140 62000 ∈ lw_g := List.mem_filter.mpr ⟨List.mem_of_getElem? (i := 991) (by decide +kernel), by decide +kernel⟩
theorem cs_X6_141 : Jvm.Cond.constant RX6 141 102000 ∈ lw_g := List.mem_filter.mpr ⟨List.mem_of_getElem? (i := 992) (by decide +kernel), by decide +kernel⟩
theorem lkm_X6_148 : Cond.methodLink RX6 148 yX6_turn ∈ lw_g := List.mem_filter.mpr ⟨List.mem_of_getElem? (i := 993) (by decide +kernel), by decide +kernel⟩
theorem lk_X6_148 : LK RX6 148 yX6_turn := Or.inl lkm_X6_148
theorem im_X6_turn : Cond.instanceMethod yX6_turn ∈ lw_g := List.mem_filter.mpr ⟨List.mem_of_getElem? (i := 995) (by decide +kernel), by decide +kernel⟩
theorem cm_X6_turn : CM uX6_turn 1 := ⟨code_X6_turn, ini_X6, ⟨by decide +kernel, by decide +kernel⟩, by decide +kernel, by decide⟩
theorem lkm_X6_79 : Cond.methodLink RX6 79 yX6_pays ∈ lw_g := List.mem_filter.mpr ⟨List.mem_of_getElem? (i := 997) (by decide +kernel), by decide +kernel⟩
theorem lk_X6_79 : LK RX6 79 yX6_pays := Or.inl lkm_X6_79
theorem im_X6_pays : Cond.instanceMethod yX6_pays ∈ lw_g := List.mem_filter.mpr ⟨List.mem_of_getElem? (i := 999) (by decide +kernel), by decide +kernel⟩
theorem cm_X6_pays : CM uX6_pays 1 := ⟨code_X6_pays, ini_X6, ⟨by decide +kernel, by decide +kernel⟩, by decide +kernel, by decide⟩
theorem lkm_X6_76 : Cond.methodLink RX6 76 yX6_pay ∈ lw_g := List.mem_filter.mpr ⟨List.mem_of_getElem? (i := 1001) (by decide +kernel), by decide +kernel⟩
theorem lk_X6_76 : LK RX6 76 yX6_pay := Or.inl lkm_X6_76
theorem im_X6_pay : Cond.instanceMethod yX6_pay ∈ lw_g := List.mem_filter.mpr ⟨List.mem_of_getElem? (i := 1003) (by decide +kernel), by decide +kernel⟩
theorem cm_X6_pay : CM uX6_pay 1 := ⟨code_X6_pay, ini_X6, ⟨by decide +kernel, by decide +kernel⟩, by decide +kernel, by decide⟩
theorem lkm_X6_82 : Cond.methodLink RX6 82 yX6_act ∈ lw_g := List.mem_filter.mpr ⟨List.mem_of_getElem? (i := 1005) (by decide +kernel), by decide +kernel⟩
theorem lk_X6_82 : LK RX6 82 yX6_act := Or.inl lkm_X6_82
theorem im_X6_act : Cond.instanceMethod yX6_act ∈ lw_g := List.mem_filter.mpr ⟨List.mem_of_getElem? (i := 1007) (by decide +kernel), by decide +kernel⟩
theorem cm_X6_act : CM uX6_act 1 := ⟨code_X6_act, ini_X6, ⟨by decide +kernel, by decide +kernel⟩, by decide +kernel, by decide⟩
theorem cs_X6_89 : Jvm.Cond.constantLong RX6 89 12 ∈ lw_g := List.mem_filter.mpr ⟨List.mem_of_getElem? (i := 1009) (by decide +kernel), by decide +kernel⟩
theorem lkm_X6_91 : Cond.methodLink RX6 91 yX6_takesLock ∈ lw_g := List.mem_filter.mpr ⟨List.mem_of_getElem? (i := 1010) (by decide +kernel), by decide +kernel⟩
theorem lk_X6_91 : LK RX6 91 yX6_takesLock := Or.inl lkm_X6_91
theorem im_X6_takesLock : Cond.instanceMethod yX6_takesLock ∈ lw_g := List.mem_filter.mpr ⟨List.mem_of_getElem? (i := 1012) (by decide +kernel), by decide +kernel⟩
theorem cm_X6_takesLock : CM uX6_takesLock 2 := ⟨code_X6_takesLock, ini_X6, ⟨by decide +kernel, by decide +kernel⟩, by decide +kernel, by decide⟩
theorem lkm_X6_99 : Cond.methodLink RX6 99 yX6_waits ∈ lw_g := List.mem_filter.mpr ⟨List.mem_of_getElem? (i := 1014) (by decide +kernel), by decide +kernel⟩
theorem lk_X6_99 : LK RX6 99 yX6_waits := Or.inl lkm_X6_99
theorem im_X6_waits : Cond.instanceMethod yX6_waits ∈ lw_g := List.mem_filter.mpr ⟨List.mem_of_getElem? (i := 1016) (by decide +kernel), by decide +kernel⟩
theorem cm_X6_waits : CM uX6_waits 4 := ⟨code_X6_waits, ini_X6, ⟨by decide +kernel, by decide +kernel⟩, by decide +kernel, by decide⟩
theorem lkm_X6_94 : Cond.methodLink RX6 94 yX6_givesLock ∈ lw_g := List.mem_filter.mpr ⟨List.mem_of_getElem? (i := 1018) (by decide +kernel), by decide +kernel⟩
theorem lk_X6_94 : LK RX6 94 yX6_givesLock := Or.inl lkm_X6_94
theorem im_X6_givesLock : Cond.instanceMethod yX6_givesLock ∈ lw_g := List.mem_filter.mpr ⟨List.mem_of_getElem? (i := 1020) (by decide +kernel), by decide +kernel⟩
theorem cm_X6_givesLock : CM uX6_givesLock 2 := ⟨code_X6_givesLock, ini_X6, ⟨by decide +kernel, by decide +kernel⟩, by decide +kernel, by decide⟩
theorem lkm_X6_73 : Cond.methodLink RX6 73 yX6_passes ∈ lw_g := List.mem_filter.mpr ⟨List.mem_of_getElem? (i := 1022) (by decide +kernel), by decide +kernel⟩
theorem lk_X6_73 : LK RX6 73 yX6_passes := Or.inl lkm_X6_73
theorem im_X6_passes : Cond.instanceMethod yX6_passes ∈ lw_g := List.mem_filter.mpr ⟨List.mem_of_getElem? (i := 1024) (by decide +kernel), by decide +kernel⟩
theorem cm_X6_passes : CM uX6_passes 1 := ⟨code_X6_passes, ini_X6, ⟨by decide +kernel, by decide +kernel⟩, by decide +kernel, by decide⟩
theorem lkm_X6_106 : Cond.methodLink RX6 106 yX6_forks ∈ lw_g := List.mem_filter.mpr ⟨List.mem_of_getElem? (i := 1026) (by decide +kernel), by decide +kernel⟩
theorem lk_X6_106 : LK RX6 106 yX6_forks := Or.inl lkm_X6_106
theorem im_X6_forks : Cond.instanceMethod yX6_forks ∈ lw_g := List.mem_filter.mpr ⟨List.mem_of_getElem? (i := 1028) (by decide +kernel), by decide +kernel⟩
theorem cm_X6_forks : CM uX6_forks 2 := ⟨code_X6_forks, ini_X6, ⟨by decide +kernel, by decide +kernel⟩, by decide +kernel, by decide⟩
theorem lkm_X6_109 : Cond.methodLink RX6 109 yX6_says ∈ lw_g := List.mem_filter.mpr ⟨List.mem_of_getElem? (i := 1030) (by decide +kernel), by decide +kernel⟩
theorem lk_X6_109 : LK RX6 109 yX6_says := Or.inl lkm_X6_109
theorem im_X6_says : Cond.instanceMethod yX6_says ∈ lw_g := List.mem_filter.mpr ⟨List.mem_of_getElem? (i := 1032) (by decide +kernel), by decide +kernel⟩
theorem cm_X6_says : CM uX6_says 2 := ⟨code_X6_says, ini_X6, ⟨by decide +kernel, by decide +kernel⟩, by decide +kernel, by decide⟩
theorem lkm_X6_133 : Cond.methodLink RX6 133 yX6_isOf ∈ lw_g := List.mem_filter.mpr ⟨List.mem_of_getElem? (i := 1034) (by decide +kernel), by decide +kernel⟩
theorem lk_X6_133 : LK RX6 133 yX6_isOf := Or.inl lkm_X6_133
theorem sm_X6_isOf : Cond.static yX6_isOf ∈ lw_g := List.mem_filter.mpr ⟨List.mem_of_getElem? (i := 1035) (by decide +kernel), by decide +kernel⟩
theorem cm_X6_isOf : CM uX6_isOf 2 := ⟨code_X6_isOf, ini_X6, ⟨by decide +kernel, by decide +kernel⟩, by decide +kernel, by decide⟩
theorem cs_X6_112 : Jvm.Cond.constantLong RX6 112 3 ∈ lw_g := List.mem_filter.mpr ⟨List.mem_of_getElem? (i := 1037) (by decide +kernel), by decide +kernel⟩
theorem lkm_X6_114 : Cond.methodLink RX6 114 yX6_smalls ∈ lw_g := List.mem_filter.mpr ⟨List.mem_of_getElem? (i := 1038) (by decide +kernel), by decide +kernel⟩
theorem lk_X6_114 : LK RX6 114 yX6_smalls := Or.inl lkm_X6_114
theorem im_X6_smalls : Cond.instanceMethod yX6_smalls ∈ lw_g := List.mem_filter.mpr ⟨List.mem_of_getElem? (i := 1040) (by decide +kernel), by decide +kernel⟩
theorem cm_X6_smalls : CM uX6_smalls 3 := ⟨code_X6_smalls, ini_X6, ⟨by decide +kernel, by decide +kernel⟩, by decide +kernel, by decide⟩
theorem lkm_X6_85 : Cond.methodLink RX6 85 yX6_ends ∈ lw_g := List.mem_filter.mpr ⟨List.mem_of_getElem? (i := 1042) (by decide +kernel), by decide +kernel⟩
theorem lk_X6_85 : LK RX6 85 yX6_ends := Or.inl lkm_X6_85
theorem im_X6_ends : Cond.instanceMethod yX6_ends ∈ lw_g := List.mem_filter.mpr ⟨List.mem_of_getElem? (i := 1044) (by decide +kernel), by decide +kernel⟩
theorem cm_X6_ends : CM uX6_ends 2 := ⟨code_X6_ends, ini_X6, ⟨by decide +kernel, by decide +kernel⟩, by decide +kernel, by decide⟩
theorem lkm_L_56 : Cond.methodLink RL 56 yX6_chosen ∈ lw_g := List.mem_filter.mpr ⟨List.mem_of_getElem? (i := 1046) (by decide +kernel), by decide +kernel⟩
theorem lk_L_56 : LK RL 56 yX6_chosen := Or.inl lkm_L_56
theorem im_X6_chosen : Cond.instanceMethod yX6_chosen ∈ lw_g := List.mem_filter.mpr ⟨List.mem_of_getElem? (i := 1047) (by decide +kernel), by decide +kernel⟩
theorem sel_X6_chosen : Cond.selects RX6 yX6_chosen yX6_chosen ∈ lw_g := List.mem_filter.mpr ⟨List.mem_of_getElem? (i := 1048) (by decide +kernel), by decide +kernel⟩
theorem cm_X6_chosen : CM uX6_chosen 1 := ⟨code_X6_chosen, ini_X6, ⟨by decide +kernel, by decide +kernel⟩, by decide +kernel, by decide⟩
theorem lkm_L_60 : Cond.methodLink RL 60 yX6_about ∈ lw_g := List.mem_filter.mpr ⟨List.mem_of_getElem? (i := 1050) (by decide +kernel), by decide +kernel⟩
theorem lk_L_60 : LK RL 60 yX6_about := Or.inl lkm_L_60
theorem im_X6_about : Cond.instanceMethod yX6_about ∈ lw_g := List.mem_filter.mpr ⟨List.mem_of_getElem? (i := 1051) (by decide +kernel), by decide +kernel⟩
theorem sel_X6_about : Cond.selects RX6 yX6_about yX6_about ∈ lw_g := List.mem_filter.mpr ⟨List.mem_of_getElem? (i := 1052) (by decide +kernel), by decide +kernel⟩
theorem cm_X6_about : CM uX6_about 2 := ⟨code_X6_about, ini_X6, ⟨by decide +kernel, by decide +kernel⟩, by decide +kernel, by decide⟩
theorem cs_X6_170 : Jvm.Cond.constantLong RX6 170 14 ∈ lw_g := List.mem_filter.mpr ⟨List.mem_of_getElem? (i := 1054) (by decide +kernel), by decide +kernel⟩
theorem cs_X6_172 : Jvm.Cond.constantLong RX6 172 10 ∈ lw_g := List.mem_filter.mpr ⟨List.mem_of_getElem? (i := 1055) (by decide +kernel), by decide +kernel⟩
theorem cs_X6_174 : Jvm.Cond.constantLong RX6 174 13 ∈ lw_g := List.mem_filter.mpr ⟨List.mem_of_getElem? (i := 1056) (by decide +kernel), by decide +kernel⟩
theorem lkm_L_65 : Cond.methodLink RL 65 yX6_virtual ∈ lw_g := List.mem_filter.mpr ⟨List.mem_of_getElem? (i := 1057) (by decide +kernel), by decide +kernel⟩
theorem lk_L_65 : LK RL 65 yX6_virtual := Or.inl lkm_L_65
theorem im_X6_virtual : Cond.instanceMethod yX6_virtual ∈ lw_g := List.mem_filter.mpr ⟨List.mem_of_getElem? (i := 1058) (by decide +kernel), by decide +kernel⟩
theorem sel_X6_virtual : Cond.selects RX6 yX6_virtual yX6_virtual ∈ lw_g := List.mem_filter.mpr ⟨List.mem_of_getElem? (i := 1059) (by decide +kernel), by decide +kernel⟩
theorem cm_X6_virtual : CM uX6_virtual 1 := ⟨code_X6_virtual, ini_X6, ⟨by decide +kernel, by decide +kernel⟩, by decide +kernel, by decide⟩
theorem cs_X6_176 : Jvm.Cond.constantLong RX6 176 (-1) ∈ lw_g := List.mem_filter.mpr ⟨List.mem_of_getElem? (i := 1061) (by decide +kernel), by decide +kernel⟩
theorem lkm_L_69 : Cond.methodLink RL 69 yX6_small ∈ lw_g := List.mem_filter.mpr ⟨List.mem_of_getElem? (i := 1062) (by decide +kernel), by decide +kernel⟩
theorem lk_L_69 : LK RL 69 yX6_small := Or.inl lkm_L_69
theorem im_X6_small : Cond.instanceMethod yX6_small ∈ lw_g := List.mem_filter.mpr ⟨List.mem_of_getElem? (i := 1063) (by decide +kernel), by decide +kernel⟩
theorem sel_X6_small : Cond.selects RX6 yX6_small yX6_small ∈ lw_g := List.mem_filter.mpr ⟨List.mem_of_getElem? (i := 1064) (by decide +kernel), by decide +kernel⟩
theorem cm_X6_small : CM uX6_small 2 := ⟨code_X6_small, ini_X6, ⟨by decide +kernel, by decide +kernel⟩, by decide +kernel, by decide⟩
theorem lkm_L_74 : Cond.methodLink RL 74 yX6_standing ∈ lw_g := List.mem_filter.mpr ⟨List.mem_of_getElem? (i := 1066) (by decide +kernel), by decide +kernel⟩
theorem lk_L_74 : LK RL 74 yX6_standing := Or.inl lkm_L_74
theorem im_X6_standing : Cond.instanceMethod yX6_standing ∈ lw_g := List.mem_filter.mpr ⟨List.mem_of_getElem? (i := 1067) (by decide +kernel), by decide +kernel⟩
theorem sel_X6_standing : Cond.selects RX6 yX6_standing yX6_standing ∈ lw_g := List.mem_filter.mpr ⟨List.mem_of_getElem? (i := 1068) (by decide +kernel), by decide +kernel⟩
theorem cm_X6_standing : CM uX6_standing 2 := ⟨code_X6_standing, ini_X6, ⟨by decide +kernel, by decide +kernel⟩, by decide +kernel, by decide⟩
theorem cs_X6_178 : Jvm.Cond.constantLong RX6 178 2 ∈ lw_g := List.mem_filter.mpr ⟨List.mem_of_getElem? (i := 1070) (by decide +kernel), by decide +kernel⟩
theorem lkm_L_78 : Cond.methodLink RL 78 yX6_holder ∈ lw_g := List.mem_filter.mpr ⟨List.mem_of_getElem? (i := 1071) (by decide +kernel), by decide +kernel⟩
theorem lk_L_78 : LK RL 78 yX6_holder := Or.inl lkm_L_78
theorem im_X6_holder : Cond.instanceMethod yX6_holder ∈ lw_g := List.mem_filter.mpr ⟨List.mem_of_getElem? (i := 1072) (by decide +kernel), by decide +kernel⟩
theorem sel_X6_holder : Cond.selects RX6 yX6_holder yX6_holder ∈ lw_g := List.mem_filter.mpr ⟨List.mem_of_getElem? (i := 1073) (by decide +kernel), by decide +kernel⟩
theorem cm_X6_holder : CM uX6_holder 1 := ⟨code_X6_holder, ini_X6, ⟨by decide +kernel, by decide +kernel⟩, by decide +kernel, by decide⟩
theorem lkm_L_82 : Cond.methodLink RL 82 yX6_ringed ∈ lw_g := List.mem_filter.mpr ⟨List.mem_of_getElem? (i := 1075) (by decide +kernel), by decide +kernel⟩
theorem lk_L_82 : LK RL 82 yX6_ringed := Or.inl lkm_L_82
theorem im_X6_ringed : Cond.instanceMethod yX6_ringed ∈ lw_g := List.mem_filter.mpr ⟨List.mem_of_getElem? (i := 1076) (by decide +kernel), by decide +kernel⟩
theorem sel_X6_ringed : Cond.selects RX6 yX6_ringed yX6_ringed ∈ lw_g := List.mem_filter.mpr ⟨List.mem_of_getElem? (i := 1077) (by decide +kernel), by decide +kernel⟩
theorem cm_X6_ringed : CM uX6_ringed 1 := ⟨code_X6_ringed, ini_X6, ⟨by decide +kernel, by decide +kernel⟩, by decide +kernel, by decide⟩
theorem lkm_L_86 : Cond.methodLink RL 86 yX6_row ∈ lw_g := List.mem_filter.mpr ⟨List.mem_of_getElem? (i := 1079) (by decide +kernel), by decide +kernel⟩
theorem lk_L_86 : LK RL 86 yX6_row := Or.inl lkm_L_86
theorem im_X6_row : Cond.instanceMethod yX6_row ∈ lw_g := List.mem_filter.mpr ⟨List.mem_of_getElem? (i := 1080) (by decide +kernel), by decide +kernel⟩
theorem sel_X6_row : Cond.selects RX6 yX6_row yX6_row ∈ lw_g := List.mem_filter.mpr ⟨List.mem_of_getElem? (i := 1081) (by decide +kernel), by decide +kernel⟩
theorem cm_X6_row : CM uX6_row 2 := ⟨code_X6_row, ini_X6, ⟨by decide +kernel, by decide +kernel⟩, by decide +kernel, by decide⟩
theorem lkm_X6_180 : Cond.methodLink RX6 180 yX6_isRow ∈ lw_g := List.mem_filter.mpr ⟨List.mem_of_getElem? (i := 1083) (by decide +kernel), by decide +kernel⟩
theorem lk_X6_180 : LK RX6 180 yX6_isRow := Or.inl lkm_X6_180
theorem im_X6_isRow : Cond.instanceMethod yX6_isRow ∈ lw_g := List.mem_filter.mpr ⟨List.mem_of_getElem? (i := 1085) (by decide +kernel), by decide +kernel⟩
theorem cm_X6_isRow : CM uX6_isRow 2 := ⟨code_X6_isRow, ini_X6, ⟨by decide +kernel, by decide +kernel⟩, by decide +kernel, by decide⟩
theorem lkm_L_90 : Cond.methodLink RL 90 yX6_forge ∈ lw_g := List.mem_filter.mpr ⟨List.mem_of_getElem? (i := 1087) (by decide +kernel), by decide +kernel⟩
theorem lk_L_90 : LK RL 90 yX6_forge := Or.inl lkm_L_90
theorem im_X6_forge : Cond.instanceMethod yX6_forge ∈ lw_g := List.mem_filter.mpr ⟨List.mem_of_getElem? (i := 1088) (by decide +kernel), by decide +kernel⟩
theorem sel_X6_forge : Cond.selects RX6 yX6_forge yX6_forge ∈ lw_g := List.mem_filter.mpr ⟨List.mem_of_getElem? (i := 1089) (by decide +kernel), by decide +kernel⟩
theorem cm_X6_forge : CM uX6_forge 3 := ⟨code_X6_forge, ini_X6, ⟨by decide +kernel, by decide +kernel⟩, by decide +kernel, by decide⟩
theorem lkm_L_95 : Cond.methodLink RL 95 yX6_check ∈ lw_g := List.mem_filter.mpr ⟨List.mem_of_getElem? (i := 1091) (by decide +kernel), by decide +kernel⟩
theorem lk_L_95 : LK RL 95 yX6_check := Or.inl lkm_L_95
theorem im_X6_check : Cond.instanceMethod yX6_check ∈ lw_g := List.mem_filter.mpr ⟨List.mem_of_getElem? (i := 1092) (by decide +kernel), by decide +kernel⟩
theorem sel_X6_check : Cond.selects RX6 yX6_check yX6_check ∈ lw_g := List.mem_filter.mpr ⟨List.mem_of_getElem? (i := 1093) (by decide +kernel), by decide +kernel⟩
theorem cm_X6_check : CM uX6_check 0 := ⟨code_X6_check, ini_X6, ⟨by decide +kernel, by decide +kernel⟩, by decide +kernel, by decide⟩
theorem lkm_L_99 : Cond.methodLink RL 99 yX6_checkedTo ∈ lw_g := List.mem_filter.mpr ⟨List.mem_of_getElem? (i := 1095) (by decide +kernel), by decide +kernel⟩
theorem lk_L_99 : LK RL 99 yX6_checkedTo := Or.inl lkm_L_99
theorem im_X6_checkedTo : Cond.instanceMethod yX6_checkedTo ∈ lw_g := List.mem_filter.mpr ⟨List.mem_of_getElem? (i := 1096) (by decide +kernel), by decide +kernel⟩
theorem sel_X6_checkedTo : Cond.selects RX6 yX6_checkedTo yX6_checkedTo ∈ lw_g := List.mem_filter.mpr ⟨List.mem_of_getElem? (i := 1097) (by decide +kernel), by decide +kernel⟩
theorem cm_X6_checkedTo : CM uX6_checkedTo 0 := ⟨code_X6_checkedTo, ini_X6, ⟨by decide +kernel, by decide +kernel⟩, by decide +kernel, by decide⟩
theorem lkm_L_103 : Cond.methodLink RL 103 yX6_bound ∈ lw_g := List.mem_filter.mpr ⟨List.mem_of_getElem? (i := 1099) (by decide +kernel), by decide +kernel⟩
theorem lk_L_103 : LK RL 103 yX6_bound := Or.inl lkm_L_103
theorem im_X6_bound : Cond.instanceMethod yX6_bound ∈ lw_g := List.mem_filter.mpr ⟨List.mem_of_getElem? (i := 1100) (by decide +kernel), by decide +kernel⟩
theorem sel_X6_bound : Cond.selects RX6 yX6_bound yX6_bound ∈ lw_g := List.mem_filter.mpr ⟨List.mem_of_getElem? (i := 1101) (by decide +kernel), by decide +kernel⟩
theorem cm_X6_bound : CM uX6_bound 1 := ⟨code_X6_bound, ini_X6, ⟨by decide +kernel, by decide +kernel⟩, by decide +kernel, by decide⟩
theorem lkm_X6_185 : Cond.methodLink RX6 185 yX6_payments ∈ lw_g := List.mem_filter.mpr ⟨List.mem_of_getElem? (i := 1103) (by decide +kernel), by decide +kernel⟩
theorem lk_X6_185 : LK RX6 185 yX6_payments := Or.inl lkm_X6_185
theorem im_X6_payments : Cond.instanceMethod yX6_payments ∈ lw_g := List.mem_filter.mpr ⟨List.mem_of_getElem? (i := 1105) (by decide +kernel), by decide +kernel⟩
theorem cm_X6_payments : CM uX6_payments 3 := ⟨code_X6_payments, ini_X6, ⟨by decide +kernel, by decide +kernel⟩, by decide +kernel, by decide⟩
theorem cs_X6_183 : Jvm.Cond.constantLong RX6 183 999 ∈ lw_g := List.mem_filter.mpr ⟨List.mem_of_getElem? (i := 1107) (by decide +kernel), by decide +kernel⟩
theorem lkm_X6_189 : Cond.methodLink RX6 189 yJ9_max_f86c9 ∈ lw_g := List.mem_filter.mpr ⟨List.mem_of_getElem? (i := 1108) (by decide +kernel), by decide +kernel⟩
theorem lk_X6_189 : LK RX6 189 yJ9_max_f86c9 := Or.inl lkm_X6_189
theorem lkm_L_107 : Cond.methodLink RL 107 yX6_trace ∈ lw_g := List.mem_filter.mpr ⟨List.mem_of_getElem? (i := 1109) (by decide +kernel), by decide +kernel⟩
theorem lk_L_107 : LK RL 107 yX6_trace := Or.inl lkm_L_107
theorem im_X6_trace : Cond.instanceMethod yX6_trace ∈ lw_g := List.mem_filter.mpr ⟨List.mem_of_getElem? (i := 1110) (by decide +kernel), by decide +kernel⟩
theorem sel_X6_trace : Cond.selects RX6 yX6_trace yX6_trace ∈ lw_g := List.mem_filter.mpr ⟨List.mem_of_getElem? (i := 1111) (by decide +kernel), by decide +kernel⟩
theorem cm_X6_trace : CM uX6_trace 1 := ⟨code_X6_trace, ini_X6, ⟨by decide +kernel, by decide +kernel⟩, by decide +kernel, by decide⟩
theorem cs_X6_192 : Jvm.Cond.constantLong RX6 192 11 ∈ lw_g := List.mem_filter.mpr ⟨List.mem_of_getElem? (i := 1113) (by decide +kernel), by decide +kernel⟩
theorem lkm_L_111 : Cond.methodLink RL 111 yX6_count ∈ lw_g := List.mem_filter.mpr ⟨List.mem_of_getElem? (i := 1114) (by decide +kernel), by decide +kernel⟩
theorem lk_L_111 : LK RL 111 yX6_count := Or.inl lkm_L_111
theorem im_X6_count : Cond.instanceMethod yX6_count ∈ lw_g := List.mem_filter.mpr ⟨List.mem_of_getElem? (i := 1115) (by decide +kernel), by decide +kernel⟩
theorem sel_X6_count : Cond.selects RX6 yX6_count yX6_count ∈ lw_g := List.mem_filter.mpr ⟨List.mem_of_getElem? (i := 1116) (by decide +kernel), by decide +kernel⟩
theorem cm_X6_count : CM uX6_count 1 := ⟨code_X6_count, ini_X6, ⟨by decide +kernel, by decide +kernel⟩, by decide +kernel, by decide⟩
theorem lkm_L_116 : Cond.methodLink RL 116 yX6_image ∈ lw_g := List.mem_filter.mpr ⟨List.mem_of_getElem? (i := 1118) (by decide +kernel), by decide +kernel⟩
theorem lk_L_116 : LK RL 116 yX6_image := Or.inl lkm_L_116
theorem im_X6_image : Cond.instanceMethod yX6_image ∈ lw_g := List.mem_filter.mpr ⟨List.mem_of_getElem? (i := 1119) (by decide +kernel), by decide +kernel⟩
theorem sel_X6_image : Cond.selects RX6 yX6_image yX6_image ∈ lw_g := List.mem_filter.mpr ⟨List.mem_of_getElem? (i := 1120) (by decide +kernel), by decide +kernel⟩
theorem cm_X6_image : CM uX6_image 0 := ⟨code_X6_image, ini_X6, ⟨by decide +kernel, by decide +kernel⟩, by decide +kernel, by decide⟩
theorem lkm_X6_198 : Cond.methodLink RX6 198 yX6_digest ∈ lw_g := List.mem_filter.mpr ⟨List.mem_of_getElem? (i := 1122) (by decide +kernel), by decide +kernel⟩
theorem lk_X6_198 : LK RX6 198 yX6_digest := Or.inl lkm_X6_198
theorem im_X6_digest : Cond.instanceMethod yX6_digest ∈ lw_g := List.mem_filter.mpr ⟨List.mem_of_getElem? (i := 1123) (by decide +kernel), by decide +kernel⟩
theorem sel_X6_digest : Cond.selects RX6 yX6_digest yX6_digest ∈ lw_g := List.mem_filter.mpr ⟨List.mem_of_getElem? (i := 1124) (by decide +kernel), by decide +kernel⟩
theorem cm_X6_digest : CM uX6_digest 0 := ⟨code_X6_digest, ini_X6, ⟨by decide +kernel, by decide +kernel⟩, by decide +kernel, by decide⟩
theorem cs_X6_202 : Jvm.Cond.constantLong RX6 202 7 ∈ lw_g := List.mem_filter.mpr ⟨List.mem_of_getElem? (i := 1126) (by decide +kernel), by decide +kernel⟩
theorem lkm_X6_204 : Cond.methodLink RX6 204 yX6_about ∈ lw_g := List.mem_filter.mpr ⟨List.mem_of_getElem? (i := 1127) (by decide +kernel), by decide +kernel⟩
theorem lk_X6_204 : LK RX6 204 yX6_about := Or.inl lkm_X6_204
theorem lkm_L_121 : Cond.methodLink RL 121 yX6_load ∈ lw_g := List.mem_filter.mpr ⟨List.mem_of_getElem? (i := 1128) (by decide +kernel), by decide +kernel⟩
theorem lk_L_121 : LK RL 121 yX6_load := Or.inl lkm_L_121
theorem im_X6_load : Cond.instanceMethod yX6_load ∈ lw_g := List.mem_filter.mpr ⟨List.mem_of_getElem? (i := 1129) (by decide +kernel), by decide +kernel⟩
theorem sel_X6_load : Cond.selects RX6 yX6_load yX6_load ∈ lw_g := List.mem_filter.mpr ⟨List.mem_of_getElem? (i := 1130) (by decide +kernel), by decide +kernel⟩
theorem cm_X6_load : CM uX6_load 0 := ⟨code_X6_load, ini_X6, ⟨by decide +kernel, by decide +kernel⟩, by decide +kernel, by decide⟩
theorem lkm_L_125 : Cond.methodLink RL 125 yX6_digest ∈ lw_g := List.mem_filter.mpr ⟨List.mem_of_getElem? (i := 1132) (by decide +kernel), by decide +kernel⟩
theorem lk_L_125 : LK RL 125 yX6_digest := Or.inl lkm_L_125
theorem lkm_L_129 : Cond.methodLink RL 129 yX6_status ∈ lw_g := List.mem_filter.mpr ⟨List.mem_of_getElem? (i := 1133) (by decide +kernel), by decide +kernel⟩
theorem lk_L_129 : LK RL 129 yX6_status := Or.inl lkm_L_129
theorem im_X6_status : Cond.instanceMethod yX6_status ∈ lw_g := List.mem_filter.mpr ⟨List.mem_of_getElem? (i := 1134) (by decide +kernel), by decide +kernel⟩
theorem sel_X6_status : Cond.selects RX6 yX6_status yX6_status ∈ lw_g := List.mem_filter.mpr ⟨List.mem_of_getElem? (i := 1135) (by decide +kernel), by decide +kernel⟩
theorem cm_X6_status : CM uX6_status 0 := ⟨code_X6_status, ini_X6, ⟨by decide +kernel, by decide +kernel⟩, by decide +kernel, by decide⟩
theorem cs_L_13 : Jvm.Cond.constantLong RL 13 4294967295 ∈ lw_g := List.mem_filter.mpr ⟨List.mem_of_getElem? (i := 1137) (by decide +kernel), by decide +kernel⟩
theorem sel_X0_programAt : Cond.selects RX0 yX0_programAt yX0_programAt ∈ lw_g := List.mem_filter.mpr ⟨List.mem_of_getElem? (i := 0) (by decide +kernel), by decide +kernel⟩
theorem sel_X5_refused : Cond.selects RX5 yX5_refused yX5_refused ∈ lw_g := List.mem_filter.mpr ⟨List.mem_of_getElem? (i := 1) (by decide +kernel), by decide +kernel⟩
theorem sel_X2_length : Cond.selects RX2 yX2_length yX2_length ∈ lw_g := List.mem_filter.mpr ⟨List.mem_of_getElem? (i := 2) (by decide +kernel), by decide +kernel⟩
theorem sel_X5_noted : Cond.selects RX5 yX5_noted yX5_noted ∈ lw_g := List.mem_filter.mpr ⟨List.mem_of_getElem? (i := 3) (by decide +kernel), by decide +kernel⟩
theorem sel_X1_add : Cond.selects RX1 yX1_add yX1_add ∈ lw_g := List.mem_filter.mpr ⟨List.mem_of_getElem? (i := 4) (by decide +kernel), by decide +kernel⟩
theorem sel_X2_extend : Cond.selects RX2 yX2_extend yX2_extend ∈ lw_g := List.mem_filter.mpr ⟨List.mem_of_getElem? (i := 5) (by decide +kernel), by decide +kernel⟩
theorem sel_X0_addTask : Cond.selects RX0 yX0_addTask yX0_addTask ∈ lw_g := List.mem_filter.mpr ⟨List.mem_of_getElem? (i := 6) (by decide +kernel), by decide +kernel⟩
theorem sel_X0_leastVirtual : Cond.selects RX0 yX0_leastVirtual yX0_leastVirtual ∈ lw_g := List.mem_filter.mpr ⟨List.mem_of_getElem? (i := 7) (by decide +kernel), by decide +kernel⟩
theorem sel_X4_begin : Cond.selects RX4 yX4_begin yX4_begin ∈ lw_g := List.mem_filter.mpr ⟨List.mem_of_getElem? (i := 8) (by decide +kernel), by decide +kernel⟩
theorem sel_X4_startPeriod : Cond.selects RX4 yX4_startPeriod yX4_startPeriod ∈ lw_g := List.mem_filter.mpr ⟨List.mem_of_getElem? (i := 9) (by decide +kernel), by decide +kernel⟩
theorem sel_X0_unendedTask : Cond.selects RX0 yX0_unendedTask yX0_unendedTask ∈ lw_g := List.mem_filter.mpr ⟨List.mem_of_getElem? (i := 10) (by decide +kernel), by decide +kernel⟩
theorem sel_X0_taskAt : Cond.selects RX0 yX0_taskAt yX0_taskAt ∈ lw_g := List.mem_filter.mpr ⟨List.mem_of_getElem? (i := 11) (by decide +kernel), by decide +kernel⟩
theorem sel_X4_changeShare : Cond.selects RX4 yX4_changeShare yX4_changeShare ∈ lw_g := List.mem_filter.mpr ⟨List.mem_of_getElem? (i := 12) (by decide +kernel), by decide +kernel⟩
theorem sel_X4_hasDeadline : Cond.selects RX4 yX4_hasDeadline yX4_hasDeadline ∈ lw_g := List.mem_filter.mpr ⟨List.mem_of_getElem? (i := 13) (by decide +kernel), by decide +kernel⟩
theorem sel_X0_changeProcessors : Cond.selects RX0 yX0_changeProcessors yX0_changeProcessors ∈ lw_g := List.mem_filter.mpr ⟨List.mem_of_getElem? (i := 14) (by decide +kernel), by decide +kernel⟩
theorem sel_X0_holderOf : Cond.selects RX0 yX0_holderOf yX0_holderOf ∈ lw_g := List.mem_filter.mpr ⟨List.mem_of_getElem? (i := 15) (by decide +kernel), by decide +kernel⟩
theorem sel_X0_addLock : Cond.selects RX0 yX0_addLock yX0_addLock ∈ lw_g := List.mem_filter.mpr ⟨List.mem_of_getElem? (i := 16) (by decide +kernel), by decide +kernel⟩
theorem sel_X0_ringBell : Cond.selects RX0 yX0_ringBell yX0_ringBell ∈ lw_g := List.mem_filter.mpr ⟨List.mem_of_getElem? (i := 17) (by decide +kernel), by decide +kernel⟩
theorem sel_X4_wake : Cond.selects RX4 yX4_wake yX4_wake ∈ lw_g := List.mem_filter.mpr ⟨List.mem_of_getElem? (i := 18) (by decide +kernel), by decide +kernel⟩
theorem sel_X0_goOn : Cond.selects RX0 yX0_goOn yX0_goOn ∈ lw_g := List.mem_filter.mpr ⟨List.mem_of_getElem? (i := 19) (by decide +kernel), by decide +kernel⟩
theorem sel_X3_haveRoom : Cond.selects RX3 yX3_haveRoom yX3_haveRoom ∈ lw_g := List.mem_filter.mpr ⟨List.mem_of_getElem? (i := 20) (by decide +kernel), by decide +kernel⟩
theorem sel_X0_quietTicks : Cond.selects RX0 yX0_quietTicks yX0_quietTicks ∈ lw_g := List.mem_filter.mpr ⟨List.mem_of_getElem? (i := 21) (by decide +kernel), by decide +kernel⟩
theorem sel_X0_wakeAndRefill : Cond.selects RX0 yX0_wakeAndRefill yX0_wakeAndRefill ∈ lw_g := List.mem_filter.mpr ⟨List.mem_of_getElem? (i := 22) (by decide +kernel), by decide +kernel⟩
theorem sel_X0_choose : Cond.selects RX0 yX0_choose yX0_choose ∈ lw_g := List.mem_filter.mpr ⟨List.mem_of_getElem? (i := 23) (by decide +kernel), by decide +kernel⟩
theorem sel_X0_settle : Cond.selects RX0 yX0_settle yX0_settle ∈ lw_g := List.mem_filter.mpr ⟨List.mem_of_getElem? (i := 24) (by decide +kernel), by decide +kernel⟩
theorem sel_X4_rank : Cond.selects RX4 yX4_rank yX4_rank ∈ lw_g := List.mem_filter.mpr ⟨List.mem_of_getElem? (i := 25) (by decide +kernel), by decide +kernel⟩
theorem sel_X0_blockerOf : Cond.selects RX0 yX0_blockerOf yX0_blockerOf ∈ lw_g := List.mem_filter.mpr ⟨List.mem_of_getElem? (i := 26) (by decide +kernel), by decide +kernel⟩
theorem sel_X0_foremostBehind : Cond.selects RX0 yX0_foremostBehind yX0_foremostBehind ∈ lw_g := List.mem_filter.mpr ⟨List.mem_of_getElem? (i := 27) (by decide +kernel), by decide +kernel⟩
theorem sel_X3_add : Cond.selects RX3 yX3_add yX3_add ∈ lw_g := List.mem_filter.mpr ⟨List.mem_of_getElem? (i := 28) (by decide +kernel), by decide +kernel⟩
theorem sel_X0_turn : Cond.selects RX0 yX0_turn yX0_turn ∈ lw_g := List.mem_filter.mpr ⟨List.mem_of_getElem? (i := 29) (by decide +kernel), by decide +kernel⟩
theorem sel_X0_pay : Cond.selects RX0 yX0_pay yX0_pay ∈ lw_g := List.mem_filter.mpr ⟨List.mem_of_getElem? (i := 30) (by decide +kernel), by decide +kernel⟩
theorem sel_X4_payOnce : Cond.selects RX4 yX4_payOnce yX4_payOnce ∈ lw_g := List.mem_filter.mpr ⟨List.mem_of_getElem? (i := 31) (by decide +kernel), by decide +kernel⟩
theorem sel_X0_act : Cond.selects RX0 yX0_act yX0_act ∈ lw_g := List.mem_filter.mpr ⟨List.mem_of_getElem? (i := 32) (by decide +kernel), by decide +kernel⟩
theorem sel_X0_readable : Cond.selects RX0 yX0_readable yX0_readable ∈ lw_g := List.mem_filter.mpr ⟨List.mem_of_getElem? (i := 33) (by decide +kernel), by decide +kernel⟩
theorem sel_X2_byteAt : Cond.selects RX2 yX2_byteAt yX2_byteAt ∈ lw_g := List.mem_filter.mpr ⟨List.mem_of_getElem? (i := 34) (by decide +kernel), by decide +kernel⟩
theorem sel_X0_take : Cond.selects RX0 yX0_take yX0_take ∈ lw_g := List.mem_filter.mpr ⟨List.mem_of_getElem? (i := 35) (by decide +kernel), by decide +kernel⟩
theorem sel_X0_leadsTo : Cond.selects RX0 yX0_leadsTo yX0_leadsTo ∈ lw_g := List.mem_filter.mpr ⟨List.mem_of_getElem? (i := 36) (by decide +kernel), by decide +kernel⟩
theorem sel_X0_keepRing : Cond.selects RX0 yX0_keepRing yX0_keepRing ∈ lw_g := List.mem_filter.mpr ⟨List.mem_of_getElem? (i := 37) (by decide +kernel), by decide +kernel⟩
theorem sel_X0_beginWait : Cond.selects RX0 yX0_beginWait yX0_beginWait ∈ lw_g := List.mem_filter.mpr ⟨List.mem_of_getElem? (i := 38) (by decide +kernel), by decide +kernel⟩
theorem sel_X0_give : Cond.selects RX0 yX0_give yX0_give ∈ lw_g := List.mem_filter.mpr ⟨List.mem_of_getElem? (i := 39) (by decide +kernel), by decide +kernel⟩
theorem sel_X0_handOver : Cond.selects RX0 yX0_handOver yX0_handOver ∈ lw_g := List.mem_filter.mpr ⟨List.mem_of_getElem? (i := 40) (by decide +kernel), by decide +kernel⟩
theorem sel_X0_waitForBell : Cond.selects RX0 yX0_waitForBell yX0_waitForBell ∈ lw_g := List.mem_filter.mpr ⟨List.mem_of_getElem? (i := 41) (by decide +kernel), by decide +kernel⟩
theorem sel_X0_ringFrom : Cond.selects RX0 yX0_ringFrom yX0_ringFrom ∈ lw_g := List.mem_filter.mpr ⟨List.mem_of_getElem? (i := 42) (by decide +kernel), by decide +kernel⟩
theorem sel_X0_sleep : Cond.selects RX0 yX0_sleep yX0_sleep ∈ lw_g := List.mem_filter.mpr ⟨List.mem_of_getElem? (i := 43) (by decide +kernel), by decide +kernel⟩
theorem sel_X0_spawn : Cond.selects RX0 yX0_spawn yX0_spawn ∈ lw_g := List.mem_filter.mpr ⟨List.mem_of_getElem? (i := 44) (by decide +kernel), by decide +kernel⟩
theorem sel_X0_getShorts : Cond.selects RX0 yX0_getShorts yX0_getShorts ∈ lw_g := List.mem_filter.mpr ⟨List.mem_of_getElem? (i := 45) (by decide +kernel), by decide +kernel⟩
theorem sel_X4_makeShorts : Cond.selects RX4 yX4_makeShorts yX4_makeShorts ∈ lw_g := List.mem_filter.mpr ⟨List.mem_of_getElem? (i := 46) (by decide +kernel), by decide +kernel⟩
theorem sel_X0_stamp : Cond.selects RX0 yX0_stamp yX0_stamp ∈ lw_g := List.mem_filter.mpr ⟨List.mem_of_getElem? (i := 47) (by decide +kernel), by decide +kernel⟩
theorem sel_X4_setShort : Cond.selects RX4 yX4_setShort yX4_setShort ∈ lw_g := List.mem_filter.mpr ⟨List.mem_of_getElem? (i := 48) (by decide +kernel), by decide +kernel⟩
theorem sel_X4_hasShort : Cond.selects RX4 yX4_hasShort yX4_hasShort ∈ lw_g := List.mem_filter.mpr ⟨List.mem_of_getElem? (i := 49) (by decide +kernel), by decide +kernel⟩
theorem sel_X0_findShort : Cond.selects RX0 yX0_findShort yX0_findShort ∈ lw_g := List.mem_filter.mpr ⟨List.mem_of_getElem? (i := 50) (by decide +kernel), by decide +kernel⟩
theorem sel_X0_claim : Cond.selects RX0 yX0_claim yX0_claim ∈ lw_g := List.mem_filter.mpr ⟨List.mem_of_getElem? (i := 51) (by decide +kernel), by decide +kernel⟩
theorem sel_X4_isOf : Cond.selects RX4 yX4_isOf yX4_isOf ∈ lw_g := List.mem_filter.mpr ⟨List.mem_of_getElem? (i := 52) (by decide +kernel), by decide +kernel⟩
theorem sel_X0_fail : Cond.selects RX0 yX0_fail yX0_fail ∈ lw_g := List.mem_filter.mpr ⟨List.mem_of_getElem? (i := 53) (by decide +kernel), by decide +kernel⟩
theorem sel_X0_workByShort : Cond.selects RX0 yX0_workByShort yX0_workByShort ∈ lw_g := List.mem_filter.mpr ⟨List.mem_of_getElem? (i := 54) (by decide +kernel), by decide +kernel⟩
theorem sel_X4_shortAt : Cond.selects RX4 yX4_shortAt yX4_shortAt ∈ lw_g := List.mem_filter.mpr ⟨List.mem_of_getElem? (i := 55) (by decide +kernel), by decide +kernel⟩
theorem sel_X0_end : Cond.selects RX0 yX0_end yX0_end ∈ lw_g := List.mem_filter.mpr ⟨List.mem_of_getElem? (i := 56) (by decide +kernel), by decide +kernel⟩
theorem sel_X4_tell : Cond.selects RX4 yX4_tell yX4_tell ∈ lw_g := List.mem_filter.mpr ⟨List.mem_of_getElem? (i := 57) (by decide +kernel), by decide +kernel⟩
theorem sel_X3_has : Cond.selects RX3 yX3_has yX3_has ∈ lw_g := List.mem_filter.mpr ⟨List.mem_of_getElem? (i := 58) (by decide +kernel), by decide +kernel⟩
theorem sel_X3_get : Cond.selects RX3 yX3_get yX3_get ∈ lw_g := List.mem_filter.mpr ⟨List.mem_of_getElem? (i := 59) (by decide +kernel), by decide +kernel⟩
theorem sel_X3_grow : Cond.selects RX3 yX3_grow yX3_grow ∈ lw_g := List.mem_filter.mpr ⟨List.mem_of_getElem? (i := 60) (by decide +kernel), by decide +kernel⟩
theorem sel_X0_clear : Cond.selects RX0 yX0_clear yX0_clear ∈ lw_g := List.mem_filter.mpr ⟨List.mem_of_getElem? (i := 61) (by decide +kernel), by decide +kernel⟩
theorem sel_X5_redo : Cond.selects RX5 yX5_redo yX5_redo ∈ lw_g := List.mem_filter.mpr ⟨List.mem_of_getElem? (i := 62) (by decide +kernel), by decide +kernel⟩
theorem sel_X1_get : Cond.selects RX1 yX1_get yX1_get ∈ lw_g := List.mem_filter.mpr ⟨List.mem_of_getElem? (i := 63) (by decide +kernel), by decide +kernel⟩
theorem sel_X3_firstUnlike : Cond.selects RX3 yX3_firstUnlike yX3_firstUnlike ∈ lw_g := List.mem_filter.mpr ⟨List.mem_of_getElem? (i := 64) (by decide +kernel), by decide +kernel⟩
theorem sel_X0_ticksUntilChosen : Cond.selects RX0 yX0_ticksUntilChosen yX0_ticksUntilChosen ∈ lw_g := List.mem_filter.mpr ⟨List.mem_of_getElem? (i := 65) (by decide +kernel), by decide +kernel⟩
theorem sel_X0_turnsAhead : Cond.selects RX0 yX0_turnsAhead yX0_turnsAhead ∈ lw_g := List.mem_filter.mpr ⟨List.mem_of_getElem? (i := 66) (by decide +kernel), by decide +kernel⟩
theorem sel_X4_paymentsBehind : Cond.selects RX4 yX4_paymentsBehind yX4_paymentsBehind ∈ lw_g := List.mem_filter.mpr ⟨List.mem_of_getElem? (i := 67) (by decide +kernel), by decide +kernel⟩
theorem sel_X0_howMany : Cond.selects RX0 yX0_howMany yX0_howMany ∈ lw_g := List.mem_filter.mpr ⟨List.mem_of_getElem? (i := 68) (by decide +kernel), by decide +kernel⟩
theorem sel_X0_become : Cond.selects RX0 yX0_become yX0_become ∈ lw_g := List.mem_filter.mpr ⟨List.mem_of_getElem? (i := 69) (by decide +kernel), by decide +kernel⟩
theorem sel_X4_become : Cond.selects RX4 yX4_become yX4_become ∈ lw_g := List.mem_filter.mpr ⟨List.mem_of_getElem? (i := 70) (by decide +kernel), by decide +kernel⟩
theorem sel_X2_become : Cond.selects RX2 yX2_become yX2_become ∈ lw_g := List.mem_filter.mpr ⟨List.mem_of_getElem? (i := 71) (by decide +kernel), by decide +kernel⟩
theorem sel_X3_become : Cond.selects RX3 yX3_become yX3_become ∈ lw_g := List.mem_filter.mpr ⟨List.mem_of_getElem? (i := 72) (by decide +kernel), by decide +kernel⟩
theorem sel_X1_become : Cond.selects RX1 yX1_become yX1_become ∈ lw_g := List.mem_filter.mpr ⟨List.mem_of_getElem? (i := 73) (by decide +kernel), by decide +kernel⟩
theorem sel_X0_summed : Cond.selects RX0 yX0_summed yX0_summed ∈ lw_g := List.mem_filter.mpr ⟨List.mem_of_getElem? (i := 74) (by decide +kernel), by decide +kernel⟩
theorem sel_X3_summed : Cond.selects RX3 yX3_summed yX3_summed ∈ lw_g := List.mem_filter.mpr ⟨List.mem_of_getElem? (i := 75) (by decide +kernel), by decide +kernel⟩
theorem sel_X6_isRefused : Cond.selects RX6 yX6_isRefused yX6_isRefused ∈ lw_g := List.mem_filter.mpr ⟨List.mem_of_getElem? (i := 76) (by decide +kernel), by decide +kernel⟩
theorem sel_X6_added : Cond.selects RX6 yX6_added yX6_added ∈ lw_g := List.mem_filter.mpr ⟨List.mem_of_getElem? (i := 77) (by decide +kernel), by decide +kernel⟩
theorem sel_X6_get : Cond.selects RX6 yX6_get yX6_get ∈ lw_g := List.mem_filter.mpr ⟨List.mem_of_getElem? (i := 78) (by decide +kernel), by decide +kernel⟩
theorem sel_X6_set : Cond.selects RX6 yX6_set yX6_set ∈ lw_g := List.mem_filter.mpr ⟨List.mem_of_getElem? (i := 79) (by decide +kernel), by decide +kernel⟩
theorem sel_X6_isLiving : Cond.selects RX6 yX6_isLiving yX6_isLiving ∈ lw_g := List.mem_filter.mpr ⟨List.mem_of_getElem? (i := 80) (by decide +kernel), by decide +kernel⟩
theorem sel_X6_isTask : Cond.selects RX6 yX6_isTask yX6_isTask ∈ lw_g := List.mem_filter.mpr ⟨List.mem_of_getElem? (i := 81) (by decide +kernel), by decide +kernel⟩
theorem sel_X6_isDue : Cond.selects RX6 yX6_isDue yX6_isDue ∈ lw_g := List.mem_filter.mpr ⟨List.mem_of_getElem? (i := 82) (by decide +kernel), by decide +kernel⟩
theorem sel_X6_ringBell : Cond.selects RX6 yX6_ringBell yX6_ringBell ∈ lw_g := List.mem_filter.mpr ⟨List.mem_of_getElem? (i := 83) (by decide +kernel), by decide +kernel⟩
theorem sel_X6_isReadyNow : Cond.selects RX6 yX6_isReadyNow yX6_isReadyNow ∈ lw_g := List.mem_filter.mpr ⟨List.mem_of_getElem? (i := 84) (by decide +kernel), by decide +kernel⟩
theorem sel_X6_tick : Cond.selects RX6 yX6_tick yX6_tick ∈ lw_g := List.mem_filter.mpr ⟨List.mem_of_getElem? (i := 85) (by decide +kernel), by decide +kernel⟩
theorem sel_X6_wakes : Cond.selects RX6 yX6_wakes yX6_wakes ∈ lw_g := List.mem_filter.mpr ⟨List.mem_of_getElem? (i := 86) (by decide +kernel), by decide +kernel⟩
theorem sel_X6_body : Cond.selects RX6 yX6_body yX6_body ∈ lw_g := List.mem_filter.mpr ⟨List.mem_of_getElem? (i := 87) (by decide +kernel), by decide +kernel⟩
theorem sel_X6_chooses : Cond.selects RX6 yX6_chooses yX6_chooses ∈ lw_g := List.mem_filter.mpr ⟨List.mem_of_getElem? (i := 88) (by decide +kernel), by decide +kernel⟩
theorem sel_X6_standingOf : Cond.selects RX6 yX6_standingOf yX6_standingOf ∈ lw_g := List.mem_filter.mpr ⟨List.mem_of_getElem? (i := 89) (by decide +kernel), by decide +kernel⟩
theorem sel_X6_isAhead : Cond.selects RX6 yX6_isAhead yX6_isAhead ∈ lw_g := List.mem_filter.mpr ⟨List.mem_of_getElem? (i := 90) (by decide +kernel), by decide +kernel⟩
theorem sel_X6_classOf : Cond.selects RX6 yX6_classOf yX6_classOf ∈ lw_g := List.mem_filter.mpr ⟨List.mem_of_getElem? (i := 91) (by decide +kernel), by decide +kernel⟩
theorem sel_X6_keyOf : Cond.selects RX6 yX6_keyOf yX6_keyOf ∈ lw_g := List.mem_filter.mpr ⟨List.mem_of_getElem? (i := 92) (by decide +kernel), by decide +kernel⟩
theorem sel_X6_puts : Cond.selects RX6 yX6_puts yX6_puts ∈ lw_g := List.mem_filter.mpr ⟨List.mem_of_getElem? (i := 93) (by decide +kernel), by decide +kernel⟩
theorem sel_X6_turn : Cond.selects RX6 yX6_turn yX6_turn ∈ lw_g := List.mem_filter.mpr ⟨List.mem_of_getElem? (i := 94) (by decide +kernel), by decide +kernel⟩
theorem sel_X6_pays : Cond.selects RX6 yX6_pays yX6_pays ∈ lw_g := List.mem_filter.mpr ⟨List.mem_of_getElem? (i := 95) (by decide +kernel), by decide +kernel⟩
theorem sel_X6_pay : Cond.selects RX6 yX6_pay yX6_pay ∈ lw_g := List.mem_filter.mpr ⟨List.mem_of_getElem? (i := 96) (by decide +kernel), by decide +kernel⟩
theorem sel_X6_act : Cond.selects RX6 yX6_act yX6_act ∈ lw_g := List.mem_filter.mpr ⟨List.mem_of_getElem? (i := 97) (by decide +kernel), by decide +kernel⟩
theorem sel_X6_takesLock : Cond.selects RX6 yX6_takesLock yX6_takesLock ∈ lw_g := List.mem_filter.mpr ⟨List.mem_of_getElem? (i := 98) (by decide +kernel), by decide +kernel⟩
theorem sel_X6_waits : Cond.selects RX6 yX6_waits yX6_waits ∈ lw_g := List.mem_filter.mpr ⟨List.mem_of_getElem? (i := 99) (by decide +kernel), by decide +kernel⟩
theorem sel_X6_givesLock : Cond.selects RX6 yX6_givesLock yX6_givesLock ∈ lw_g := List.mem_filter.mpr ⟨List.mem_of_getElem? (i := 100) (by decide +kernel), by decide +kernel⟩
theorem sel_X6_passes : Cond.selects RX6 yX6_passes yX6_passes ∈ lw_g := List.mem_filter.mpr ⟨List.mem_of_getElem? (i := 101) (by decide +kernel), by decide +kernel⟩
theorem sel_X6_forks : Cond.selects RX6 yX6_forks yX6_forks ∈ lw_g := List.mem_filter.mpr ⟨List.mem_of_getElem? (i := 102) (by decide +kernel), by decide +kernel⟩
theorem sel_X6_says : Cond.selects RX6 yX6_says yX6_says ∈ lw_g := List.mem_filter.mpr ⟨List.mem_of_getElem? (i := 103) (by decide +kernel), by decide +kernel⟩
theorem sel_X6_smalls : Cond.selects RX6 yX6_smalls yX6_smalls ∈ lw_g := List.mem_filter.mpr ⟨List.mem_of_getElem? (i := 104) (by decide +kernel), by decide +kernel⟩
theorem sel_X6_ends : Cond.selects RX6 yX6_ends yX6_ends ∈ lw_g := List.mem_filter.mpr ⟨List.mem_of_getElem? (i := 105) (by decide +kernel), by decide +kernel⟩
theorem sel_X6_isRow : Cond.selects RX6 yX6_isRow yX6_isRow ∈ lw_g := List.mem_filter.mpr ⟨List.mem_of_getElem? (i := 106) (by decide +kernel), by decide +kernel⟩
theorem sel_X6_payments : Cond.selects RX6 yX6_payments yX6_payments ∈ lw_g := List.mem_filter.mpr ⟨List.mem_of_getElem? (i := 107) (by decide +kernel), by decide +kernel⟩
end
section
/-! rows whose ints are known to be natural numbers; whole rows of arrays replaced; arraycopy -/
def sRI (m : Mem) (a : Nat) (f : Nat → Int32) : Mem := (gT m, gN m, gI m, gL m, gP m, va_up (aI m) a f, aL m, aP m, zz m, nn m)
def sRL (m : Mem) (a : Nat) (f : Nat → Int64) : Mem := (gT m, gN m, gI m, gL m, gP m, aI m, va_up (aL m) a f, aP m, zz m, nn m)
theorem vu_eq {α : Type} (g : Nat → α) (a : Nat) (x : α) : va_up g a x a = x := by simp [va_up]
theorem vu_ne {α : Type} (g : Nat → α) {a b : Nat} (x : α) (h : b ≠ a) : va_up g a x b = g b := by simp [va_up, h]
theorem sAI_row (m : Mem) (a i : Nat) (x : Int32) : sAI m a i x = sRI m a (upd (aI m a) i x) := by
  have h : u2 (aI m) a i x = va_up (aI m) a (upd (aI m a) i x) := by
    funext b j
    by_cases hb : b = a
    · subst hb
      by_cases hj : j = i <;> simp [u2, va_up, upd, hj]
    · simp [u2, va_up, hb]
  unfold sAI sRI
  rw [h]
theorem sAL_row (m : Mem) (a i : Nat) (x : Int64) : sAL m a i x = sRL m a (vp_updL (aL m a) i x) := by
  have h : u2 (aL m) a i x = va_up (aL m) a (vp_updL (aL m a) i x) := by
    funext b j
    by_cases hb : b = a
    · subst hb
      by_cases hj : j = i <;> simp [u2, va_up, vp_updL, hj]
    · simp [u2, va_up, hb]
  unfold sAL sRL
  rw [h]
theorem nfw : nativeFrameWords "java/lang/System" "arraycopy" 5 + 11 ≤ 27 := by decide +kernel
section Rows6
variable {G : GG} {d : Nat} {u : MI} {z0 n0 : Nat} {r : Option Value} {mF : Mem} {pc : Nat} {lv : List (Nat × Value)} {st : List Value} {m : Mem}
theorem e_ic {n : Int} (v : Int32) (hd : decode u.2.1 pc = .ok (.iconst n, 1)) (hv : Int32.ofInt n = v) (k : EvB G d u z0 n0 r mF (pc + 1) lv (.int v :: st) m) : EvB G d u z0 n0 r mF pc lv st m := e_iconst hd hv k
theorem e_iaddN {a b : Nat} (hd : decode u.2.1 pc = .ok (.iadd, 1)) (k : EvB G d u z0 n0 r mF (pc + 1) lv (.int (nI (a + b)) :: st) m) : EvB G d u z0 n0 r mF pc lv (.int (nI b) :: .int (nI a) :: st) m := e_iadd hd (by rw [nI_add]; exact k)
theorem e_isubN {a b : Nat} (hd : decode u.2.1 pc = .ok (.isub, 1)) (h : b ≤ a) (k : EvB G d u z0 n0 r mF (pc + 1) lv (.int (nI (a - b)) :: st) m) : EvB G d u z0 n0 r mF pc lv (.int (nI b) :: .int (nI a) :: st) m := e_isub hd (by rw [pk_sub h]; exact k)
theorem e_imulN {a b : Nat} (hd : decode u.2.1 pc = .ok (.imul, 1)) (k : EvB G d u z0 n0 r mF (pc + 1) lv (.int (nI (a * b)) :: st) m) : EvB G d u z0 n0 r mF pc lv (.int (nI b) :: .int (nI a) :: st) m := e_imul hd (by rw [pk_mul]; exact k)
theorem e_iinc1N {i a : Nat} {lv' : List (Nat × Value)} (j : Nat) (hd : decode u.2.1 pc = .ok (.iinc i 1, 3)) (hj : lv[j]? = some (i, .int (nI a))) (hn : i < u.2.2.1) (hlv : (i, Value.int (nI (a + 1))) :: lv.filter (fun q => !(q.1 == i) && !(q.1 + 1 == i && q.2.category == 2)) = lv') (k : EvB G d u z0 n0 r mF (pc + 3) lv' st m) : EvB G d u z0 n0 r mF pc lv st m := e_iinc j hd hj (nI_1 a) hn hlv k
theorem e_i2lN {a : Nat} (hd : decode u.2.1 pc = .ok (.i2l, 1)) (h : a < 2 ^ 31) (k : EvB G d u z0 n0 r mF (pc + 1) lv (.long (lN a) :: st) m) : EvB G d u z0 n0 r mF pc lv (.int (nI a) :: st) m := e_i2l hd (by rw [nI_l h]; exact k)
theorem e_iv {v w : Int32} (h : v = w) (k : EvB G d u z0 n0 r mF pc lv (.int w :: st) m) : EvB G d u z0 n0 r mF pc lv (.int v :: st) m := h ▸ k
theorem e_lv {v w : Int64} (h : v = w) (k : EvB G d u z0 n0 r mF pc lv (.long w :: st) m) : EvB G d u z0 n0 r mF pc lv (.long v :: st) m := h ▸ k
theorem e_mem {m' : Mem} (h : m = m') (k : EvB G d u z0 n0 r mF pc lv st m') : EvB G d u z0 n0 r mF pc lv st m := h ▸ k
theorem e_lvs {lv' : List (Nat × Value)} (h : lv = lv') (k : EvB G d u z0 n0 r mF pc lv' st m) : EvB G d u z0 n0 r mF pc lv st m := h ▸ k
/-- fewer locals, in any order -/
theorem e_sub {lv' : List (Nat × Value)} (ks : List Nat) (h : lv_pick lv ks = lv') (k : EvB G d u z0 n0 r mF pc lv' st m) : EvB G d u z0 n0 r mF pc lv st m :=
  ⟨k.1, fun p e R s q args below meth c Q F hR hQ hB h1 h2 H ls locs hr hl hL => k.2 p e R s q args below meth c Q F hR hQ hB h1 h2 H ls locs hr (lv_sub hl ks h) hL⟩
theorem e_getIv {i ci k a : Nat} (x : Int32) (hd : decode u.2.1 pc = .ok (.getfield i, 3)) (hf : FL u.1.cls i ci k) (hk : (kX ci).getD k 0 = 0) (ht : gT m a = ci + 1) (hx : gI m (20 * ci + k) a = x) (kk : EvB G d u z0 n0 r mF (pc + 3) lv (.int x :: st) m) : EvB G d u z0 n0 r mF pc lv (.ref a :: st) m := e_getI hd hf hk ht (by rw [hx]; exact kk)
theorem e_getLv {i ci k a : Nat} (x : Int64) (hd : decode u.2.1 pc = .ok (.getfield i, 3)) (hf : FL u.1.cls i ci k) (hk : (kX ci).getD k 0 = 1) (ht : gT m a = ci + 1) (hx : gL m (20 * ci + k) a = x) (kk : EvB G d u z0 n0 r mF (pc + 3) lv (.long x :: st) m) : EvB G d u z0 n0 r mF pc lv (.ref a :: st) m := e_getL hd hf hk ht (by rw [hx]; exact kk)
theorem cl_nI {j n : Nat} (h : j < n) (hn : n < 2 ^ 31) : (nI j).toNatClampNeg = j := nI_clamp (by omega)
theorem e_ialdN {a : Nat} {j : Nat} (x : Int32) (hd : decode u.2.1 pc = .ok (.iaload, 1)) (ht : gT m a = 12) (hj : j < gN m a) (hn : gN m a < 2 ^ 31) (hx : aI m a j = x) (kk : EvB G d u z0 n0 r mF (pc + 1) lv (.int x :: st) m) : EvB G d u z0 n0 r mF pc lv (.int (nI j) :: .ref a :: st) m := e_iald hd ht (vp_in_nI hj hn) (by rw [cl_nI hj hn, hx]; exact kk)
theorem e_ialdSN {a : Nat} {j : Nat} (x : Int32) (hd : decode u.2.1 pc = .ok (.iaload, 1)) (ht : gT m a = 18) (hj : j < gN m a) (hn : gN m a < 2 ^ 31) (hx : aI m a j = x) (kk : EvB G d u z0 n0 r mF (pc + 1) lv (.int x :: st) m) : EvB G d u z0 n0 r mF pc lv (.int (nI j) :: .ref a :: st) m := e_ialdS hd ht (vp_in_nI hj hn) (by rw [cl_nI hj hn, hx]; exact kk)
theorem e_baldN {a : Nat} {j : Nat} (x : Int32) (hd : decode u.2.1 pc = .ok (.baload, 1)) (ht : gT m a = 11) (hj : j < gN m a) (hn : gN m a < 2 ^ 31) (hx : aI m a j = x) (kk : EvB G d u z0 n0 r mF (pc + 1) lv (.int x :: st) m) : EvB G d u z0 n0 r mF pc lv (.int (nI j) :: .ref a :: st) m := e_bald hd ht (vp_in_nI hj hn) (by rw [cl_nI hj hn, hx]; exact kk)
theorem e_zaldN {a : Nat} {j : Nat} (x : Int32) (hd : decode u.2.1 pc = .ok (.baload, 1)) (ht : gT m a = 15) (hj : j < gN m a) (hn : gN m a < 2 ^ 31) (hx : aI m a j = x) (kk : EvB G d u z0 n0 r mF (pc + 1) lv (.int x :: st) m) : EvB G d u z0 n0 r mF pc lv (.int (nI j) :: .ref a :: st) m := e_zald hd ht (vp_in_nI hj hn) (by rw [cl_nI hj hn, hx]; exact kk)
theorem e_saldN {a : Nat} {j : Nat} (x : Int32) (hd : decode u.2.1 pc = .ok (.saload, 1)) (ht : gT m a = 14) (hj : j < gN m a) (hn : gN m a < 2 ^ 31) (hx : aI m a j = x) (kk : EvB G d u z0 n0 r mF (pc + 1) lv (.int x :: st) m) : EvB G d u z0 n0 r mF pc lv (.int (nI j) :: .ref a :: st) m := e_sald hd ht (vp_in_nI hj hn) (by rw [cl_nI hj hn, hx]; exact kk)
theorem e_laldN {a : Nat} {j : Nat} (x : Int64) (hd : decode u.2.1 pc = .ok (.laload, 1)) (ht : gT m a = 13) (hj : j < gN m a) (hn : gN m a < 2 ^ 31) (hx : aL m a j = x) (kk : EvB G d u z0 n0 r mF (pc + 1) lv (.long x :: st) m) : EvB G d u z0 n0 r mF pc lv (.int (nI j) :: .ref a :: st) m := e_lald hd ht (vp_in_nI hj hn) (by rw [cl_nI hj hn, hx]; exact kk)
theorem e_aaldN {a t : Nat} {j : Nat} (o : Option Nat) (hd : decode u.2.1 pc = .ok (.aaload, 1)) (ht : gT m a = t) (h1 : t = 16 ∨ t = 17) (hj : j < gN m a) (hn : gN m a < 2 ^ 31) (ho : aP m a j = o) (kk : EvB G d u z0 n0 r mF (pc + 1) lv (va_rf o :: st) m) : EvB G d u z0 n0 r mF pc lv (.int (nI j) :: .ref a :: st) m := e_aald o hd ht h1 (vp_in_nI hj hn) (by rw [cl_nI hj hn, ho]) kk
theorem e_iastN {a j : Nat} {x : Int32} (m' : Mem) (hd : decode u.2.1 pc = .ok (.iastore, 1)) (ht : gT m a = 12) (hj : j < gN m a) (hn : gN m a < 2 ^ 31) (hm : sAI m a j x = m') (kk : EvB G d u z0 n0 r mF (pc + 1) lv st m') : EvB G d u z0 n0 r mF pc lv (.int x :: .int (nI j) :: .ref a :: st) m := e_iast hd ht (vp_in_nI hj hn) (by rw [cl_nI hj hn, hm]; exact kk)
theorem e_bastN {a j : Nat} {x y : Int32} (m' : Mem) (hd : decode u.2.1 pc = .ok (.bastore, 1)) (ht : gT m a = 11) (hj : j < gN m a) (hn : gN m a < 2 ^ 31) (hx : narrow .byte (.int x) = .int y) (hm : sAI m a j y = m') (kk : EvB G d u z0 n0 r mF (pc + 1) lv st m') : EvB G d u z0 n0 r mF pc lv (.int x :: .int (nI j) :: .ref a :: st) m := e_bast hd ht (vp_in_nI hj hn) hx (by rw [cl_nI hj hn, hm]; exact kk)
theorem e_zastN {a j : Nat} {x y : Int32} (m' : Mem) (hd : decode u.2.1 pc = .ok (.bastore, 1)) (ht : gT m a = 15) (hj : j < gN m a) (hn : gN m a < 2 ^ 31) (hx : narrow .boolean (.int x) = .int y) (hm : sAI m a j y = m') (kk : EvB G d u z0 n0 r mF (pc + 1) lv st m') : EvB G d u z0 n0 r mF pc lv (.int x :: .int (nI j) :: .ref a :: st) m := e_zast hd ht (vp_in_nI hj hn) hx (by rw [cl_nI hj hn, hm]; exact kk)
theorem e_sastN {a j : Nat} {x y : Int32} (m' : Mem) (hd : decode u.2.1 pc = .ok (.sastore, 1)) (ht : gT m a = 14) (hj : j < gN m a) (hn : gN m a < 2 ^ 31) (hx : narrow .short (.int x) = .int y) (hm : sAI m a j y = m') (kk : EvB G d u z0 n0 r mF (pc + 1) lv st m') : EvB G d u z0 n0 r mF pc lv (.int x :: .int (nI j) :: .ref a :: st) m := e_sast hd ht (vp_in_nI hj hn) hx (by rw [cl_nI hj hn, hm]; exact kk)
theorem e_lastN {a j : Nat} {x : Int64} (m' : Mem) (hd : decode u.2.1 pc = .ok (.lastore, 1)) (ht : gT m a = 13) (hj : j < gN m a) (hn : gN m a < 2 ^ 31) (hm : sAL m a j x = m') (kk : EvB G d u z0 n0 r mF (pc + 1) lv st m') : EvB G d u z0 n0 r mF pc lv (.long x :: .int (nI j) :: .ref a :: st) m := e_last hd ht (vp_in_nI hj hn) (by rw [cl_nI hj hn, hm]; exact kk)
-- branches on natural numbers
theorem e_icmp_geN {a b : Nat} {off : Int} (tgt : Nat) (hd : decode u.2.1 pc = .ok (.if_icmp .ge off, 3)) (ht : (pc : Int) + off = (tgt : Int)) (ha : a < 2 ^ 31) (hb : b < 2 ^ 31) (k1 : b ≤ a → EvB G d u z0 n0 r mF tgt lv st m) (k2 : a < b → EvB G d u z0 n0 r mF (pc + 3) lv st m) : EvB G d u z0 n0 r mF pc lv (.int (nI b) :: .int (nI a) :: st) m := e_icmp_ge tgt hd ht (fun h => k1 ((nI_leI hb ha).mp h)) (fun h => k2 (by have := mt (nI_leI hb ha).mpr h; omega))
theorem e_icmp_gtN {a b : Nat} {off : Int} (tgt : Nat) (hd : decode u.2.1 pc = .ok (.if_icmp .gt off, 3)) (ht : (pc : Int) + off = (tgt : Int)) (ha : a < 2 ^ 31) (hb : b < 2 ^ 31) (k1 : b < a → EvB G d u z0 n0 r mF tgt lv st m) (k2 : a ≤ b → EvB G d u z0 n0 r mF (pc + 3) lv st m) : EvB G d u z0 n0 r mF pc lv (.int (nI b) :: .int (nI a) :: st) m := e_icmp_gt tgt hd ht (fun h => k1 ((nI_ltI hb ha).mp h)) (fun h => k2 (by have := mt (nI_ltI hb ha).mpr h; omega))
theorem e_icmp_ltN {a b : Nat} {off : Int} (tgt : Nat) (hd : decode u.2.1 pc = .ok (.if_icmp .lt off, 3)) (ht : (pc : Int) + off = (tgt : Int)) (ha : a < 2 ^ 31) (hb : b < 2 ^ 31) (k1 : a < b → EvB G d u z0 n0 r mF tgt lv st m) (k2 : b ≤ a → EvB G d u z0 n0 r mF (pc + 3) lv st m) : EvB G d u z0 n0 r mF pc lv (.int (nI b) :: .int (nI a) :: st) m := e_icmp_lt tgt hd ht (fun h => k1 ((nI_ltI ha hb).mp h)) (fun h => k2 (by have := mt (nI_ltI ha hb).mpr h; omega))
theorem e_icmp_leN {a b : Nat} {off : Int} (tgt : Nat) (hd : decode u.2.1 pc = .ok (.if_icmp .le off, 3)) (ht : (pc : Int) + off = (tgt : Int)) (ha : a < 2 ^ 31) (hb : b < 2 ^ 31) (k1 : a ≤ b → EvB G d u z0 n0 r mF tgt lv st m) (k2 : b < a → EvB G d u z0 n0 r mF (pc + 3) lv st m) : EvB G d u z0 n0 r mF pc lv (.int (nI b) :: .int (nI a) :: st) m := e_icmp_le tgt hd ht (fun h => k1 ((nI_leI ha hb).mp h)) (fun h => k2 (by have := mt (nI_leI ha hb).mpr h; omega))
theorem e_icmp_eqN {a b : Nat} {off : Int} (tgt : Nat) (hd : decode u.2.1 pc = .ok (.if_icmp .eq off, 3)) (ht : (pc : Int) + off = (tgt : Int)) (ha : a < 2 ^ 31) (hb : b < 2 ^ 31) (k1 : a = b → EvB G d u z0 n0 r mF tgt lv st m) (k2 : ¬ a = b → EvB G d u z0 n0 r mF (pc + 3) lv st m) : EvB G d u z0 n0 r mF pc lv (.int (nI b) :: .int (nI a) :: st) m := e_icmp_eq tgt hd ht (fun h => k1 ((nI_eq ha hb).mp h)) (fun h => k2 (mt (nI_eq ha hb).mpr h))
theorem e_icmp_neN {a b : Nat} {off : Int} (tgt : Nat) (hd : decode u.2.1 pc = .ok (.if_icmp .ne off, 3)) (ht : (pc : Int) + off = (tgt : Int)) (ha : a < 2 ^ 31) (hb : b < 2 ^ 31) (k1 : ¬ a = b → EvB G d u z0 n0 r mF tgt lv st m) (k2 : a = b → EvB G d u z0 n0 r mF (pc + 3) lv st m) : EvB G d u z0 n0 r mF pc lv (.int (nI b) :: .int (nI a) :: st) m := e_icmp_ne tgt hd ht (fun h => k1 (mt (nI_eq ha hb).mpr h)) (fun h => k2 ((nI_eq ha hb).mp h))
-- System.arraycopy
theorem e_copyI {i a a0 t : Nat} {sp dp n : Nat} (hd : decode u.2.1 pc = .ok (.invokestatic i, 3)) (hl : Cond.methodLink u.1.cls i arraycopyName ∈ lw_g) (hnat : Cond.native arraycopyName ∈ lw_g) (hsta : Cond.static arraycopyName ∈ lw_g) (hini : Cond.initialized "java/lang/System" ∈ lw_g) (ht0 : gT m a0 = t) (ht1 : gT m a = t) (h1 : t = 11 ∨ t = 12 ∨ t = 14 ∨ t = 15)
    (hs : sp + n ≤ gN m a0) (hdn : dp + n ≤ gN m a) (hb0 : gN m a0 < 2 ^ 31) (hb1 : gN m a < 2 ^ 31) (hfit : ∀ j, j < n → fits (tyA t) (.int (aI m a0 (sp + j))) = true) (hw : (st.map fun v => v.category).sum ≤ 8)
    (kk : EvB G d u z0 n0 r mF (pc + 3) lv st (sRI m a (va_cpy (aI m a0) (aI m a) sp dp n))) : EvB G d u z0 n0 r mF pc lv (.int (nI n) :: .int (nI dp) :: .ref a :: .int (nI sp) :: .ref a0 :: st) m := by
  refine ⟨kk.1, fun p e R s q args below meth c Q F hR hQ hB g1 g2 H ls locs hr hls hL => ?_⟩
  have hts := F.2.2.2.2.2.2.2.1
  have K := F.2.2.2.2.2.2.2.2
  obtain ⟨hR1, hR2, -, -⟩ := id hR
  intro T hT X
  have hc0 : H[a0]? = some (vp_cell (G.2.2.2 t) (gN m a0, .inl (aI m a0))) := hr.2.1 a0 _ (cO_int ht0 h1)
  have hc1 : H[a]? = some (vp_cell (G.2.2.2 t) (gN m a, .inl (aI m a))) := hr.2.1 a _ (cO_int ht1 h1)
  have hA := (TY_at K (t := t) ⟨by omega, by omega⟩).1
  obtain ⟨-, k0, hk0, cm0, hkk0⟩ := hA (gN m a0) (fun j => .int (aI m a0 j))
  obtain ⟨-, k1, hk1, cm1, hkk1⟩ := hA (gN m a) (fun j => .int (aI m a j))
  have hprim : refKind (tyA t) = false := by rcases h1 with rfl | rfl | rfl | rfl <;> rfl
  obtain ⟨vm', X', step⟩ := X.arraycopy F.1 F.2.2.2.2.2.1 (hts _ hl) (hts _ hnat) (hts _ hsta) (hts _ hini) (src := a0) (dst := a) (cs := vp_cell (G.2.2.2 t) (gN m a0, .inl (aI m a0))) (cd := vp_cell (G.2.2.2 t) (gN m a, .inl (aI m a))) (srcPos := nI sp) (destPos := nI dp) (n := nI n) (by rw [hT]; exact hc0) (by rw [hT]; exact hc1)
    (fun _ h => by cases h) (fun _ h => by cases h) (fun h => by cases h) (fun h => by cases h) hk0 hk1 hkk0 hkk1 (by simp [hprim]) (nI_pos (by omega)) (nI_pos (by omega)) (nI_pos (by omega))
    (by rw [nI_toInt (by omega), nI_toInt (by omega)]; show ¬ _ > ((arrV _ (gN m a0) (fun j => .int (aI m a0 j))).slots.size : Int); rw [arrV_size]; omega)
    (by rw [nI_toInt (by omega), nI_toInt (by omega)]; show ¬ _ > ((arrV _ (gN m a) (fun j => .int (aI m a j))).slots.size : Int); rw [arrV_size]; omega)
    (fun vm₁ _ j hj => by
      rw [nI_clamp (by omega)] at hj
      have e : (vp_cell (G.2.2.2 t) (gN m a0, .inl (aI m a0))).slots.getD ((nI sp).toNatClampNeg + j) .null = .int (aI m a0 (sp + j)) := by
        show (arrV _ (gN m a0) (fun j => .int (aI m a0 j))).slots.getD _ _ = _
        rw [nI_clamp (by omega), Array.getD_eq_getD_getElem?, arrV_read _ _ (by omega)]
        rfl
      rw [e]
      exact ⟨hfit j hj, trivial⟩)
    (g := F0 q pc ls (.int (nI n) :: .int (nI dp) :: .ref a :: .int (nI sp) :: .ref a0 :: st)) rfl (by rw [F.2.2.2.1]; exact hls.1) (rest := st) rfl (by rw [F.2.1]; exact hd) (by omega) (by show 2 * 0 + _ + (nativeFrameWords "java/lang/System" "arraycopy" 5 + 11) ≤ _; have := nfw; omega)
  have e1 : copied (vp_cell (G.2.2.2 t) (gN m a0, .inl (aI m a0))) (vp_cell (G.2.2.2 t) (gN m a, .inl (aI m a))) (nI sp) (nI dp) (nI n) = vp_cell (G.2.2.2 t) (gN m a, .inl (va_cpy (aI m a0) (aI m a) sp dp n)) := by
    have := va_copied (fun z => Value.int z) (G.2.2.2 t) (G.2.2.2 t) (n1 := gN m a) (sp := sp) (dp := dp) (n := n) (aI m a0) (aI m a) hs
    unfold copied
    rw [nI_clamp (by omega), nI_clamp (by omega), nI_clamp (by omega)]
    exact this
  rw [e1] at X' step
  have hl' : a < H.size := (Array.getElem?_eq_some_iff.mp hc1).1
  have hrow : aI (sRI m a (va_cpy (aI m a0) (aI m a) sp dp n)) a = va_cpy (aI m a0) (aI m a) sp dp n := vu_eq _ _ _
  have hr1 : Rep G (sRI m a (va_cpy (aI m a0) (aI m a) sp dp n)) (H.setIfInBounds a (vp_cell (G.2.2.2 t) (gN m a, .inl (va_cpy (aI m a0) (aI m a) sp dp n)))) := by
    refine hr.set rfl rfl (a := a) (fun b hb => cO_oth rfl rfl (fun f => ⟨rfl, rfl, rfl⟩) (vu_ne _ _ hb) rfl rfl) (cO_int (m := sRI m a (va_cpy (aI m a0) (aI m a) sp dp n)) ht1 h1) ?_ (by simp) (fun q hq => by simp [Array.getElem?_setIfInBounds, Ne.symm hq])
    show (H.setIfInBounds a _)[a]? = some (vp_cell _ (gN m a, .inl (aI (sRI m a (va_cpy (aI m a0) (aI m a) sp dp n)) a)))
    rw [hrow]
    simp [Array.getElem?_setIfInBounds, hl']
  have w : ∀ locs1 : List Loc, (∀ x ∈ locs1, G.2.2.1 ≤ x.base) → _ := fun locs1 hL1 => kk.2 p e R s q args below meth c Q F hR hQ hB g1 g2 _ ls locs1 hr1 hls hL1
  have hheap : ((T.setVm vm').setCell a (vp_cell (G.2.2.2 t) (gN m a, .inl (va_cpy (aI m a0) (aI m a) sp dp n)))).heap = H.setIfInBounds a (vp_cell (G.2.2.2 t) (gN m a, .inl (va_cpy (aI m a0) (aI m a) sp dp n))) := by rw [← hT]; rfl
  obtain ⟨t', a1, b1⟩ := w _ (fun x hx => by
    rcases List.mem_append.mp hx with h | h
    · exact hL x h
    · obtain ⟨z, -, hz⟩ := List.mem_map.mp h
      rw [← hz]
      exact hr.2.2 a (by rw [ht1]; omega) (by rw [ht1]; omega)) _ hheap X'
  exact ⟨t', step t' a1, b1⟩
theorem e_copyL {i a a0 : Nat} {sp dp n : Nat} (hd : decode u.2.1 pc = .ok (.invokestatic i, 3)) (hl : Cond.methodLink u.1.cls i arraycopyName ∈ lw_g) (hnat : Cond.native arraycopyName ∈ lw_g) (hsta : Cond.static arraycopyName ∈ lw_g) (hini : Cond.initialized "java/lang/System" ∈ lw_g) (ht0 : gT m a0 = 13) (ht1 : gT m a = 13)
    (hs : sp + n ≤ gN m a0) (hdn : dp + n ≤ gN m a) (hb0 : gN m a0 < 2 ^ 31) (hb1 : gN m a < 2 ^ 31) (hw : (st.map fun v => v.category).sum ≤ 8)
    (kk : EvB G d u z0 n0 r mF (pc + 3) lv st (sRL m a (va_cpy (aL m a0) (aL m a) sp dp n))) : EvB G d u z0 n0 r mF pc lv (.int (nI n) :: .int (nI dp) :: .ref a :: .int (nI sp) :: .ref a0 :: st) m := by
  refine ⟨kk.1, fun p e R s q args below meth c Q F hR hQ hB g1 g2 H ls locs hr hls hL => ?_⟩
  have hts := F.2.2.2.2.2.2.2.1
  have K := F.2.2.2.2.2.2.2.2
  obtain ⟨hR1, hR2, -, -⟩ := id hR
  intro T hT X
  have hc0 : H[a0]? = some (vp_cell (G.2.2.2 13) (gN m a0, .inr (.inl (aL m a0)))) := hr.2.1 a0 _ (cO_lng ht0)
  have hc1 : H[a]? = some (vp_cell (G.2.2.2 13) (gN m a, .inr (.inl (aL m a)))) := hr.2.1 a _ (cO_lng ht1)
  have hA := (TY_at K (t := 13) ⟨by decide, by decide⟩).1
  obtain ⟨-, k0, hk0, cm0, hkk0⟩ := hA (gN m a0) (fun j => .long (aL m a0 j))
  obtain ⟨-, k1, hk1, cm1, hkk1⟩ := hA (gN m a) (fun j => .long (aL m a j))
  have hprim : refKind (tyA 13) = false := rfl
  obtain ⟨vm', X', step⟩ := X.arraycopy F.1 F.2.2.2.2.2.1 (hts _ hl) (hts _ hnat) (hts _ hsta) (hts _ hini) (src := a0) (dst := a) (cs := vp_cell (G.2.2.2 13) (gN m a0, .inr (.inl (aL m a0)))) (cd := vp_cell (G.2.2.2 13) (gN m a, .inr (.inl (aL m a)))) (srcPos := nI sp) (destPos := nI dp) (n := nI n) (by rw [hT]; exact hc0) (by rw [hT]; exact hc1)
    (fun _ h => by cases h) (fun _ h => by cases h) (fun h => by cases h) (fun h => by cases h) hk0 hk1 hkk0 hkk1 (by simp [hprim]) (nI_pos (by omega)) (nI_pos (by omega)) (nI_pos (by omega))
    (by rw [nI_toInt (by omega), nI_toInt (by omega)]; show ¬ _ > ((arrV _ (gN m a0) (fun j => .long (aL m a0 j))).slots.size : Int); rw [arrV_size]; omega)
    (by rw [nI_toInt (by omega), nI_toInt (by omega)]; show ¬ _ > ((arrV _ (gN m a) (fun j => .long (aL m a j))).slots.size : Int); rw [arrV_size]; omega)
    (fun vm₁ _ j hj => by
      rw [nI_clamp (by omega)] at hj
      have e : (vp_cell (G.2.2.2 13) (gN m a0, .inr (.inl (aL m a0)))).slots.getD ((nI sp).toNatClampNeg + j) .null = .long (aL m a0 (sp + j)) := by
        show (arrV _ (gN m a0) (fun j => .long (aL m a0 j))).slots.getD _ _ = _
        rw [nI_clamp (by omega), Array.getD_eq_getD_getElem?, arrV_read _ _ (by omega)]
        rfl
      rw [e]
      exact ⟨rfl, trivial⟩)
    (g := F0 q pc ls (.int (nI n) :: .int (nI dp) :: .ref a :: .int (nI sp) :: .ref a0 :: st)) rfl (by rw [F.2.2.2.1]; exact hls.1) (rest := st) rfl (by rw [F.2.1]; exact hd) (by omega) (by show 2 * 0 + _ + (nativeFrameWords "java/lang/System" "arraycopy" 5 + 11) ≤ _; have := nfw; omega)
  have e1 : copied (vp_cell (G.2.2.2 13) (gN m a0, .inr (.inl (aL m a0)))) (vp_cell (G.2.2.2 13) (gN m a, .inr (.inl (aL m a)))) (nI sp) (nI dp) (nI n) = vp_cell (G.2.2.2 13) (gN m a, .inr (.inl (va_cpy (aL m a0) (aL m a) sp dp n))) := by
    have := va_copied (fun z => Value.long z) (G.2.2.2 13) (G.2.2.2 13) (n1 := gN m a) (sp := sp) (dp := dp) (n := n) (aL m a0) (aL m a) hs
    unfold copied
    rw [nI_clamp (by omega), nI_clamp (by omega), nI_clamp (by omega)]
    exact this
  rw [e1] at X' step
  have hl' : a < H.size := (Array.getElem?_eq_some_iff.mp hc1).1
  have hrow : aL (sRL m a (va_cpy (aL m a0) (aL m a) sp dp n)) a = va_cpy (aL m a0) (aL m a) sp dp n := vu_eq _ _ _
  have hr1 : Rep G (sRL m a (va_cpy (aL m a0) (aL m a) sp dp n)) (H.setIfInBounds a (vp_cell (G.2.2.2 13) (gN m a, .inr (.inl (va_cpy (aL m a0) (aL m a) sp dp n))))) := by
    refine hr.set rfl rfl (a := a) (fun b hb => cO_oth rfl rfl (fun f => ⟨rfl, rfl, rfl⟩) rfl (vu_ne _ _ hb) rfl) (cO_lng (m := sRL m a (va_cpy (aL m a0) (aL m a) sp dp n)) ht1) ?_ (by simp) (fun q hq => by simp [Array.getElem?_setIfInBounds, Ne.symm hq])
    show (H.setIfInBounds a _)[a]? = some (vp_cell _ (gN m a, .inr (.inl (aL (sRL m a (va_cpy (aL m a0) (aL m a) sp dp n)) a))))
    rw [hrow]
    simp [Array.getElem?_setIfInBounds, hl']
  have w : ∀ locs1 : List Loc, (∀ x ∈ locs1, G.2.2.1 ≤ x.base) → _ := fun locs1 hL1 => kk.2 p e R s q args below meth c Q F hR hQ hB g1 g2 _ ls locs1 hr1 hls hL1
  have hheap : ((T.setVm vm').setCell a (vp_cell (G.2.2.2 13) (gN m a, .inr (.inl (va_cpy (aL m a0) (aL m a) sp dp n))))).heap = H.setIfInBounds a (vp_cell (G.2.2.2 13) (gN m a, .inr (.inl (va_cpy (aL m a0) (aL m a) sp dp n)))) := by rw [← hT]; rfl
  obtain ⟨t', a1, b1⟩ := w _ (fun x hx => by
    rcases List.mem_append.mp hx with h | h
    · exact hL x h
    · obtain ⟨z, -, hz⟩ := List.mem_map.mp h
      rw [← hz]
      exact hr.2.2 a (by rw [ht1]; omega) (by rw [ht1]; omega)) _ hheap X'
  exact ⟨t', step t' a1, b1⟩
end Rows6
end
