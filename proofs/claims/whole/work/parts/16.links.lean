theorem ini_L : Cond.initialized RL ∈ lw_g := List.mem_filter.mpr ⟨List.mem_of_getElem? (i := 108) (by decide +kernel), by decide +kernel⟩
theorem ini_X5 : Cond.initialized RX5 ∈ lw_g := List.mem_filter.mpr ⟨List.mem_of_getElem? (i := 109) (by decide +kernel), by decide +kernel⟩
theorem ini_X0 : Cond.initialized RX0 ∈ lw_g := List.mem_filter.mpr ⟨List.mem_of_getElem? (i := 110) (by decide +kernel), by decide +kernel⟩
theorem ini_X3 : Cond.initialized RX3 ∈ lw_g := List.mem_filter.mpr ⟨List.mem_of_getElem? (i := 111) (by decide +kernel), by decide +kernel⟩
theorem ini_X4 : Cond.initialized RX4 ∈ lw_g := List.mem_filter.mpr ⟨List.mem_of_getElem? (i := 112) (by decide +kernel), by decide +kernel⟩
theorem ini_X2 : Cond.initialized RX2 ∈ lw_g := List.mem_filter.mpr ⟨List.mem_of_getElem? (i := 113) (by decide +kernel), by decide +kernel⟩
theorem ini_J7 : Cond.initialized RJ7 ∈ lw_g := List.mem_filter.mpr ⟨List.mem_of_getElem? (i := 114) (by decide +kernel), by decide +kernel⟩
theorem ini_X1 : Cond.initialized RX1 ∈ lw_g := List.mem_filter.mpr ⟨List.mem_of_getElem? (i := 115) (by decide +kernel), by decide +kernel⟩
theorem ini_X6 : Cond.initialized RX6 ∈ lw_g := List.mem_filter.mpr ⟨List.mem_of_getElem? (i := 116) (by decide +kernel), by decide +kernel⟩
theorem ini_J9 : Cond.initialized RJ9 ∈ lw_g := List.mem_filter.mpr ⟨List.mem_of_getElem? (i := 117) (by decide +kernel), by decide +kernel⟩
theorem ini_J10 : Cond.initialized RJ10 ∈ lw_g := List.mem_filter.mpr ⟨List.mem_of_getElem? (i := 118) (by decide +kernel), by decide +kernel⟩
abbrev uX5_init : MI := (yX5_init, cX5_init, 1, none)
theorem code_X5_init : Cond.code yX5_init cX5_init 1 none ∈ lw_g := List.mem_filter.mpr ⟨List.mem_of_getElem? (i := 123) (by decide +kernel), by decide +kernel⟩
theorem code_obj : Cond.code objectInit ⟨#[0xb1]⟩ 1 none ∈ lw_g := List.mem_filter.mpr ⟨List.mem_of_getElem? (i := 126) (by decide +kernel), by decide +kernel⟩
abbrev uX0_init : MI := (yX0_init, cX0_init, 2, none)
theorem code_X0_init : Cond.code yX0_init cX0_init 2 none ∈ lw_g := List.mem_filter.mpr ⟨List.mem_of_getElem? (i := 131) (by decide +kernel), by decide +kernel⟩
abbrev uX3_init : MI := (yX3_init, cX3_init, 1, none)
theorem code_X3_init : Cond.code yX3_init cX3_init 1 none ∈ lw_g := List.mem_filter.mpr ⟨List.mem_of_getElem? (i := 141) (by decide +kernel), by decide +kernel⟩
abbrev uX4_init : MI := (yX4_init, cX4_init, 2, none)
theorem code_X4_init : Cond.code yX4_init cX4_init 2 none ∈ lw_g := List.mem_filter.mpr ⟨List.mem_of_getElem? (i := 156) (by decide +kernel), by decide +kernel⟩
abbrev uX2_init : MI := (yX2_init, cX2_init, 1, none)
theorem code_X2_init : Cond.code yX2_init cX2_init 1 none ∈ lw_g := List.mem_filter.mpr ⟨List.mem_of_getElem? (i := 239) (by decide +kernel), by decide +kernel⟩
abbrev uJ7_fill_53178 : MI := (yJ7_fill_53178, cJ7_fill_53178, 4, none)
theorem code_J7_fill_53178 : Cond.code yJ7_fill_53178 cJ7_fill_53178 4 none ∈ lw_g := List.mem_filter.mpr ⟨List.mem_of_getElem? (i := 252) (by decide +kernel), by decide +kernel⟩
abbrev uX1_init : MI := (yX1_init, cX1_init, 1, none)
theorem code_X1_init : Cond.code yX1_init cX1_init 1 none ∈ lw_g := List.mem_filter.mpr ⟨List.mem_of_getElem? (i := 303) (by decide +kernel), by decide +kernel⟩
abbrev uX5_program : MI := (yX5_program, cX5_program, 6, (some (.int)))
theorem code_X5_program : Cond.code yX5_program cX5_program 6 (some (.int)) ∈ lw_g := List.mem_filter.mpr ⟨List.mem_of_getElem? (i := 339) (by decide +kernel), by decide +kernel⟩
abbrev uX0_programAt : MI := (yX0_programAt, cX0_programAt, 2, (some (.object "FairWheel$Program")))
theorem code_X0_programAt : Cond.code yX0_programAt cX0_programAt 2 (some (.object "FairWheel$Program")) ∈ lw_g := List.mem_filter.mpr ⟨List.mem_of_getElem? (i := 343) (by decide +kernel), by decide +kernel⟩
abbrev uX5_refused : MI := (yX5_refused, cX5_refused, 2, (some (.int)))
theorem code_X5_refused : Cond.code yX5_refused cX5_refused 2 (some (.int)) ∈ lw_g := List.mem_filter.mpr ⟨List.mem_of_getElem? (i := 347) (by decide +kernel), by decide +kernel⟩
abbrev uX2_length : MI := (yX2_length, cX2_length, 1, (some (.int)))
theorem code_X2_length : Cond.code yX2_length cX2_length 1 (some (.int)) ∈ lw_g := List.mem_filter.mpr ⟨List.mem_of_getElem? (i := 351) (by decide +kernel), by decide +kernel⟩
abbrev uJ9_max_7cf53 : MI := (yJ9_max_7cf53, cJ9_max_7cf53, 2, (some (.int)))
theorem code_J9_max_7cf53 : Cond.code yJ9_max_7cf53 cJ9_max_7cf53 2 (some (.int)) ∈ lw_g := List.mem_filter.mpr ⟨List.mem_of_getElem? (i := 354) (by decide +kernel), by decide +kernel⟩
abbrev uX5_noted : MI := (yX5_noted, cX5_noted, 9, (some (.boolean)))
theorem code_X5_noted : Cond.code yX5_noted cX5_noted 9 (some (.boolean)) ∈ lw_g := List.mem_filter.mpr ⟨List.mem_of_getElem? (i := 358) (by decide +kernel), by decide +kernel⟩
abbrev uX1_add : MI := (yX1_add, cX1_add, 9, (some (.boolean)))
theorem code_X1_add : Cond.code yX1_add cX1_add 9 (some (.boolean)) ∈ lw_g := List.mem_filter.mpr ⟨List.mem_of_getElem? (i := 362) (by decide +kernel), by decide +kernel⟩
abbrev uJ9_min_7cf53 : MI := (yJ9_min_7cf53, cJ9_min_7cf53, 2, (some (.int)))
theorem code_J9_min_7cf53 : Cond.code yJ9_min_7cf53 cJ9_min_7cf53 2 (some (.int)) ∈ lw_g := List.mem_filter.mpr ⟨List.mem_of_getElem? (i := 365) (by decide +kernel), by decide +kernel⟩
abbrev uJ7_copyOf_c38d5 : MI := (yJ7_copyOf_c38d5, cJ7_copyOf_c38d5, 3, (some (.array (.long))))
theorem code_J7_copyOf_c38d5 : Cond.code yJ7_copyOf_c38d5 cJ7_copyOf_c38d5 3 (some (.array (.long))) ∈ lw_g := List.mem_filter.mpr ⟨List.mem_of_getElem? (i := 368) (by decide +kernel), by decide +kernel⟩
abbrev uX2_extend : MI := (yX2_extend, cX2_extend, 6, (some (.int)))
theorem code_X2_extend : Cond.code yX2_extend cX2_extend 6 (some (.int)) ∈ lw_g := List.mem_filter.mpr ⟨List.mem_of_getElem? (i := 383) (by decide +kernel), by decide +kernel⟩
abbrev uJ7_copyOf_9075b : MI := (yJ7_copyOf_9075b, cJ7_copyOf_9075b, 3, (some (.array (.byte))))
theorem code_J7_copyOf_9075b : Cond.code yJ7_copyOf_9075b cJ7_copyOf_9075b 3 (some (.array (.byte))) ∈ lw_g := List.mem_filter.mpr ⟨List.mem_of_getElem? (i := 388) (by decide +kernel), by decide +kernel⟩
abbrev uX5_task : MI := (yX5_task, cX5_task, 4, (some (.int)))
theorem code_X5_task : Cond.code yX5_task cX5_task 4 (some (.int)) ∈ lw_g := List.mem_filter.mpr ⟨List.mem_of_getElem? (i := 397) (by decide +kernel), by decide +kernel⟩
abbrev uX5_isShare : MI := (yX5_isShare, cX5_isShare, 1, (some (.boolean)))
theorem code_X5_isShare : Cond.code yX5_isShare cX5_isShare 1 (some (.boolean)) ∈ lw_g := List.mem_filter.mpr ⟨List.mem_of_getElem? (i := 400) (by decide +kernel), by decide +kernel⟩
abbrev uX0_addTask : MI := (yX0_addTask, cX0_addTask, 5, (some (.int)))
theorem code_X0_addTask : Cond.code yX0_addTask cX0_addTask 5 (some (.int)) ∈ lw_g := List.mem_filter.mpr ⟨List.mem_of_getElem? (i := 404) (by decide +kernel), by decide +kernel⟩
abbrev uX0_leastVirtual : MI := (yX0_leastVirtual, cX0_leastVirtual, 6, (some (.long)))
theorem code_X0_leastVirtual : Cond.code yX0_leastVirtual cX0_leastVirtual 6 (some (.long)) ∈ lw_g := List.mem_filter.mpr ⟨List.mem_of_getElem? (i := 408) (by decide +kernel), by decide +kernel⟩
abbrev uX4_begin : MI := (yX4_begin, cX4_begin, 6, none)
theorem code_X4_begin : Cond.code yX4_begin cX4_begin 6 none ∈ lw_g := List.mem_filter.mpr ⟨List.mem_of_getElem? (i := 412) (by decide +kernel), by decide +kernel⟩
abbrev uX4_startPeriod : MI := (yX4_startPeriod, cX4_startPeriod, 4, none)
theorem code_X4_startPeriod : Cond.code yX4_startPeriod cX4_startPeriod 4 none ∈ lw_g := List.mem_filter.mpr ⟨List.mem_of_getElem? (i := 416) (by decide +kernel), by decide +kernel⟩
abbrev uX5_share : MI := (yX5_share, cX5_share, 4, (some (.int)))
theorem code_X5_share : Cond.code yX5_share cX5_share 4 (some (.int)) ∈ lw_g := List.mem_filter.mpr ⟨List.mem_of_getElem? (i := 420) (by decide +kernel), by decide +kernel⟩
abbrev uX0_unendedTask : MI := (yX0_unendedTask, cX0_unendedTask, 3, (some (.object "FairWheel$Task")))
theorem code_X0_unendedTask : Cond.code yX0_unendedTask cX0_unendedTask 3 (some (.object "FairWheel$Task")) ∈ lw_g := List.mem_filter.mpr ⟨List.mem_of_getElem? (i := 424) (by decide +kernel), by decide +kernel⟩
abbrev uX0_taskAt : MI := (yX0_taskAt, cX0_taskAt, 2, (some (.object "FairWheel$Task")))
theorem code_X0_taskAt : Cond.code yX0_taskAt cX0_taskAt 2 (some (.object "FairWheel$Task")) ∈ lw_g := List.mem_filter.mpr ⟨List.mem_of_getElem? (i := 428) (by decide +kernel), by decide +kernel⟩
abbrev uX4_changeShare : MI := (yX4_changeShare, cX4_changeShare, 3, (some (.int)))
theorem code_X4_changeShare : Cond.code yX4_changeShare cX4_changeShare 3 (some (.int)) ∈ lw_g := List.mem_filter.mpr ⟨List.mem_of_getElem? (i := 432) (by decide +kernel), by decide +kernel⟩
abbrev uX5_deadline : MI := (yX5_deadline, cX5_deadline, 6, (some (.boolean)))
theorem code_X5_deadline : Cond.code yX5_deadline cX5_deadline 6 (some (.boolean)) ∈ lw_g := List.mem_filter.mpr ⟨List.mem_of_getElem? (i := 437) (by decide +kernel), by decide +kernel⟩
abbrev uX4_hasDeadline : MI := (yX4_hasDeadline, cX4_hasDeadline, 1, (some (.boolean)))
theorem code_X4_hasDeadline : Cond.code yX4_hasDeadline cX4_hasDeadline 1 (some (.boolean)) ∈ lw_g := List.mem_filter.mpr ⟨List.mem_of_getElem? (i := 441) (by decide +kernel), by decide +kernel⟩
abbrev uX5_processors : MI := (yX5_processors, cX5_processors, 2, (some (.int)))
theorem code_X5_processors : Cond.code yX5_processors cX5_processors 2 (some (.int)) ∈ lw_g := List.mem_filter.mpr ⟨List.mem_of_getElem? (i := 446) (by decide +kernel), by decide +kernel⟩
abbrev uX0_changeProcessors : MI := (yX0_changeProcessors, cX0_changeProcessors, 3, (some (.int)))
theorem code_X0_changeProcessors : Cond.code yX0_changeProcessors cX0_changeProcessors 3 (some (.int)) ∈ lw_g := List.mem_filter.mpr ⟨List.mem_of_getElem? (i := 450) (by decide +kernel), by decide +kernel⟩
abbrev uX5_lock : MI := (yX5_lock, cX5_lock, 2, (some (.boolean)))
theorem code_X5_lock : Cond.code yX5_lock cX5_lock 2 (some (.boolean)) ∈ lw_g := List.mem_filter.mpr ⟨List.mem_of_getElem? (i := 454) (by decide +kernel), by decide +kernel⟩
abbrev uX0_holderOf : MI := (yX0_holderOf, cX0_holderOf, 2, (some (.int)))
theorem code_X0_holderOf : Cond.code yX0_holderOf cX0_holderOf 2 (some (.int)) ∈ lw_g := List.mem_filter.mpr ⟨List.mem_of_getElem? (i := 458) (by decide +kernel), by decide +kernel⟩
abbrev uX0_addLock : MI := (yX0_addLock, cX0_addLock, 2, none)
theorem code_X0_addLock : Cond.code yX0_addLock cX0_addLock 2 none ∈ lw_g := List.mem_filter.mpr ⟨List.mem_of_getElem? (i := 462) (by decide +kernel), by decide +kernel⟩
abbrev uX5_ring : MI := (yX5_ring, cX5_ring, 2, (some (.int)))
theorem code_X5_ring : Cond.code yX5_ring cX5_ring 2 (some (.int)) ∈ lw_g := List.mem_filter.mpr ⟨List.mem_of_getElem? (i := 466) (by decide +kernel), by decide +kernel⟩
abbrev uX0_ringBell : MI := (yX0_ringBell, cX0_ringBell, 5, (some (.int)))
theorem code_X0_ringBell : Cond.code yX0_ringBell cX0_ringBell 5 (some (.int)) ∈ lw_g := List.mem_filter.mpr ⟨List.mem_of_getElem? (i := 470) (by decide +kernel), by decide +kernel⟩
abbrev uX4_wake : MI := (yX4_wake, cX4_wake, 1, none)
theorem code_X4_wake : Cond.code yX4_wake cX4_wake 1 none ∈ lw_g := List.mem_filter.mpr ⟨List.mem_of_getElem? (i := 474) (by decide +kernel), by decide +kernel⟩
abbrev uX5_run : MI := (yX5_run, cX5_run, 2, (some (.int)))
theorem code_X5_run : Cond.code yX5_run cX5_run 2 (some (.int)) ∈ lw_g := List.mem_filter.mpr ⟨List.mem_of_getElem? (i := 478) (by decide +kernel), by decide +kernel⟩
abbrev uX0_goOn : MI := (yX0_goOn, cX0_goOn, 6, (some (.int)))
theorem code_X0_goOn : Cond.code yX0_goOn cX0_goOn 6 (some (.int)) ∈ lw_g := List.mem_filter.mpr ⟨List.mem_of_getElem? (i := 482) (by decide +kernel), by decide +kernel⟩
abbrev uX3_haveRoom : MI := (yX3_haveRoom, cX3_haveRoom, 1, (some (.boolean)))
theorem code_X3_haveRoom : Cond.code yX3_haveRoom cX3_haveRoom 1 (some (.boolean)) ∈ lw_g := List.mem_filter.mpr ⟨List.mem_of_getElem? (i := 486) (by decide +kernel), by decide +kernel⟩
abbrev uX0_quietTicks : MI := (yX0_quietTicks, cX0_quietTicks, 5, (some (.int)))
theorem code_X0_quietTicks : Cond.code yX0_quietTicks cX0_quietTicks 5 (some (.int)) ∈ lw_g := List.mem_filter.mpr ⟨List.mem_of_getElem? (i := 490) (by decide +kernel), by decide +kernel⟩
abbrev uX0_wakeAndRefill : MI := (yX0_wakeAndRefill, cX0_wakeAndRefill, 3, none)
theorem code_X0_wakeAndRefill : Cond.code yX0_wakeAndRefill cX0_wakeAndRefill 3 none ∈ lw_g := List.mem_filter.mpr ⟨List.mem_of_getElem? (i := 496) (by decide +kernel), by decide +kernel⟩
abbrev uX0_choose : MI := (yX0_choose, cX0_choose, 5, none)
theorem code_X0_choose : Cond.code yX0_choose cX0_choose 5 none ∈ lw_g := List.mem_filter.mpr ⟨List.mem_of_getElem? (i := 500) (by decide +kernel), by decide +kernel⟩
abbrev uX0_settle : MI := (yX0_settle, cX0_settle, 6, none)
theorem code_X0_settle : Cond.code yX0_settle cX0_settle 6 none ∈ lw_g := List.mem_filter.mpr ⟨List.mem_of_getElem? (i := 504) (by decide +kernel), by decide +kernel⟩
abbrev uX4_rank : MI := (yX4_rank, cX4_rank, 1, (some (.long)))
theorem code_X4_rank : Cond.code yX4_rank cX4_rank 1 (some (.long)) ∈ lw_g := List.mem_filter.mpr ⟨List.mem_of_getElem? (i := 508) (by decide +kernel), by decide +kernel⟩
abbrev uX0_blockerOf : MI := (yX0_blockerOf, cX0_blockerOf, 4, (some (.object "FairWheel$Task")))
theorem code_X0_blockerOf : Cond.code yX0_blockerOf cX0_blockerOf 4 (some (.object "FairWheel$Task")) ∈ lw_g := List.mem_filter.mpr ⟨List.mem_of_getElem? (i := 513) (by decide +kernel), by decide +kernel⟩
abbrev uX0_foremostBehind : MI := (yX0_foremostBehind, cX0_foremostBehind, 6, (some (.object "FairWheel$Task")))
theorem code_X0_foremostBehind : Cond.code yX0_foremostBehind cX0_foremostBehind 6 (some (.object "FairWheel$Task")) ∈ lw_g := List.mem_filter.mpr ⟨List.mem_of_getElem? (i := 518) (by decide +kernel), by decide +kernel⟩
abbrev uX5_classOf : MI := (yX5_classOf, cX5_classOf, 2, (some (.int)))
theorem code_X5_classOf : Cond.code yX5_classOf cX5_classOf 2 (some (.int)) ∈ lw_g := List.mem_filter.mpr ⟨List.mem_of_getElem? (i := 521) (by decide +kernel), by decide +kernel⟩
abbrev uX5_keyOf : MI := (yX5_keyOf, cX5_keyOf, 2, (some (.long)))
theorem code_X5_keyOf : Cond.code yX5_keyOf cX5_keyOf 2 (some (.long)) ∈ lw_g := List.mem_filter.mpr ⟨List.mem_of_getElem? (i := 524) (by decide +kernel), by decide +kernel⟩
abbrev uX3_add : MI := (yX3_add, cX3_add, 7, none)
theorem code_X3_add : Cond.code yX3_add cX3_add 7 none ∈ lw_g := List.mem_filter.mpr ⟨List.mem_of_getElem? (i := 529) (by decide +kernel), by decide +kernel⟩
abbrev uJ7_copyOf_59c91 : MI := (yJ7_copyOf_59c91, cJ7_copyOf_59c91, 3, (some (.array (.int))))
theorem code_J7_copyOf_59c91 : Cond.code yJ7_copyOf_59c91 cJ7_copyOf_59c91 3 (some (.array (.int))) ∈ lw_g := List.mem_filter.mpr ⟨List.mem_of_getElem? (i := 534) (by decide +kernel), by decide +kernel⟩
abbrev uX0_turn : MI := (yX0_turn, cX0_turn, 4, none)
theorem code_X0_turn : Cond.code yX0_turn cX0_turn 4 none ∈ lw_g := List.mem_filter.mpr ⟨List.mem_of_getElem? (i := 543) (by decide +kernel), by decide +kernel⟩
abbrev uX0_pay : MI := (yX0_pay, cX0_pay, 2, none)
theorem code_X0_pay : Cond.code yX0_pay cX0_pay 2 none ∈ lw_g := List.mem_filter.mpr ⟨List.mem_of_getElem? (i := 547) (by decide +kernel), by decide +kernel⟩
abbrev uX4_payOnce : MI := (yX4_payOnce, cX4_payOnce, 2, none)
theorem code_X4_payOnce : Cond.code yX4_payOnce cX4_payOnce 2 none ∈ lw_g := List.mem_filter.mpr ⟨List.mem_of_getElem? (i := 551) (by decide +kernel), by decide +kernel⟩
abbrev uX0_act : MI := (yX0_act, cX0_act, 5, (some (.int)))
theorem code_X0_act : Cond.code yX0_act cX0_act 5 (some (.int)) ∈ lw_g := List.mem_filter.mpr ⟨List.mem_of_getElem? (i := 555) (by decide +kernel), by decide +kernel⟩
abbrev uX0_readable : MI := (yX0_readable, cX0_readable, 4, (some (.int)))
theorem code_X0_readable : Cond.code yX0_readable cX0_readable 4 (some (.int)) ∈ lw_g := List.mem_filter.mpr ⟨List.mem_of_getElem? (i := 560) (by decide +kernel), by decide +kernel⟩
abbrev uX2_byteAt : MI := (yX2_byteAt, cX2_byteAt, 2, (some (.int)))
theorem code_X2_byteAt : Cond.code yX2_byteAt cX2_byteAt 2 (some (.int)) ∈ lw_g := List.mem_filter.mpr ⟨List.mem_of_getElem? (i := 564) (by decide +kernel), by decide +kernel⟩
abbrev uX0_take : MI := (yX0_take, cX0_take, 4, (some (.int)))
theorem code_X0_take : Cond.code yX0_take cX0_take 4 (some (.int)) ∈ lw_g := List.mem_filter.mpr ⟨List.mem_of_getElem? (i := 569) (by decide +kernel), by decide +kernel⟩
abbrev uX0_leadsTo : MI := (yX0_leadsTo, cX0_leadsTo, 5, (some (.boolean)))
theorem code_X0_leadsTo : Cond.code yX0_leadsTo cX0_leadsTo 5 (some (.boolean)) ∈ lw_g := List.mem_filter.mpr ⟨List.mem_of_getElem? (i := 574) (by decide +kernel), by decide +kernel⟩
abbrev uX0_keepRing : MI := (yX0_keepRing, cX0_keepRing, 5, none)
theorem code_X0_keepRing : Cond.code yX0_keepRing cX0_keepRing 5 none ∈ lw_g := List.mem_filter.mpr ⟨List.mem_of_getElem? (i := 578) (by decide +kernel), by decide +kernel⟩
abbrev uX0_beginWait : MI := (yX0_beginWait, cX0_beginWait, 3, none)
theorem code_X0_beginWait : Cond.code yX0_beginWait cX0_beginWait 3 none ∈ lw_g := List.mem_filter.mpr ⟨List.mem_of_getElem? (i := 582) (by decide +kernel), by decide +kernel⟩
abbrev uX0_give : MI := (yX0_give, cX0_give, 4, (some (.int)))
theorem code_X0_give : Cond.code yX0_give cX0_give 4 (some (.int)) ∈ lw_g := List.mem_filter.mpr ⟨List.mem_of_getElem? (i := 586) (by decide +kernel), by decide +kernel⟩
abbrev uX0_handOver : MI := (yX0_handOver, cX0_handOver, 5, none)
theorem code_X0_handOver : Cond.code yX0_handOver cX0_handOver 5 none ∈ lw_g := List.mem_filter.mpr ⟨List.mem_of_getElem? (i := 590) (by decide +kernel), by decide +kernel⟩
abbrev uX0_waitForBell : MI := (yX0_waitForBell, cX0_waitForBell, 3, (some (.int)))
theorem code_X0_waitForBell : Cond.code yX0_waitForBell cX0_waitForBell 3 (some (.int)) ∈ lw_g := List.mem_filter.mpr ⟨List.mem_of_getElem? (i := 594) (by decide +kernel), by decide +kernel⟩
abbrev uX0_ringFrom : MI := (yX0_ringFrom, cX0_ringFrom, 2, (some (.int)))
theorem code_X0_ringFrom : Cond.code yX0_ringFrom cX0_ringFrom 2 (some (.int)) ∈ lw_g := List.mem_filter.mpr ⟨List.mem_of_getElem? (i := 598) (by decide +kernel), by decide +kernel⟩
abbrev uX0_sleep : MI := (yX0_sleep, cX0_sleep, 3, (some (.int)))
theorem code_X0_sleep : Cond.code yX0_sleep cX0_sleep 3 (some (.int)) ∈ lw_g := List.mem_filter.mpr ⟨List.mem_of_getElem? (i := 603) (by decide +kernel), by decide +kernel⟩
abbrev uX0_spawn : MI := (yX0_spawn, cX0_spawn, 4, (some (.int)))
theorem code_X0_spawn : Cond.code yX0_spawn cX0_spawn 4 (some (.int)) ∈ lw_g := List.mem_filter.mpr ⟨List.mem_of_getElem? (i := 607) (by decide +kernel), by decide +kernel⟩
abbrev uX0_getShorts : MI := (yX0_getShorts, cX0_getShorts, 3, (some (.int)))
theorem code_X0_getShorts : Cond.code yX0_getShorts cX0_getShorts 3 (some (.int)) ∈ lw_g := List.mem_filter.mpr ⟨List.mem_of_getElem? (i := 612) (by decide +kernel), by decide +kernel⟩
abbrev uX4_makeShorts : MI := (yX4_makeShorts, cX4_makeShorts, 2, none)
theorem code_X4_makeShorts : Cond.code yX4_makeShorts cX4_makeShorts 2 none ∈ lw_g := List.mem_filter.mpr ⟨List.mem_of_getElem? (i := 616) (by decide +kernel), by decide +kernel⟩
abbrev uJ7_fill_fb410 : MI := (yJ7_fill_fb410, cJ7_fill_fb410, 4, none)
theorem code_J7_fill_fb410 : Cond.code yJ7_fill_fb410 cJ7_fill_fb410 4 none ∈ lw_g := List.mem_filter.mpr ⟨List.mem_of_getElem? (i := 619) (by decide +kernel), by decide +kernel⟩
abbrev uX0_stamp : MI := (yX0_stamp, cX0_stamp, 3, (some (.int)))
theorem code_X0_stamp : Cond.code yX0_stamp cX0_stamp 3 (some (.int)) ∈ lw_g := List.mem_filter.mpr ⟨List.mem_of_getElem? (i := 623) (by decide +kernel), by decide +kernel⟩
abbrev uX4_setShort : MI := (yX4_setShort, cX4_setShort, 3, none)
theorem code_X4_setShort : Cond.code yX4_setShort cX4_setShort 3 none ∈ lw_g := List.mem_filter.mpr ⟨List.mem_of_getElem? (i := 627) (by decide +kernel), by decide +kernel⟩
abbrev uX4_hasShort : MI := (yX4_hasShort, cX4_hasShort, 2, (some (.boolean)))
theorem code_X4_hasShort : Cond.code yX4_hasShort cX4_hasShort 2 (some (.boolean)) ∈ lw_g := List.mem_filter.mpr ⟨List.mem_of_getElem? (i := 631) (by decide +kernel), by decide +kernel⟩
abbrev uX0_findShort : MI := (yX0_findShort, cX0_findShort, 3, (some (.int)))
theorem code_X0_findShort : Cond.code yX0_findShort cX0_findShort 3 (some (.int)) ∈ lw_g := List.mem_filter.mpr ⟨List.mem_of_getElem? (i := 635) (by decide +kernel), by decide +kernel⟩
abbrev uX0_claim : MI := (yX0_claim, cX0_claim, 3, (some (.int)))
theorem code_X0_claim : Cond.code yX0_claim cX0_claim 3 (some (.int)) ∈ lw_g := List.mem_filter.mpr ⟨List.mem_of_getElem? (i := 640) (by decide +kernel), by decide +kernel⟩
abbrev uX4_isOf : MI := (yX4_isOf, cX4_isOf, 2, (some (.boolean)))
theorem code_X4_isOf : Cond.code yX4_isOf cX4_isOf 2 (some (.boolean)) ∈ lw_g := List.mem_filter.mpr ⟨List.mem_of_getElem? (i := 644) (by decide +kernel), by decide +kernel⟩
abbrev uX0_fail : MI := (yX0_fail, cX0_fail, 2, (some (.int)))
theorem code_X0_fail : Cond.code yX0_fail cX0_fail 2 (some (.int)) ∈ lw_g := List.mem_filter.mpr ⟨List.mem_of_getElem? (i := 648) (by decide +kernel), by decide +kernel⟩
abbrev uX0_workByShort : MI := (yX0_workByShort, cX0_workByShort, 3, (some (.int)))
theorem code_X0_workByShort : Cond.code yX0_workByShort cX0_workByShort 3 (some (.int)) ∈ lw_g := List.mem_filter.mpr ⟨List.mem_of_getElem? (i := 652) (by decide +kernel), by decide +kernel⟩
abbrev uX4_shortAt : MI := (yX4_shortAt, cX4_shortAt, 2, (some (.int)))
theorem code_X4_shortAt : Cond.code yX4_shortAt cX4_shortAt 2 (some (.int)) ∈ lw_g := List.mem_filter.mpr ⟨List.mem_of_getElem? (i := 656) (by decide +kernel), by decide +kernel⟩
abbrev uX0_end : MI := (yX0_end, cX0_end, 4, none)
theorem code_X0_end : Cond.code yX0_end cX0_end 4 none ∈ lw_g := List.mem_filter.mpr ⟨List.mem_of_getElem? (i := 660) (by decide +kernel), by decide +kernel⟩
abbrev uX5_chosen : MI := (yX5_chosen, cX5_chosen, 2, (some (.int)))
theorem code_X5_chosen : Cond.code yX5_chosen cX5_chosen 2 (some (.int)) ∈ lw_g := List.mem_filter.mpr ⟨List.mem_of_getElem? (i := 665) (by decide +kernel), by decide +kernel⟩
abbrev uX5_about : MI := (yX5_about, cX5_about, 4, (some (.int)))
theorem code_X5_about : Cond.code yX5_about cX5_about 4 (some (.int)) ∈ lw_g := List.mem_filter.mpr ⟨List.mem_of_getElem? (i := 669) (by decide +kernel), by decide +kernel⟩
abbrev uX4_tell : MI := (yX4_tell, cX4_tell, 2, (some (.int)))
theorem code_X4_tell : Cond.code yX4_tell cX4_tell 2 (some (.int)) ∈ lw_g := List.mem_filter.mpr ⟨List.mem_of_getElem? (i := 674) (by decide +kernel), by decide +kernel⟩
abbrev uX5_virtual : MI := (yX5_virtual, cX5_virtual, 3, (some (.long)))
theorem code_X5_virtual : Cond.code yX5_virtual cX5_virtual 3 (some (.long)) ∈ lw_g := List.mem_filter.mpr ⟨List.mem_of_getElem? (i := 679) (by decide +kernel), by decide +kernel⟩
abbrev uX5_small : MI := (yX5_small, cX5_small, 4, (some (.int)))
theorem code_X5_small : Cond.code yX5_small cX5_small 4 (some (.int)) ∈ lw_g := List.mem_filter.mpr ⟨List.mem_of_getElem? (i := 684) (by decide +kernel), by decide +kernel⟩
abbrev uX5_standing : MI := (yX5_standing, cX5_standing, 4, (some (.long)))
theorem code_X5_standing : Cond.code yX5_standing cX5_standing 4 (some (.long)) ∈ lw_g := List.mem_filter.mpr ⟨List.mem_of_getElem? (i := 689) (by decide +kernel), by decide +kernel⟩
abbrev uX5_numberOf : MI := (yX5_numberOf, cX5_numberOf, 2, (some (.int)))
theorem code_X5_numberOf : Cond.code yX5_numberOf cX5_numberOf 2 (some (.int)) ∈ lw_g := List.mem_filter.mpr ⟨List.mem_of_getElem? (i := 695) (by decide +kernel), by decide +kernel⟩
abbrev uX5_holder : MI := (yX5_holder, cX5_holder, 2, (some (.int)))
theorem code_X5_holder : Cond.code yX5_holder cX5_holder 2 (some (.int)) ∈ lw_g := List.mem_filter.mpr ⟨List.mem_of_getElem? (i := 700) (by decide +kernel), by decide +kernel⟩
abbrev uX5_ringed : MI := (yX5_ringed, cX5_ringed, 2, (some (.int)))
theorem code_X5_ringed : Cond.code yX5_ringed cX5_ringed 2 (some (.int)) ∈ lw_g := List.mem_filter.mpr ⟨List.mem_of_getElem? (i := 704) (by decide +kernel), by decide +kernel⟩
abbrev uX5_row : MI := (yX5_row, cX5_row, 3, (some (.int)))
theorem code_X5_row : Cond.code yX5_row cX5_row 3 (some (.int)) ∈ lw_g := List.mem_filter.mpr ⟨List.mem_of_getElem? (i := 708) (by decide +kernel), by decide +kernel⟩
abbrev uX3_has : MI := (yX3_has, cX3_has, 3, (some (.boolean)))
theorem code_X3_has : Cond.code yX3_has cX3_has 3 (some (.boolean)) ∈ lw_g := List.mem_filter.mpr ⟨List.mem_of_getElem? (i := 712) (by decide +kernel), by decide +kernel⟩
abbrev uX3_get : MI := (yX3_get, cX3_get, 3, (some (.int)))
theorem code_X3_get : Cond.code yX3_get cX3_get 3 (some (.int)) ∈ lw_g := List.mem_filter.mpr ⟨List.mem_of_getElem? (i := 716) (by decide +kernel), by decide +kernel⟩
abbrev uX5_forge : MI := (yX5_forge, cX5_forge, 4, (some (.boolean)))
theorem code_X5_forge : Cond.code yX5_forge cX5_forge 4 (some (.boolean)) ∈ lw_g := List.mem_filter.mpr ⟨List.mem_of_getElem? (i := 721) (by decide +kernel), by decide +kernel⟩
abbrev uX3_grow : MI := (yX3_grow, cX3_grow, 4, none)
theorem code_X3_grow : Cond.code yX3_grow cX3_grow 4 none ∈ lw_g := List.mem_filter.mpr ⟨List.mem_of_getElem? (i := 725) (by decide +kernel), by decide +kernel⟩
abbrev uX5_check : MI := (yX5_check, cX5_check, 2, (some (.int)))
theorem code_X5_check : Cond.code yX5_check cX5_check 2 (some (.int)) ∈ lw_g := List.mem_filter.mpr ⟨List.mem_of_getElem? (i := 729) (by decide +kernel), by decide +kernel⟩
abbrev uX0_clear : MI := (yX0_clear, cX0_clear, 2, none)
theorem code_X0_clear : Cond.code yX0_clear cX0_clear 2 none ∈ lw_g := List.mem_filter.mpr ⟨List.mem_of_getElem? (i := 733) (by decide +kernel), by decide +kernel⟩
abbrev uX5_redo : MI := (yX5_redo, cX5_redo, 8, none)
theorem code_X5_redo : Cond.code yX5_redo cX5_redo 8 none ∈ lw_g := List.mem_filter.mpr ⟨List.mem_of_getElem? (i := 737) (by decide +kernel), by decide +kernel⟩
abbrev uX1_get : MI := (yX1_get, cX1_get, 3, (some (.long)))
theorem code_X1_get : Cond.code yX1_get cX1_get 3 (some (.long)) ∈ lw_g := List.mem_filter.mpr ⟨List.mem_of_getElem? (i := 741) (by decide +kernel), by decide +kernel⟩
abbrev uX3_firstUnlike : MI := (yX3_firstUnlike, cX3_firstUnlike, 4, (some (.int)))
theorem code_X3_firstUnlike : Cond.code yX3_firstUnlike cX3_firstUnlike 4 (some (.int)) ∈ lw_g := List.mem_filter.mpr ⟨List.mem_of_getElem? (i := 745) (by decide +kernel), by decide +kernel⟩
abbrev uX5_checkedTo : MI := (yX5_checkedTo, cX5_checkedTo, 1, (some (.int)))
theorem code_X5_checkedTo : Cond.code yX5_checkedTo cX5_checkedTo 1 (some (.int)) ∈ lw_g := List.mem_filter.mpr ⟨List.mem_of_getElem? (i := 749) (by decide +kernel), by decide +kernel⟩
abbrev uX5_bound : MI := (yX5_bound, cX5_bound, 3, (some (.long)))
theorem code_X5_bound : Cond.code yX5_bound cX5_bound 3 (some (.long)) ∈ lw_g := List.mem_filter.mpr ⟨List.mem_of_getElem? (i := 753) (by decide +kernel), by decide +kernel⟩
abbrev uX0_ticksUntilChosen : MI := (yX0_ticksUntilChosen, cX0_ticksUntilChosen, 7, (some (.long)))
theorem code_X0_ticksUntilChosen : Cond.code yX0_ticksUntilChosen cX0_ticksUntilChosen 7 (some (.long)) ∈ lw_g := List.mem_filter.mpr ⟨List.mem_of_getElem? (i := 757) (by decide +kernel), by decide +kernel⟩
abbrev uX0_turnsAhead : MI := (yX0_turnsAhead, cX0_turnsAhead, 6, (some (.long)))
theorem code_X0_turnsAhead : Cond.code yX0_turnsAhead cX0_turnsAhead 6 (some (.long)) ∈ lw_g := List.mem_filter.mpr ⟨List.mem_of_getElem? (i := 762) (by decide +kernel), by decide +kernel⟩
abbrev uX4_paymentsBehind : MI := (yX4_paymentsBehind, cX4_paymentsBehind, 5, (some (.long)))
theorem code_X4_paymentsBehind : Cond.code yX4_paymentsBehind cX4_paymentsBehind 5 (some (.long)) ∈ lw_g := List.mem_filter.mpr ⟨List.mem_of_getElem? (i := 766) (by decide +kernel), by decide +kernel⟩
abbrev uJ9_max_f86c9 : MI := (yJ9_max_f86c9, cJ9_max_f86c9, 4, (some (.long)))
theorem code_J9_max_f86c9 : Cond.code yJ9_max_f86c9 cJ9_max_f86c9 4 (some (.long)) ∈ lw_g := List.mem_filter.mpr ⟨List.mem_of_getElem? (i := 773) (by decide +kernel), by decide +kernel⟩
abbrev uX5_trace : MI := (yX5_trace, cX5_trace, 2, (some (.int)))
theorem code_X5_trace : Cond.code yX5_trace cX5_trace 2 (some (.int)) ∈ lw_g := List.mem_filter.mpr ⟨List.mem_of_getElem? (i := 778) (by decide +kernel), by decide +kernel⟩
abbrev uX5_count : MI := (yX5_count, cX5_count, 2, (some (.int)))
theorem code_X5_count : Cond.code yX5_count cX5_count 2 (some (.int)) ∈ lw_g := List.mem_filter.mpr ⟨List.mem_of_getElem? (i := 782) (by decide +kernel), by decide +kernel⟩
abbrev uX0_howMany : MI := (yX0_howMany, cX0_howMany, 4, (some (.int)))
theorem code_X0_howMany : Cond.code yX0_howMany cX0_howMany 4 (some (.int)) ∈ lw_g := List.mem_filter.mpr ⟨List.mem_of_getElem? (i := 786) (by decide +kernel), by decide +kernel⟩
abbrev uX5_image : MI := (yX5_image, cX5_image, 1, (some (.long)))
theorem code_X5_image : Cond.code yX5_image cX5_image 1 (some (.long)) ∈ lw_g := List.mem_filter.mpr ⟨List.mem_of_getElem? (i := 790) (by decide +kernel), by decide +kernel⟩
abbrev uX0_become : MI := (yX0_become, cX0_become, 3, none)
theorem code_X0_become : Cond.code yX0_become cX0_become 3 none ∈ lw_g := List.mem_filter.mpr ⟨List.mem_of_getElem? (i := 794) (by decide +kernel), by decide +kernel⟩
abbrev uX4_become : MI := (yX4_become, cX4_become, 3, none)
theorem code_X4_become : Cond.code yX4_become cX4_become 3 none ∈ lw_g := List.mem_filter.mpr ⟨List.mem_of_getElem? (i := 798) (by decide +kernel), by decide +kernel⟩
abbrev uX2_become : MI := (yX2_become, cX2_become, 2, none)
theorem code_X2_become : Cond.code yX2_become cX2_become 2 none ∈ lw_g := List.mem_filter.mpr ⟨List.mem_of_getElem? (i := 806) (by decide +kernel), by decide +kernel⟩
abbrev uX3_become : MI := (yX3_become, cX3_become, 2, none)
theorem code_X3_become : Cond.code yX3_become cX3_become 2 none ∈ lw_g := List.mem_filter.mpr ⟨List.mem_of_getElem? (i := 811) (by decide +kernel), by decide +kernel⟩
abbrev uX1_become : MI := (yX1_become, cX1_become, 2, none)
theorem code_X1_become : Cond.code yX1_become cX1_become 2 none ∈ lw_g := List.mem_filter.mpr ⟨List.mem_of_getElem? (i := 817) (by decide +kernel), by decide +kernel⟩
abbrev uX0_summed : MI := (yX0_summed, cX0_summed, 6, (some (.long)))
theorem code_X0_summed : Cond.code yX0_summed cX0_summed 6 (some (.long)) ∈ lw_g := List.mem_filter.mpr ⟨List.mem_of_getElem? (i := 822) (by decide +kernel), by decide +kernel⟩
abbrev uX3_summed : MI := (yX3_summed, cX3_summed, 6, (some (.long)))
theorem code_X3_summed : Cond.code yX3_summed cX3_summed 6 (some (.long)) ∈ lw_g := List.mem_filter.mpr ⟨List.mem_of_getElem? (i := 829) (by decide +kernel), by decide +kernel⟩
abbrev uX5_load : MI := (yX5_load, cX5_load, 1, (some (.boolean)))
theorem code_X5_load : Cond.code yX5_load cX5_load 1 (some (.boolean)) ∈ lw_g := List.mem_filter.mpr ⟨List.mem_of_getElem? (i := 834) (by decide +kernel), by decide +kernel⟩
abbrev uX5_digest : MI := (yX5_digest, cX5_digest, 1, (some (.long)))
theorem code_X5_digest : Cond.code yX5_digest cX5_digest 1 (some (.long)) ∈ lw_g := List.mem_filter.mpr ⟨List.mem_of_getElem? (i := 838) (by decide +kernel), by decide +kernel⟩
abbrev uX5_status : MI := (yX5_status, cX5_status, 1, (some (.int)))
theorem code_X5_status : Cond.code yX5_status cX5_status 1 (some (.int)) ∈ lw_g := List.mem_filter.mpr ⟨List.mem_of_getElem? (i := 842) (by decide +kernel), by decide +kernel⟩
abbrev uX6_init : MI := (yX6_init, cX6_init, 2, none)
theorem code_X6_init : Cond.code yX6_init cX6_init 2 none ∈ lw_g := List.mem_filter.mpr ⟨List.mem_of_getElem? (i := 847) (by decide +kernel), by decide +kernel⟩
abbrev uX6_program : MI := (yX6_program, cX6_program, 8, (some (.int)))
theorem code_X6_program : Cond.code yX6_program cX6_program 8 (some (.int)) ∈ lw_g := List.mem_filter.mpr ⟨List.mem_of_getElem? (i := 879) (by decide +kernel), by decide +kernel⟩
abbrev uX6_isIn : MI := (yX6_isIn, cX6_isIn, 6, (some (.boolean)))
theorem code_X6_isIn : Cond.code yX6_isIn cX6_isIn 6 (some (.boolean)) ∈ lw_g := List.mem_filter.mpr ⟨List.mem_of_getElem? (i := 883) (by decide +kernel), by decide +kernel⟩
abbrev uX6_isRefused : MI := (yX6_isRefused, cX6_isRefused, 2, (some (.boolean)))
theorem code_X6_isRefused : Cond.code yX6_isRefused cX6_isRefused 2 (some (.boolean)) ∈ lw_g := List.mem_filter.mpr ⟨List.mem_of_getElem? (i := 889) (by decide +kernel), by decide +kernel⟩
abbrev uX6_task : MI := (yX6_task, cX6_task, 5, (some (.int)))
theorem code_X6_task : Cond.code yX6_task cX6_task 5 (some (.int)) ∈ lw_g := List.mem_filter.mpr ⟨List.mem_of_getElem? (i := 893) (by decide +kernel), by decide +kernel⟩
abbrev uX6_added : MI := (yX6_added, cX6_added, 11, (some (.int)))
theorem code_X6_added : Cond.code yX6_added cX6_added 11 (some (.int)) ∈ lw_g := List.mem_filter.mpr ⟨List.mem_of_getElem? (i := 899) (by decide +kernel), by decide +kernel⟩
abbrev uX6_get : MI := (yX6_get, cX6_get, 3, (some (.int)))
theorem code_X6_get : Cond.code yX6_get cX6_get 3 (some (.int)) ∈ lw_g := List.mem_filter.mpr ⟨List.mem_of_getElem? (i := 903) (by decide +kernel), by decide +kernel⟩
abbrev uX6_set : MI := (yX6_set, cX6_set, 4, none)
theorem code_X6_set : Cond.code yX6_set cX6_set 4 none ∈ lw_g := List.mem_filter.mpr ⟨List.mem_of_getElem? (i := 907) (by decide +kernel), by decide +kernel⟩
abbrev uX6_share : MI := (yX6_share, cX6_share, 4, (some (.int)))
theorem code_X6_share : Cond.code yX6_share cX6_share 4 (some (.int)) ∈ lw_g := List.mem_filter.mpr ⟨List.mem_of_getElem? (i := 911) (by decide +kernel), by decide +kernel⟩
abbrev uX6_isLiving : MI := (yX6_isLiving, cX6_isLiving, 2, (some (.boolean)))
theorem code_X6_isLiving : Cond.code yX6_isLiving cX6_isLiving 2 (some (.boolean)) ∈ lw_g := List.mem_filter.mpr ⟨List.mem_of_getElem? (i := 915) (by decide +kernel), by decide +kernel⟩
abbrev uX6_isTask : MI := (yX6_isTask, cX6_isTask, 2, (some (.boolean)))
theorem code_X6_isTask : Cond.code yX6_isTask cX6_isTask 2 (some (.boolean)) ∈ lw_g := List.mem_filter.mpr ⟨List.mem_of_getElem? (i := 919) (by decide +kernel), by decide +kernel⟩
abbrev uX6_deadline : MI := (yX6_deadline, cX6_deadline, 5, (some (.boolean)))
theorem code_X6_deadline : Cond.code yX6_deadline cX6_deadline 5 (some (.boolean)) ∈ lw_g := List.mem_filter.mpr ⟨List.mem_of_getElem? (i := 924) (by decide +kernel), by decide +kernel⟩
abbrev uX6_isDue : MI := (yX6_isDue, cX6_isDue, 2, (some (.boolean)))
theorem code_X6_isDue : Cond.code yX6_isDue cX6_isDue 2 (some (.boolean)) ∈ lw_g := List.mem_filter.mpr ⟨List.mem_of_getElem? (i := 928) (by decide +kernel), by decide +kernel⟩
abbrev uX6_processors : MI := (yX6_processors, cX6_processors, 3, (some (.int)))
theorem code_X6_processors : Cond.code yX6_processors cX6_processors 3 (some (.int)) ∈ lw_g := List.mem_filter.mpr ⟨List.mem_of_getElem? (i := 932) (by decide +kernel), by decide +kernel⟩
abbrev uX6_lock : MI := (yX6_lock, cX6_lock, 2, (some (.boolean)))
theorem code_X6_lock : Cond.code yX6_lock cX6_lock 2 (some (.boolean)) ∈ lw_g := List.mem_filter.mpr ⟨List.mem_of_getElem? (i := 936) (by decide +kernel), by decide +kernel⟩
abbrev uX6_ring : MI := (yX6_ring, cX6_ring, 2, (some (.int)))
theorem code_X6_ring : Cond.code yX6_ring cX6_ring 2 (some (.int)) ∈ lw_g := List.mem_filter.mpr ⟨List.mem_of_getElem? (i := 941) (by decide +kernel), by decide +kernel⟩
abbrev uX6_ringBell : MI := (yX6_ringBell, cX6_ringBell, 4, (some (.int)))
theorem code_X6_ringBell : Cond.code yX6_ringBell cX6_ringBell 4 (some (.int)) ∈ lw_g := List.mem_filter.mpr ⟨List.mem_of_getElem? (i := 946) (by decide +kernel), by decide +kernel⟩
abbrev uX6_isReadyNow : MI := (yX6_isReadyNow, cX6_isReadyNow, 2, none)
theorem code_X6_isReadyNow : Cond.code yX6_isReadyNow cX6_isReadyNow 2 none ∈ lw_g := List.mem_filter.mpr ⟨List.mem_of_getElem? (i := 950) (by decide +kernel), by decide +kernel⟩
abbrev uX6_run : MI := (yX6_run, cX6_run, 3, (some (.int)))
theorem code_X6_run : Cond.code yX6_run cX6_run 3 (some (.int)) ∈ lw_g := List.mem_filter.mpr ⟨List.mem_of_getElem? (i := 954) (by decide +kernel), by decide +kernel⟩
abbrev uX6_tick : MI := (yX6_tick, cX6_tick, 2, none)
theorem code_X6_tick : Cond.code yX6_tick cX6_tick 2 none ∈ lw_g := List.mem_filter.mpr ⟨List.mem_of_getElem? (i := 958) (by decide +kernel), by decide +kernel⟩
abbrev uX6_wakes : MI := (yX6_wakes, cX6_wakes, 3, none)
theorem code_X6_wakes : Cond.code yX6_wakes cX6_wakes 3 none ∈ lw_g := List.mem_filter.mpr ⟨List.mem_of_getElem? (i := 962) (by decide +kernel), by decide +kernel⟩
abbrev uX6_body : MI := (yX6_body, cX6_body, 2, none)
theorem code_X6_body : Cond.code yX6_body cX6_body 2 none ∈ lw_g := List.mem_filter.mpr ⟨List.mem_of_getElem? (i := 966) (by decide +kernel), by decide +kernel⟩
abbrev uX6_chooses : MI := (yX6_chooses, cX6_chooses, 6, none)
theorem code_X6_chooses : Cond.code yX6_chooses cX6_chooses 6 none ∈ lw_g := List.mem_filter.mpr ⟨List.mem_of_getElem? (i := 970) (by decide +kernel), by decide +kernel⟩
abbrev uX6_standingOf : MI := (yX6_standingOf, cX6_standingOf, 6, (some (.int)))
theorem code_X6_standingOf : Cond.code yX6_standingOf cX6_standingOf 6 (some (.int)) ∈ lw_g := List.mem_filter.mpr ⟨List.mem_of_getElem? (i := 974) (by decide +kernel), by decide +kernel⟩
abbrev uX6_isAhead : MI := (yX6_isAhead, cX6_isAhead, 3, (some (.boolean)))
theorem code_X6_isAhead : Cond.code yX6_isAhead cX6_isAhead 3 (some (.boolean)) ∈ lw_g := List.mem_filter.mpr ⟨List.mem_of_getElem? (i := 978) (by decide +kernel), by decide +kernel⟩
abbrev uX6_classOf : MI := (yX6_classOf, cX6_classOf, 2, (some (.int)))
theorem code_X6_classOf : Cond.code yX6_classOf cX6_classOf 2 (some (.int)) ∈ lw_g := List.mem_filter.mpr ⟨List.mem_of_getElem? (i := 982) (by decide +kernel), by decide +kernel⟩
abbrev uX6_keyOf : MI := (yX6_keyOf, cX6_keyOf, 2, (some (.long)))
theorem code_X6_keyOf : Cond.code yX6_keyOf cX6_keyOf 2 (some (.long)) ∈ lw_g := List.mem_filter.mpr ⟨List.mem_of_getElem? (i := 986) (by decide +kernel), by decide +kernel⟩
abbrev uX6_puts : MI := (yX6_puts, cX6_puts, 9, none)
theorem code_X6_puts : Cond.code yX6_puts cX6_puts 9 none ∈ lw_g := List.mem_filter.mpr ⟨List.mem_of_getElem? (i := 990) (by decide +kernel), by decide +kernel⟩
abbrev uX6_turn : MI := (yX6_turn, cX6_turn, 3, none)
theorem code_X6_turn : Cond.code yX6_turn cX6_turn 3 none ∈ lw_g := List.mem_filter.mpr ⟨List.mem_of_getElem? (i := 996) (by decide +kernel), by decide +kernel⟩
abbrev uX6_pays : MI := (yX6_pays, cX6_pays, 6, none)
theorem code_X6_pays : Cond.code yX6_pays cX6_pays 6 none ∈ lw_g := List.mem_filter.mpr ⟨List.mem_of_getElem? (i := 1000) (by decide +kernel), by decide +kernel⟩
abbrev uX6_pay : MI := (yX6_pay, cX6_pay, 3, (some (.int)))
theorem code_X6_pay : Cond.code yX6_pay cX6_pay 3 (some (.int)) ∈ lw_g := List.mem_filter.mpr ⟨List.mem_of_getElem? (i := 1004) (by decide +kernel), by decide +kernel⟩
abbrev uX6_act : MI := (yX6_act, cX6_act, 8, (some (.int)))
theorem code_X6_act : Cond.code yX6_act cX6_act 8 (some (.int)) ∈ lw_g := List.mem_filter.mpr ⟨List.mem_of_getElem? (i := 1008) (by decide +kernel), by decide +kernel⟩
abbrev uX6_takesLock : MI := (yX6_takesLock, cX6_takesLock, 7, (some (.int)))
theorem code_X6_takesLock : Cond.code yX6_takesLock cX6_takesLock 7 (some (.int)) ∈ lw_g := List.mem_filter.mpr ⟨List.mem_of_getElem? (i := 1013) (by decide +kernel), by decide +kernel⟩
abbrev uX6_waits : MI := (yX6_waits, cX6_waits, 6, none)
theorem code_X6_waits : Cond.code yX6_waits cX6_waits 6 none ∈ lw_g := List.mem_filter.mpr ⟨List.mem_of_getElem? (i := 1017) (by decide +kernel), by decide +kernel⟩
abbrev uX6_givesLock : MI := (yX6_givesLock, cX6_givesLock, 3, (some (.int)))
theorem code_X6_givesLock : Cond.code yX6_givesLock cX6_givesLock 3 (some (.int)) ∈ lw_g := List.mem_filter.mpr ⟨List.mem_of_getElem? (i := 1021) (by decide +kernel), by decide +kernel⟩
abbrev uX6_passes : MI := (yX6_passes, cX6_passes, 6, none)
theorem code_X6_passes : Cond.code yX6_passes cX6_passes 6 none ∈ lw_g := List.mem_filter.mpr ⟨List.mem_of_getElem? (i := 1025) (by decide +kernel), by decide +kernel⟩
abbrev uX6_forks : MI := (yX6_forks, cX6_forks, 4, (some (.int)))
theorem code_X6_forks : Cond.code yX6_forks cX6_forks 4 (some (.int)) ∈ lw_g := List.mem_filter.mpr ⟨List.mem_of_getElem? (i := 1029) (by decide +kernel), by decide +kernel⟩
abbrev uX6_says : MI := (yX6_says, cX6_says, 3, (some (.int)))
theorem code_X6_says : Cond.code yX6_says cX6_says 3 (some (.int)) ∈ lw_g := List.mem_filter.mpr ⟨List.mem_of_getElem? (i := 1033) (by decide +kernel), by decide +kernel⟩
abbrev uX6_isOf : MI := (yX6_isOf, cX6_isOf, 2, (some (.boolean)))
theorem code_X6_isOf : Cond.code yX6_isOf cX6_isOf 2 (some (.boolean)) ∈ lw_g := List.mem_filter.mpr ⟨List.mem_of_getElem? (i := 1036) (by decide +kernel), by decide +kernel⟩
abbrev uX6_smalls : MI := (yX6_smalls, cX6_smalls, 5, (some (.int)))
theorem code_X6_smalls : Cond.code yX6_smalls cX6_smalls 5 (some (.int)) ∈ lw_g := List.mem_filter.mpr ⟨List.mem_of_getElem? (i := 1041) (by decide +kernel), by decide +kernel⟩
abbrev uX6_ends : MI := (yX6_ends, cX6_ends, 4, none)
theorem code_X6_ends : Cond.code yX6_ends cX6_ends 4 none ∈ lw_g := List.mem_filter.mpr ⟨List.mem_of_getElem? (i := 1045) (by decide +kernel), by decide +kernel⟩
abbrev uX6_chosen : MI := (yX6_chosen, cX6_chosen, 2, (some (.int)))
theorem code_X6_chosen : Cond.code yX6_chosen cX6_chosen 2 (some (.int)) ∈ lw_g := List.mem_filter.mpr ⟨List.mem_of_getElem? (i := 1049) (by decide +kernel), by decide +kernel⟩
abbrev uX6_about : MI := (yX6_about, cX6_about, 3, (some (.int)))
theorem code_X6_about : Cond.code yX6_about cX6_about 3 (some (.int)) ∈ lw_g := List.mem_filter.mpr ⟨List.mem_of_getElem? (i := 1053) (by decide +kernel), by decide +kernel⟩
abbrev uX6_virtual : MI := (yX6_virtual, cX6_virtual, 2, (some (.long)))
theorem code_X6_virtual : Cond.code yX6_virtual cX6_virtual 2 (some (.long)) ∈ lw_g := List.mem_filter.mpr ⟨List.mem_of_getElem? (i := 1060) (by decide +kernel), by decide +kernel⟩
abbrev uX6_small : MI := (yX6_small, cX6_small, 3, (some (.int)))
theorem code_X6_small : Cond.code yX6_small cX6_small 3 (some (.int)) ∈ lw_g := List.mem_filter.mpr ⟨List.mem_of_getElem? (i := 1065) (by decide +kernel), by decide +kernel⟩
abbrev uX6_standing : MI := (yX6_standing, cX6_standing, 4, (some (.long)))
theorem code_X6_standing : Cond.code yX6_standing cX6_standing 4 (some (.long)) ∈ lw_g := List.mem_filter.mpr ⟨List.mem_of_getElem? (i := 1069) (by decide +kernel), by decide +kernel⟩
abbrev uX6_holder : MI := (yX6_holder, cX6_holder, 2, (some (.int)))
theorem code_X6_holder : Cond.code yX6_holder cX6_holder 2 (some (.int)) ∈ lw_g := List.mem_filter.mpr ⟨List.mem_of_getElem? (i := 1074) (by decide +kernel), by decide +kernel⟩
abbrev uX6_ringed : MI := (yX6_ringed, cX6_ringed, 2, (some (.int)))
theorem code_X6_ringed : Cond.code yX6_ringed cX6_ringed 2 (some (.int)) ∈ lw_g := List.mem_filter.mpr ⟨List.mem_of_getElem? (i := 1078) (by decide +kernel), by decide +kernel⟩
abbrev uX6_row : MI := (yX6_row, cX6_row, 3, (some (.int)))
theorem code_X6_row : Cond.code yX6_row cX6_row 3 (some (.int)) ∈ lw_g := List.mem_filter.mpr ⟨List.mem_of_getElem? (i := 1082) (by decide +kernel), by decide +kernel⟩
abbrev uX6_isRow : MI := (yX6_isRow, cX6_isRow, 3, (some (.boolean)))
theorem code_X6_isRow : Cond.code yX6_isRow cX6_isRow 3 (some (.boolean)) ∈ lw_g := List.mem_filter.mpr ⟨List.mem_of_getElem? (i := 1086) (by decide +kernel), by decide +kernel⟩
abbrev uX6_forge : MI := (yX6_forge, cX6_forge, 4, (some (.boolean)))
theorem code_X6_forge : Cond.code yX6_forge cX6_forge 4 (some (.boolean)) ∈ lw_g := List.mem_filter.mpr ⟨List.mem_of_getElem? (i := 1090) (by decide +kernel), by decide +kernel⟩
abbrev uX6_check : MI := (yX6_check, cX6_check, 2, (some (.int)))
theorem code_X6_check : Cond.code yX6_check cX6_check 2 (some (.int)) ∈ lw_g := List.mem_filter.mpr ⟨List.mem_of_getElem? (i := 1094) (by decide +kernel), by decide +kernel⟩
abbrev uX6_checkedTo : MI := (yX6_checkedTo, cX6_checkedTo, 1, (some (.int)))
theorem code_X6_checkedTo : Cond.code yX6_checkedTo cX6_checkedTo 1 (some (.int)) ∈ lw_g := List.mem_filter.mpr ⟨List.mem_of_getElem? (i := 1098) (by decide +kernel), by decide +kernel⟩
abbrev uX6_bound : MI := (yX6_bound, cX6_bound, 12, (some (.long)))
theorem code_X6_bound : Cond.code yX6_bound cX6_bound 12 (some (.long)) ∈ lw_g := List.mem_filter.mpr ⟨List.mem_of_getElem? (i := 1102) (by decide +kernel), by decide +kernel⟩
abbrev uX6_payments : MI := (yX6_payments, cX6_payments, 9, (some (.long)))
theorem code_X6_payments : Cond.code yX6_payments cX6_payments 9 (some (.long)) ∈ lw_g := List.mem_filter.mpr ⟨List.mem_of_getElem? (i := 1106) (by decide +kernel), by decide +kernel⟩
abbrev uX6_trace : MI := (yX6_trace, cX6_trace, 2, (some (.int)))
theorem code_X6_trace : Cond.code yX6_trace cX6_trace 2 (some (.int)) ∈ lw_g := List.mem_filter.mpr ⟨List.mem_of_getElem? (i := 1112) (by decide +kernel), by decide +kernel⟩
abbrev uX6_count : MI := (yX6_count, cX6_count, 5, (some (.int)))
theorem code_X6_count : Cond.code yX6_count cX6_count 5 (some (.int)) ∈ lw_g := List.mem_filter.mpr ⟨List.mem_of_getElem? (i := 1117) (by decide +kernel), by decide +kernel⟩
abbrev uX6_image : MI := (yX6_image, cX6_image, 2, (some (.long)))
theorem code_X6_image : Cond.code yX6_image cX6_image 2 (some (.long)) ∈ lw_g := List.mem_filter.mpr ⟨List.mem_of_getElem? (i := 1121) (by decide +kernel), by decide +kernel⟩
abbrev uX6_digest : MI := (yX6_digest, cX6_digest, 5, (some (.long)))
theorem code_X6_digest : Cond.code yX6_digest cX6_digest 5 (some (.long)) ∈ lw_g := List.mem_filter.mpr ⟨List.mem_of_getElem? (i := 1125) (by decide +kernel), by decide +kernel⟩
abbrev uX6_load : MI := (yX6_load, cX6_load, 2, (some (.boolean)))
theorem code_X6_load : Cond.code yX6_load cX6_load 2 (some (.boolean)) ∈ lw_g := List.mem_filter.mpr ⟨List.mem_of_getElem? (i := 1131) (by decide +kernel), by decide +kernel⟩
abbrev uX6_status : MI := (yX6_status, cX6_status, 1, (some (.int)))
theorem code_X6_status : Cond.code yX6_status cX6_status 1 (some (.int)) ∈ lw_g := List.mem_filter.mpr ⟨List.mem_of_getElem? (i := 1136) (by decide +kernel), by decide +kernel⟩
theorem cl_L_7 : Cond.classLink RL 7 RX5 ∈ lw_g := List.mem_filter.mpr ⟨List.mem_of_getElem? (i := 119) (by decide +kernel), by decide +kernel⟩
theorem ins_X5 : Cond.instantiable RX5 7 ∈ lw_g := List.mem_filter.mpr ⟨List.mem_of_getElem? (i := 120) (by decide +kernel), by decide +kernel⟩
theorem lkm_L_9 : Cond.methodLink RL 9 yX5_init ∈ lw_g := List.mem_filter.mpr ⟨List.mem_of_getElem? (i := 121) (by decide +kernel), by decide +kernel⟩
theorem lk_L_9 : LK RL 9 yX5_init := Or.inl lkm_L_9
theorem im_X5_init : Cond.instanceMethod yX5_init ∈ lw_g := List.mem_filter.mpr ⟨List.mem_of_getElem? (i := 122) (by decide +kernel), by decide +kernel⟩
theorem cm_X5_init : CM uX5_init 0 := ⟨code_X5_init, ini_X5, ⟨by decide +kernel, by decide +kernel⟩, by decide +kernel, by decide⟩
theorem lkm_X5_3 : Cond.methodLink RX5 3 objectInit ∈ lw_g := List.mem_filter.mpr ⟨List.mem_of_getElem? (i := 124) (by decide +kernel), by decide +kernel⟩
theorem lk_X5_3 : LK RX5 3 objectInit := Or.inl lkm_X5_3
theorem im_obj : Cond.instanceMethod objectInit ∈ lw_g := List.mem_filter.mpr ⟨List.mem_of_getElem? (i := 125) (by decide +kernel), by decide +kernel⟩
theorem cl_X5_9 : Cond.classLink RX5 9 RX0 ∈ lw_g := List.mem_filter.mpr ⟨List.mem_of_getElem? (i := 127) (by decide +kernel), by decide +kernel⟩
theorem ins_X0 : Cond.instantiable RX0 12 ∈ lw_g := List.mem_filter.mpr ⟨List.mem_of_getElem? (i := 128) (by decide +kernel), by decide +kernel⟩
theorem lk_X5_11 : LK RX5 11 yX0_init := Or.inr ⟨"FairWheel", List.mem_filter.mpr ⟨List.mem_of_getElem? (i := 129) (by decide +kernel), by decide +kernel⟩⟩
theorem im_X0_init : Cond.instanceMethod yX0_init ∈ lw_g := List.mem_filter.mpr ⟨List.mem_of_getElem? (i := 130) (by decide +kernel), by decide +kernel⟩
theorem cm_X0_init : CM uX0_init 0 := ⟨code_X0_init, ini_X0, ⟨by decide +kernel, by decide +kernel⟩, by decide +kernel, by decide⟩
theorem lkm_X0_3 : Cond.methodLink RX0 3 objectInit ∈ lw_g := List.mem_filter.mpr ⟨List.mem_of_getElem? (i := 132) (by decide +kernel), by decide +kernel⟩
theorem lk_X0_3 : LK RX0 3 objectInit := Or.inl lkm_X0_3
theorem cl_X0_9 : Cond.classLink RX0 9 RX4 ∈ lw_g := List.mem_filter.mpr ⟨List.mem_of_getElem? (i := 133) (by decide +kernel), by decide +kernel⟩
theorem ao_X4 : Cond.arrayOver (.object RX4) ∈ lw_g := List.mem_filter.mpr ⟨List.mem_of_getElem? (i := 134) (by decide +kernel), by decide +kernel⟩
theorem cl_X0_17 : Cond.classLink RX0 17 RX2 ∈ lw_g := List.mem_filter.mpr ⟨List.mem_of_getElem? (i := 135) (by decide +kernel), by decide +kernel⟩
theorem ao_X2 : Cond.arrayOver (.object RX2) ∈ lw_g := List.mem_filter.mpr ⟨List.mem_of_getElem? (i := 136) (by decide +kernel), by decide +kernel⟩
theorem cl_X0_23 : Cond.classLink RX0 23 RX3 ∈ lw_g := List.mem_filter.mpr ⟨List.mem_of_getElem? (i := 137) (by decide +kernel), by decide +kernel⟩
theorem ins_X3 : Cond.instantiable RX3 2 ∈ lw_g := List.mem_filter.mpr ⟨List.mem_of_getElem? (i := 138) (by decide +kernel), by decide +kernel⟩
theorem lk_X0_25 : LK RX0 25 yX3_init := Or.inr ⟨"FairWheel", List.mem_filter.mpr ⟨List.mem_of_getElem? (i := 139) (by decide +kernel), by decide +kernel⟩⟩
theorem im_X3_init : Cond.instanceMethod yX3_init ∈ lw_g := List.mem_filter.mpr ⟨List.mem_of_getElem? (i := 140) (by decide +kernel), by decide +kernel⟩
theorem cm_X3_init : CM uX3_init 0 := ⟨code_X3_init, ini_X3, ⟨by decide +kernel, by decide +kernel⟩, by decide +kernel, by decide⟩
theorem lkm_X3_3 : Cond.methodLink RX3 3 objectInit ∈ lw_g := List.mem_filter.mpr ⟨List.mem_of_getElem? (i := 142) (by decide +kernel), by decide +kernel⟩
theorem lk_X3_3 : LK RX3 3 objectInit := Or.inl lkm_X3_3
theorem fl_X3_9m : Cond.fieldLink RX3 9 (TX3 0).1 (TX3 0).2.1 (TX3 0).2.2.1 ∈ lw_g := List.mem_filter.mpr ⟨List.mem_of_getElem? (i := 143) (by decide +kernel), by decide +kernel⟩
theorem fl_X3_9 : FL RX3 9 3 0 := ⟨_, rfl, by decide, Or.inl fl_X3_9m⟩
theorem fl_X0_72 : FL RX0 72 3 0 := ⟨_, rfl, by decide, Or.inr ⟨"FairWheel", List.mem_filter.mpr ⟨List.mem_of_getElem? (i := 144) (by decide +kernel), by decide +kernel⟩⟩⟩
theorem fl_X5_194 : FL RX5 194 3 0 := ⟨_, rfl, by decide, Or.inr ⟨"FairWheel", List.mem_filter.mpr ⟨List.mem_of_getElem? (i := 145) (by decide +kernel), by decide +kernel⟩⟩⟩
theorem fl_X3_15m : Cond.fieldLink RX3 15 (TX3 1).1 (TX3 1).2.1 (TX3 1).2.2.1 ∈ lw_g := List.mem_filter.mpr ⟨List.mem_of_getElem? (i := 146) (by decide +kernel), by decide +kernel⟩
theorem fl_X3_15 : FL RX3 15 3 1 := ⟨_, rfl, by decide, Or.inl fl_X3_15m⟩
theorem ac_int : Cond.arrayClass .int ∈ lw_g := List.mem_filter.mpr ⟨List.mem_of_getElem? (i := 152) (by decide +kernel), by decide +kernel⟩
theorem ins_X4 : Cond.instantiable RX4 19 ∈ lw_g := List.mem_filter.mpr ⟨List.mem_of_getElem? (i := 153) (by decide +kernel), by decide +kernel⟩
theorem lk_X0_59 : LK RX0 59 yX4_init := Or.inr ⟨"FairWheel", List.mem_filter.mpr ⟨List.mem_of_getElem? (i := 154) (by decide +kernel), by decide +kernel⟩⟩
theorem im_X4_init : Cond.instanceMethod yX4_init ∈ lw_g := List.mem_filter.mpr ⟨List.mem_of_getElem? (i := 155) (by decide +kernel), by decide +kernel⟩
theorem cm_X4_init : CM uX4_init 1 := ⟨code_X4_init, ini_X4, ⟨by decide +kernel, by decide +kernel⟩, by decide +kernel, by decide⟩
theorem lkm_X4_3 : Cond.methodLink RX4 3 objectInit ∈ lw_g := List.mem_filter.mpr ⟨List.mem_of_getElem? (i := 157) (by decide +kernel), by decide +kernel⟩
theorem lk_X4_3 : LK RX4 3 objectInit := Or.inl lkm_X4_3
theorem fl_X4_68m : Cond.fieldLink RX4 68 (TX4 0).1 (TX4 0).2.1 (TX4 0).2.2.1 ∈ lw_g := List.mem_filter.mpr ⟨List.mem_of_getElem? (i := 158) (by decide +kernel), by decide +kernel⟩
theorem fl_X4_68 : FL RX4 68 4 0 := ⟨_, rfl, by decide, Or.inl fl_X4_68m⟩
theorem fl_X0_108 : FL RX0 108 4 0 := ⟨_, rfl, by decide, Or.inr ⟨"FairWheel", List.mem_filter.mpr ⟨List.mem_of_getElem? (i := 159) (by decide +kernel), by decide +kernel⟩⟩⟩
theorem fl_X4_9m : Cond.fieldLink RX4 9 (TX4 1).1 (TX4 1).2.1 (TX4 1).2.2.1 ∈ lw_g := List.mem_filter.mpr ⟨List.mem_of_getElem? (i := 160) (by decide +kernel), by decide +kernel⟩
theorem fl_X4_9 : FL RX4 9 4 1 := ⟨_, rfl, by decide, Or.inl fl_X4_9m⟩
theorem fl_X0_204 : FL RX0 204 4 1 := ⟨_, rfl, by decide, Or.inr ⟨"FairWheel", List.mem_filter.mpr ⟨List.mem_of_getElem? (i := 161) (by decide +kernel), by decide +kernel⟩⟩⟩
theorem fl_X4_15m : Cond.fieldLink RX4 15 (TX4 2).1 (TX4 2).2.1 (TX4 2).2.2.1 ∈ lw_g := List.mem_filter.mpr ⟨List.mem_of_getElem? (i := 162) (by decide +kernel), by decide +kernel⟩
theorem fl_X4_15 : FL RX4 15 4 2 := ⟨_, rfl, by decide, Or.inl fl_X4_15m⟩
theorem fl_X0_219 : FL RX0 219 4 2 := ⟨_, rfl, by decide, Or.inr ⟨"FairWheel", List.mem_filter.mpr ⟨List.mem_of_getElem? (i := 163) (by decide +kernel), by decide +kernel⟩⟩⟩
theorem fl_X4_18m : Cond.fieldLink RX4 18 (TX4 3).1 (TX4 3).2.1 (TX4 3).2.2.1 ∈ lw_g := List.mem_filter.mpr ⟨List.mem_of_getElem? (i := 164) (by decide +kernel), by decide +kernel⟩
theorem fl_X4_18 : FL RX4 18 4 3 := ⟨_, rfl, by decide, Or.inl fl_X4_18m⟩
theorem fl_X0_289 : FL RX0 289 4 3 := ⟨_, rfl, by decide, Or.inr ⟨"FairWheel", List.mem_filter.mpr ⟨List.mem_of_getElem? (i := 165) (by decide +kernel), by decide +kernel⟩⟩⟩
theorem fl_X4_21m : Cond.fieldLink RX4 21 (TX4 4).1 (TX4 4).2.1 (TX4 4).2.2.1 ∈ lw_g := List.mem_filter.mpr ⟨List.mem_of_getElem? (i := 166) (by decide +kernel), by decide +kernel⟩
theorem fl_X4_21 : FL RX4 21 4 4 := ⟨_, rfl, by decide, Or.inl fl_X4_21m⟩
theorem fl_X0_111 : FL RX0 111 4 4 := ⟨_, rfl, by decide, Or.inr ⟨"FairWheel", List.mem_filter.mpr ⟨List.mem_of_getElem? (i := 167) (by decide +kernel), by decide +kernel⟩⟩⟩
theorem fl_X5_120 : FL RX5 120 4 4 := ⟨_, rfl, by decide, Or.inr ⟨"FairWheel", List.mem_filter.mpr ⟨List.mem_of_getElem? (i := 168) (by decide +kernel), by decide +kernel⟩⟩⟩
theorem fl_X4_25m : Cond.fieldLink RX4 25 (TX4 5).1 (TX4 5).2.1 (TX4 5).2.2.1 ∈ lw_g := List.mem_filter.mpr ⟨List.mem_of_getElem? (i := 169) (by decide +kernel), by decide +kernel⟩
theorem fl_X4_25 : FL RX4 25 4 5 := ⟨_, rfl, by decide, Or.inl fl_X4_25m⟩
theorem fl_X4_28m : Cond.fieldLink RX4 28 (TX4 6).1 (TX4 6).2.1 (TX4 6).2.2.1 ∈ lw_g := List.mem_filter.mpr ⟨List.mem_of_getElem? (i := 170) (by decide +kernel), by decide +kernel⟩
theorem fl_X4_28 : FL RX4 28 4 6 := ⟨_, rfl, by decide, Or.inl fl_X4_28m⟩
theorem fl_X0_216 : FL RX0 216 4 6 := ⟨_, rfl, by decide, Or.inr ⟨"FairWheel", List.mem_filter.mpr ⟨List.mem_of_getElem? (i := 171) (by decide +kernel), by decide +kernel⟩⟩⟩
theorem fl_X4_31m : Cond.fieldLink RX4 31 (TX4 7).1 (TX4 7).2.1 (TX4 7).2.2.1 ∈ lw_g := List.mem_filter.mpr ⟨List.mem_of_getElem? (i := 172) (by decide +kernel), by decide +kernel⟩
theorem fl_X4_31 : FL RX4 31 4 7 := ⟨_, rfl, by decide, Or.inl fl_X4_31m⟩
theorem fl_X0_226 : FL RX0 226 4 7 := ⟨_, rfl, by decide, Or.inr ⟨"FairWheel", List.mem_filter.mpr ⟨List.mem_of_getElem? (i := 173) (by decide +kernel), by decide +kernel⟩⟩⟩
theorem fl_X4_34m : Cond.fieldLink RX4 34 (TX4 8).1 (TX4 8).2.1 (TX4 8).2.2.1 ∈ lw_g := List.mem_filter.mpr ⟨List.mem_of_getElem? (i := 174) (by decide +kernel), by decide +kernel⟩
theorem fl_X4_34 : FL RX4 34 4 8 := ⟨_, rfl, by decide, Or.inl fl_X4_34m⟩
theorem fl_X0_93 : FL RX0 93 4 8 := ⟨_, rfl, by decide, Or.inr ⟨"FairWheel", List.mem_filter.mpr ⟨List.mem_of_getElem? (i := 175) (by decide +kernel), by decide +kernel⟩⟩⟩
theorem fl_X5_181 : FL RX5 181 4 8 := ⟨_, rfl, by decide, Or.inr ⟨"FairWheel", List.mem_filter.mpr ⟨List.mem_of_getElem? (i := 176) (by decide +kernel), by decide +kernel⟩⟩⟩
theorem fl_X4_37m : Cond.fieldLink RX4 37 (TX4 9).1 (TX4 9).2.1 (TX4 9).2.2.1 ∈ lw_g := List.mem_filter.mpr ⟨List.mem_of_getElem? (i := 177) (by decide +kernel), by decide +kernel⟩
theorem fl_X4_37 : FL RX4 37 4 9 := ⟨_, rfl, by decide, Or.inl fl_X4_37m⟩
theorem fl_X0_115 : FL RX0 115 4 9 := ⟨_, rfl, by decide, Or.inr ⟨"FairWheel", List.mem_filter.mpr ⟨List.mem_of_getElem? (i := 178) (by decide +kernel), by decide +kernel⟩⟩⟩
theorem fl_X4_40m : Cond.fieldLink RX4 40 (TX4 10).1 (TX4 10).2.1 (TX4 10).2.2.1 ∈ lw_g := List.mem_filter.mpr ⟨List.mem_of_getElem? (i := 179) (by decide +kernel), by decide +kernel⟩
theorem fl_X4_40 : FL RX4 40 4 10 := ⟨_, rfl, by decide, Or.inl fl_X4_40m⟩
theorem fl_X0_138 : FL RX0 138 4 10 := ⟨_, rfl, by decide, Or.inr ⟨"FairWheel", List.mem_filter.mpr ⟨List.mem_of_getElem? (i := 180) (by decide +kernel), by decide +kernel⟩⟩⟩
theorem fl_X4_43m : Cond.fieldLink RX4 43 (TX4 11).1 (TX4 11).2.1 (TX4 11).2.2.1 ∈ lw_g := List.mem_filter.mpr ⟨List.mem_of_getElem? (i := 181) (by decide +kernel), by decide +kernel⟩
theorem fl_X4_43 : FL RX4 43 4 11 := ⟨_, rfl, by decide, Or.inl fl_X4_43m⟩
theorem fl_X0_210 : FL RX0 210 4 11 := ⟨_, rfl, by decide, Or.inr ⟨"FairWheel", List.mem_filter.mpr ⟨List.mem_of_getElem? (i := 182) (by decide +kernel), by decide +kernel⟩⟩⟩
theorem fl_X4_46m : Cond.fieldLink RX4 46 (TX4 12).1 (TX4 12).2.1 (TX4 12).2.2.1 ∈ lw_g := List.mem_filter.mpr ⟨List.mem_of_getElem? (i := 183) (by decide +kernel), by decide +kernel⟩
theorem fl_X4_46 : FL RX4 46 4 12 := ⟨_, rfl, by decide, Or.inl fl_X4_46m⟩
theorem fl_X0_153 : FL RX0 153 4 12 := ⟨_, rfl, by decide, Or.inr ⟨"FairWheel", List.mem_filter.mpr ⟨List.mem_of_getElem? (i := 184) (by decide +kernel), by decide +kernel⟩⟩⟩
theorem fl_X4_49m : Cond.fieldLink RX4 49 (TX4 13).1 (TX4 13).2.1 (TX4 13).2.2.1 ∈ lw_g := List.mem_filter.mpr ⟨List.mem_of_getElem? (i := 185) (by decide +kernel), by decide +kernel⟩
theorem fl_X4_49 : FL RX4 49 4 13 := ⟨_, rfl, by decide, Or.inl fl_X4_49m⟩
theorem fl_X0_156 : FL RX0 156 4 13 := ⟨_, rfl, by decide, Or.inr ⟨"FairWheel", List.mem_filter.mpr ⟨List.mem_of_getElem? (i := 186) (by decide +kernel), by decide +kernel⟩⟩⟩
theorem fl_X4_52m : Cond.fieldLink RX4 52 (TX4 14).1 (TX4 14).2.1 (TX4 14).2.2.1 ∈ lw_g := List.mem_filter.mpr ⟨List.mem_of_getElem? (i := 187) (by decide +kernel), by decide +kernel⟩
theorem fl_X4_52 : FL RX4 52 4 14 := ⟨_, rfl, by decide, Or.inl fl_X4_52m⟩
theorem fl_X0_150 : FL RX0 150 4 14 := ⟨_, rfl, by decide, Or.inr ⟨"FairWheel", List.mem_filter.mpr ⟨List.mem_of_getElem? (i := 188) (by decide +kernel), by decide +kernel⟩⟩⟩
theorem fl_X4_55m : Cond.fieldLink RX4 55 (TX4 15).1 (TX4 15).2.1 (TX4 15).2.2.1 ∈ lw_g := List.mem_filter.mpr ⟨List.mem_of_getElem? (i := 189) (by decide +kernel), by decide +kernel⟩
theorem fl_X4_55 : FL RX4 55 4 15 := ⟨_, rfl, by decide, Or.inl fl_X4_55m⟩
theorem fl_X0_201 : FL RX0 201 4 15 := ⟨_, rfl, by decide, Or.inr ⟨"FairWheel", List.mem_filter.mpr ⟨List.mem_of_getElem? (i := 190) (by decide +kernel), by decide +kernel⟩⟩⟩
theorem fl_X4_58m : Cond.fieldLink RX4 58 (TX4 16).1 (TX4 16).2.1 (TX4 16).2.2.1 ∈ lw_g := List.mem_filter.mpr ⟨List.mem_of_getElem? (i := 191) (by decide +kernel), by decide +kernel⟩
theorem fl_X4_58 : FL RX4 58 4 16 := ⟨_, rfl, by decide, Or.inl fl_X4_58m⟩
theorem fl_X0_296 : FL RX0 296 4 16 := ⟨_, rfl, by decide, Or.inr ⟨"FairWheel", List.mem_filter.mpr ⟨List.mem_of_getElem? (i := 192) (by decide +kernel), by decide +kernel⟩⟩⟩
theorem fl_X4_61m : Cond.fieldLink RX4 61 (TX4 17).1 (TX4 17).2.1 (TX4 17).2.2.1 ∈ lw_g := List.mem_filter.mpr ⟨List.mem_of_getElem? (i := 193) (by decide +kernel), by decide +kernel⟩
theorem fl_X4_61 : FL RX4 61 4 17 := ⟨_, rfl, by decide, Or.inl fl_X4_61m⟩
theorem fl_X4_65m : Cond.fieldLink RX4 65 (TX4 18).1 (TX4 18).2.1 (TX4 18).2.2.1 ∈ lw_g := List.mem_filter.mpr ⟨List.mem_of_getElem? (i := 194) (by decide +kernel), by decide +kernel⟩
theorem fl_X4_65 : FL RX4 65 4 18 := ⟨_, rfl, by decide, Or.inl fl_X4_65m⟩
theorem fl_X5_130 : FL RX5 130 4 18 := ⟨_, rfl, by decide, Or.inr ⟨"FairWheel", List.mem_filter.mpr ⟨List.mem_of_getElem? (i := 195) (by decide +kernel), by decide +kernel⟩⟩⟩
theorem fl_X0_168 : FL RX0 168 4 18 := ⟨_, rfl, by decide, Or.inr ⟨"FairWheel", List.mem_filter.mpr ⟨List.mem_of_getElem? (i := 196) (by decide +kernel), by decide +kernel⟩⟩⟩
theorem ins_X2 : Cond.instantiable RX2 2 ∈ lw_g := List.mem_filter.mpr ⟨List.mem_of_getElem? (i := 236) (by decide +kernel), by decide +kernel⟩
theorem lk_X0_62 : LK RX0 62 yX2_init := Or.inr ⟨"FairWheel", List.mem_filter.mpr ⟨List.mem_of_getElem? (i := 237) (by decide +kernel), by decide +kernel⟩⟩
theorem im_X2_init : Cond.instanceMethod yX2_init ∈ lw_g := List.mem_filter.mpr ⟨List.mem_of_getElem? (i := 238) (by decide +kernel), by decide +kernel⟩
theorem cm_X2_init : CM uX2_init 0 := ⟨code_X2_init, ini_X2, ⟨by decide +kernel, by decide +kernel⟩, by decide +kernel, by decide⟩
theorem lkm_X2_3 : Cond.methodLink RX2 3 objectInit ∈ lw_g := List.mem_filter.mpr ⟨List.mem_of_getElem? (i := 240) (by decide +kernel), by decide +kernel⟩
theorem lk_X2_3 : LK RX2 3 objectInit := Or.inl lkm_X2_3
theorem fl_X2_9m : Cond.fieldLink RX2 9 (TX2 0).1 (TX2 0).2.1 (TX2 0).2.2.1 ∈ lw_g := List.mem_filter.mpr ⟨List.mem_of_getElem? (i := 241) (by decide +kernel), by decide +kernel⟩
theorem fl_X2_9 : FL RX2 9 2 0 := ⟨_, rfl, by decide, Or.inl fl_X2_9m⟩
theorem fl_X0_69 : FL RX0 69 2 0 := ⟨_, rfl, by decide, Or.inr ⟨"FairWheel", List.mem_filter.mpr ⟨List.mem_of_getElem? (i := 242) (by decide +kernel), by decide +kernel⟩⟩⟩
theorem fl_X2_15m : Cond.fieldLink RX2 15 (TX2 1).1 (TX2 1).2.1 (TX2 1).2.2.1 ∈ lw_g := List.mem_filter.mpr ⟨List.mem_of_getElem? (i := 243) (by decide +kernel), by decide +kernel⟩
theorem fl_X2_15 : FL RX2 15 2 1 := ⟨_, rfl, by decide, Or.inl fl_X2_15m⟩
theorem ac_byte : Cond.arrayClass .byte ∈ lw_g := List.mem_filter.mpr ⟨List.mem_of_getElem? (i := 249) (by decide +kernel), by decide +kernel⟩
theorem lkm_X0_63 : Cond.methodLink RX0 63 yJ7_fill_53178 ∈ lw_g := List.mem_filter.mpr ⟨List.mem_of_getElem? (i := 250) (by decide +kernel), by decide +kernel⟩
theorem lk_X0_63 : LK RX0 63 yJ7_fill_53178 := Or.inl lkm_X0_63
theorem sm_J7_fill_53178 : Cond.static yJ7_fill_53178 ∈ lw_g := List.mem_filter.mpr ⟨List.mem_of_getElem? (i := 251) (by decide +kernel), by decide +kernel⟩
theorem cm_J7_fill_53178 : CM uJ7_fill_53178 2 := ⟨code_J7_fill_53178, ini_J7, ⟨by decide +kernel, by decide +kernel⟩, by decide +kernel, by decide⟩
theorem fl_X0_11m : Cond.fieldLink RX0 11 (TX0 0).1 (TX0 0).2.1 (TX0 0).2.2.1 ∈ lw_g := List.mem_filter.mpr ⟨List.mem_of_getElem? (i := 253) (by decide +kernel), by decide +kernel⟩
theorem fl_X0_11 : FL RX0 11 0 0 := ⟨_, rfl, by decide, Or.inl fl_X0_11m⟩
theorem fl_X0_19m : Cond.fieldLink RX0 19 (TX0 1).1 (TX0 1).2.1 (TX0 1).2.2.1 ∈ lw_g := List.mem_filter.mpr ⟨List.mem_of_getElem? (i := 254) (by decide +kernel), by decide +kernel⟩
theorem fl_X0_19 : FL RX0 19 0 1 := ⟨_, rfl, by decide, Or.inl fl_X0_19m⟩
theorem fl_X0_26m : Cond.fieldLink RX0 26 (TX0 2).1 (TX0 2).2.1 (TX0 2).2.2.1 ∈ lw_g := List.mem_filter.mpr ⟨List.mem_of_getElem? (i := 255) (by decide +kernel), by decide +kernel⟩
theorem fl_X0_26 : FL RX0 26 0 2 := ⟨_, rfl, by decide, Or.inl fl_X0_26m⟩
theorem fl_X5_150 : FL RX5 150 0 2 := ⟨_, rfl, by decide, Or.inr ⟨"FairWheel", List.mem_filter.mpr ⟨List.mem_of_getElem? (i := 256) (by decide +kernel), by decide +kernel⟩⟩⟩
theorem fl_X0_30m : Cond.fieldLink RX0 30 (TX0 3).1 (TX0 3).2.1 (TX0 3).2.2.1 ∈ lw_g := List.mem_filter.mpr ⟨List.mem_of_getElem? (i := 257) (by decide +kernel), by decide +kernel⟩
theorem fl_X0_30 : FL RX0 30 0 3 := ⟨_, rfl, by decide, Or.inl fl_X0_30m⟩
theorem fl_X0_34m : Cond.fieldLink RX0 34 (TX0 4).1 (TX0 4).2.1 (TX0 4).2.2.1 ∈ lw_g := List.mem_filter.mpr ⟨List.mem_of_getElem? (i := 258) (by decide +kernel), by decide +kernel⟩
theorem fl_X0_34 : FL RX0 34 0 4 := ⟨_, rfl, by decide, Or.inl fl_X0_34m⟩
theorem fl_X5_108 : FL RX5 108 0 4 := ⟨_, rfl, by decide, Or.inr ⟨"FairWheel", List.mem_filter.mpr ⟨List.mem_of_getElem? (i := 259) (by decide +kernel), by decide +kernel⟩⟩⟩
theorem fl_X0_37m : Cond.fieldLink RX0 37 (TX0 5).1 (TX0 5).2.1 (TX0 5).2.2.1 ∈ lw_g := List.mem_filter.mpr ⟨List.mem_of_getElem? (i := 260) (by decide +kernel), by decide +kernel⟩
theorem fl_X0_37 : FL RX0 37 0 5 := ⟨_, rfl, by decide, Or.inl fl_X0_37m⟩
theorem fl_X5_147 : FL RX5 147 0 5 := ⟨_, rfl, by decide, Or.inr ⟨"FairWheel", List.mem_filter.mpr ⟨List.mem_of_getElem? (i := 261) (by decide +kernel), by decide +kernel⟩⟩⟩
theorem fl_X0_40m : Cond.fieldLink RX0 40 (TX0 6).1 (TX0 6).2.1 (TX0 6).2.2.1 ∈ lw_g := List.mem_filter.mpr ⟨List.mem_of_getElem? (i := 262) (by decide +kernel), by decide +kernel⟩
theorem fl_X0_40 : FL RX0 40 0 6 := ⟨_, rfl, by decide, Or.inl fl_X0_40m⟩
theorem fl_X5_188 : FL RX5 188 0 6 := ⟨_, rfl, by decide, Or.inr ⟨"FairWheel", List.mem_filter.mpr ⟨List.mem_of_getElem? (i := 263) (by decide +kernel), by decide +kernel⟩⟩⟩
theorem fl_X0_43m : Cond.fieldLink RX0 43 (TX0 7).1 (TX0 7).2.1 (TX0 7).2.2.1 ∈ lw_g := List.mem_filter.mpr ⟨List.mem_of_getElem? (i := 264) (by decide +kernel), by decide +kernel⟩
theorem fl_X0_43 : FL RX0 43 0 7 := ⟨_, rfl, by decide, Or.inl fl_X0_43m⟩
theorem fl_X5_65 : FL RX5 65 0 7 := ⟨_, rfl, by decide, Or.inr ⟨"FairWheel", List.mem_filter.mpr ⟨List.mem_of_getElem? (i := 265) (by decide +kernel), by decide +kernel⟩⟩⟩
theorem fl_X0_47m : Cond.fieldLink RX0 47 (TX0 8).1 (TX0 8).2.1 (TX0 8).2.2.1 ∈ lw_g := List.mem_filter.mpr ⟨List.mem_of_getElem? (i := 266) (by decide +kernel), by decide +kernel⟩
theorem fl_X0_47 : FL RX0 47 0 8 := ⟨_, rfl, by decide, Or.inl fl_X0_47m⟩
theorem fl_X5_85 : FL RX5 85 0 8 := ⟨_, rfl, by decide, Or.inr ⟨"FairWheel", List.mem_filter.mpr ⟨List.mem_of_getElem? (i := 267) (by decide +kernel), by decide +kernel⟩⟩⟩
theorem fl_X0_50m : Cond.fieldLink RX0 50 (TX0 9).1 (TX0 9).2.1 (TX0 9).2.2.1 ∈ lw_g := List.mem_filter.mpr ⟨List.mem_of_getElem? (i := 268) (by decide +kernel), by decide +kernel⟩
theorem fl_X0_50 : FL RX0 50 0 9 := ⟨_, rfl, by decide, Or.inl fl_X0_50m⟩
theorem fl_X5_195 : FL RX5 195 0 9 := ⟨_, rfl, by decide, Or.inr ⟨"FairWheel", List.mem_filter.mpr ⟨List.mem_of_getElem? (i := 269) (by decide +kernel), by decide +kernel⟩⟩⟩
theorem fl_X0_53m : Cond.fieldLink RX0 53 (TX0 10).1 (TX0 10).2.1 (TX0 10).2.2.1 ∈ lw_g := List.mem_filter.mpr ⟨List.mem_of_getElem? (i := 270) (by decide +kernel), by decide +kernel⟩
theorem fl_X0_53 : FL RX0 53 0 10 := ⟨_, rfl, by decide, Or.inl fl_X0_53m⟩
theorem fl_X5_144 : FL RX5 144 0 10 := ⟨_, rfl, by decide, Or.inr ⟨"FairWheel", List.mem_filter.mpr ⟨List.mem_of_getElem? (i := 271) (by decide +kernel), by decide +kernel⟩⟩⟩
theorem fl_X0_56m : Cond.fieldLink RX0 56 (TX0 11).1 (TX0 11).2.1 (TX0 11).2.2.1 ∈ lw_g := List.mem_filter.mpr ⟨List.mem_of_getElem? (i := 272) (by decide +kernel), by decide +kernel⟩
theorem fl_X0_56 : FL RX0 56 0 11 := ⟨_, rfl, by decide, Or.inl fl_X0_56m⟩
theorem fl_X5_198 : FL RX5 198 0 11 := ⟨_, rfl, by decide, Or.inr ⟨"FairWheel", List.mem_filter.mpr ⟨List.mem_of_getElem? (i := 273) (by decide +kernel), by decide +kernel⟩⟩⟩
theorem cl_X5_16 : Cond.classLink RX5 16 RX1 ∈ lw_g := List.mem_filter.mpr ⟨List.mem_of_getElem? (i := 299) (by decide +kernel), by decide +kernel⟩
theorem ins_X1 : Cond.instantiable RX1 2 ∈ lw_g := List.mem_filter.mpr ⟨List.mem_of_getElem? (i := 300) (by decide +kernel), by decide +kernel⟩
theorem lk_X5_18 : LK RX5 18 yX1_init := Or.inr ⟨"FairWheel", List.mem_filter.mpr ⟨List.mem_of_getElem? (i := 301) (by decide +kernel), by decide +kernel⟩⟩
theorem im_X1_init : Cond.instanceMethod yX1_init ∈ lw_g := List.mem_filter.mpr ⟨List.mem_of_getElem? (i := 302) (by decide +kernel), by decide +kernel⟩
theorem cm_X1_init : CM uX1_init 0 := ⟨code_X1_init, ini_X1, ⟨by decide +kernel, by decide +kernel⟩, by decide +kernel, by decide⟩
theorem lkm_X1_3 : Cond.methodLink RX1 3 objectInit ∈ lw_g := List.mem_filter.mpr ⟨List.mem_of_getElem? (i := 304) (by decide +kernel), by decide +kernel⟩
theorem lk_X1_3 : LK RX1 3 objectInit := Or.inl lkm_X1_3
theorem fl_X1_9m : Cond.fieldLink RX1 9 (TX1 0).1 (TX1 0).2.1 (TX1 0).2.2.1 ∈ lw_g := List.mem_filter.mpr ⟨List.mem_of_getElem? (i := 305) (by decide +kernel), by decide +kernel⟩
theorem fl_X1_9 : FL RX1 9 1 0 := ⟨_, rfl, by decide, Or.inl fl_X1_9m⟩
theorem fl_X5_170 : FL RX5 170 1 0 := ⟨_, rfl, by decide, Or.inr ⟨"FairWheel", List.mem_filter.mpr ⟨List.mem_of_getElem? (i := 306) (by decide +kernel), by decide +kernel⟩⟩⟩
theorem fl_X1_15m : Cond.fieldLink RX1 15 (TX1 1).1 (TX1 1).2.1 (TX1 1).2.2.1 ∈ lw_g := List.mem_filter.mpr ⟨List.mem_of_getElem? (i := 307) (by decide +kernel), by decide +kernel⟩
theorem fl_X1_15 : FL RX1 15 1 1 := ⟨_, rfl, by decide, Or.inl fl_X1_15m⟩
theorem ac_long : Cond.arrayClass .long ∈ lw_g := List.mem_filter.mpr ⟨List.mem_of_getElem? (i := 313) (by decide +kernel), by decide +kernel⟩
theorem fl_X5_12m : Cond.fieldLink RX5 12 (TX5 0).1 (TX5 0).2.1 (TX5 0).2.2.1 ∈ lw_g := List.mem_filter.mpr ⟨List.mem_of_getElem? (i := 314) (by decide +kernel), by decide +kernel⟩
theorem fl_X5_12 : FL RX5 12 5 0 := ⟨_, rfl, by decide, Or.inl fl_X5_12m⟩
theorem fl_X5_19m : Cond.fieldLink RX5 19 (TX5 1).1 (TX5 1).2.1 (TX5 1).2.2.1 ∈ lw_g := List.mem_filter.mpr ⟨List.mem_of_getElem? (i := 315) (by decide +kernel), by decide +kernel⟩
theorem fl_X5_19 : FL RX5 19 5 1 := ⟨_, rfl, by decide, Or.inl fl_X5_19m⟩
theorem fl_X5_23m : Cond.fieldLink RX5 23 (TX5 2).1 (TX5 2).2.1 (TX5 2).2.2.1 ∈ lw_g := List.mem_filter.mpr ⟨List.mem_of_getElem? (i := 316) (by decide +kernel), by decide +kernel⟩
theorem fl_X5_23 : FL RX5 23 5 2 := ⟨_, rfl, by decide, Or.inl fl_X5_23m⟩
theorem fl_X5_26m : Cond.fieldLink RX5 26 (TX5 3).1 (TX5 3).2.1 (TX5 3).2.2.1 ∈ lw_g := List.mem_filter.mpr ⟨List.mem_of_getElem? (i := 317) (by decide +kernel), by decide +kernel⟩
theorem fl_X5_26 : FL RX5 26 5 3 := ⟨_, rfl, by decide, Or.inl fl_X5_26m⟩
theorem fl_X5_29m : Cond.fieldLink RX5 29 (TX5 4).1 (TX5 4).2.1 (TX5 4).2.2.1 ∈ lw_g := List.mem_filter.mpr ⟨List.mem_of_getElem? (i := 318) (by decide +kernel), by decide +kernel⟩
theorem fl_X5_29 : FL RX5 29 5 4 := ⟨_, rfl, by decide, Or.inl fl_X5_29m⟩
theorem fl_X5_32m : Cond.fieldLink RX5 32 (TX5 5).1 (TX5 5).2.1 (TX5 5).2.2.1 ∈ lw_g := List.mem_filter.mpr ⟨List.mem_of_getElem? (i := 319) (by decide +kernel), by decide +kernel⟩
theorem fl_X5_32 : FL RX5 32 5 5 := ⟨_, rfl, by decide, Or.inl fl_X5_32m⟩
theorem fl_X5_36m : Cond.fieldLink RX5 36 (TX5 6).1 (TX5 6).2.1 (TX5 6).2.2.1 ∈ lw_g := List.mem_filter.mpr ⟨List.mem_of_getElem? (i := 320) (by decide +kernel), by decide +kernel⟩
theorem fl_X5_36 : FL RX5 36 5 6 := ⟨_, rfl, by decide, Or.inl fl_X5_36m⟩
theorem lkm_L_15 : Cond.methodLink RL 15 yX5_program ∈ lw_g := List.mem_filter.mpr ⟨List.mem_of_getElem? (i := 336) (by decide +kernel), by decide +kernel⟩
theorem lk_L_15 : LK RL 15 yX5_program := Or.inl lkm_L_15
theorem im_X5_program : Cond.instanceMethod yX5_program ∈ lw_g := List.mem_filter.mpr ⟨List.mem_of_getElem? (i := 337) (by decide +kernel), by decide +kernel⟩
theorem sel_X5_program : Cond.selects RX5 yX5_program yX5_program ∈ lw_g := List.mem_filter.mpr ⟨List.mem_of_getElem? (i := 338) (by decide +kernel), by decide +kernel⟩
theorem cm_X5_program : CM uX5_program 3 := ⟨code_X5_program, ini_X5, ⟨by decide +kernel, by decide +kernel⟩, by decide +kernel, by decide⟩
theorem lk_X5_39 : LK RX5 39 yX0_programAt := Or.inr ⟨"FairWheel", List.mem_filter.mpr ⟨List.mem_of_getElem? (i := 340) (by decide +kernel), by decide +kernel⟩⟩
theorem im_X0_programAt : Cond.instanceMethod yX0_programAt ∈ lw_g := List.mem_filter.mpr ⟨List.mem_of_getElem? (i := 342) (by decide +kernel), by decide +kernel⟩
theorem cm_X0_programAt : CM uX0_programAt 1 := ⟨code_X0_programAt, ini_X0, ⟨by decide +kernel, by decide +kernel⟩, by decide +kernel, by decide⟩
theorem lkm_X5_43 : Cond.methodLink RX5 43 yX5_refused ∈ lw_g := List.mem_filter.mpr ⟨List.mem_of_getElem? (i := 344) (by decide +kernel), by decide +kernel⟩
theorem lk_X5_43 : LK RX5 43 yX5_refused := Or.inl lkm_X5_43
theorem im_X5_refused : Cond.instanceMethod yX5_refused ∈ lw_g := List.mem_filter.mpr ⟨List.mem_of_getElem? (i := 346) (by decide +kernel), by decide +kernel⟩
theorem cm_X5_refused : CM uX5_refused 1 := ⟨code_X5_refused, ini_X5, ⟨by decide +kernel, by decide +kernel⟩, by decide +kernel, by decide⟩
theorem lk_X5_47 : LK RX5 47 yX2_length := Or.inr ⟨"FairWheel", List.mem_filter.mpr ⟨List.mem_of_getElem? (i := 348) (by decide +kernel), by decide +kernel⟩⟩
theorem im_X2_length : Cond.instanceMethod yX2_length ∈ lw_g := List.mem_filter.mpr ⟨List.mem_of_getElem? (i := 350) (by decide +kernel), by decide +kernel⟩
theorem cm_X2_length : CM uX2_length 0 := ⟨code_X2_length, ini_X2, ⟨by decide +kernel, by decide +kernel⟩, by decide +kernel, by decide⟩
theorem lkm_X2_19 : Cond.methodLink RX2 19 yJ9_max_7cf53 ∈ lw_g := List.mem_filter.mpr ⟨List.mem_of_getElem? (i := 352) (by decide +kernel), by decide +kernel⟩
theorem lk_X2_19 : LK RX2 19 yJ9_max_7cf53 := Or.inl lkm_X2_19
theorem sm_J9_max_7cf53 : Cond.static yJ9_max_7cf53 ∈ lw_g := List.mem_filter.mpr ⟨List.mem_of_getElem? (i := 353) (by decide +kernel), by decide +kernel⟩
theorem cm_J9_max_7cf53 : CM uJ9_max_7cf53 2 := ⟨code_J9_max_7cf53, ini_J9, ⟨by decide +kernel, by decide +kernel⟩, by decide +kernel, by decide⟩
theorem lkm_X5_53 : Cond.methodLink RX5 53 yX5_noted ∈ lw_g := List.mem_filter.mpr ⟨List.mem_of_getElem? (i := 355) (by decide +kernel), by decide +kernel⟩
theorem lk_X5_53 : LK RX5 53 yX5_noted := Or.inl lkm_X5_53
theorem im_X5_noted : Cond.instanceMethod yX5_noted ∈ lw_g := List.mem_filter.mpr ⟨List.mem_of_getElem? (i := 357) (by decide +kernel), by decide +kernel⟩
theorem cm_X5_noted : CM uX5_noted 4 := ⟨code_X5_noted, ini_X5, ⟨by decide +kernel, by decide +kernel⟩, by decide +kernel, by decide⟩
theorem lk_X5_212 : LK RX5 212 yX1_add := Or.inr ⟨"FairWheel", List.mem_filter.mpr ⟨List.mem_of_getElem? (i := 359) (by decide +kernel), by decide +kernel⟩⟩
theorem im_X1_add : Cond.instanceMethod yX1_add ∈ lw_g := List.mem_filter.mpr ⟨List.mem_of_getElem? (i := 361) (by decide +kernel), by decide +kernel⟩
theorem cm_X1_add : CM uX1_add 4 := ⟨code_X1_add, ini_X1, ⟨by decide +kernel, by decide +kernel⟩, by decide +kernel, by decide⟩
theorem lkm_X1_25 : Cond.methodLink RX1 25 yJ9_min_7cf53 ∈ lw_g := List.mem_filter.mpr ⟨List.mem_of_getElem? (i := 363) (by decide +kernel), by decide +kernel⟩
theorem lk_X1_25 : LK RX1 25 yJ9_min_7cf53 := Or.inl lkm_X1_25
theorem sm_J9_min_7cf53 : Cond.static yJ9_min_7cf53 ∈ lw_g := List.mem_filter.mpr ⟨List.mem_of_getElem? (i := 364) (by decide +kernel), by decide +kernel⟩
theorem cm_J9_min_7cf53 : CM uJ9_min_7cf53 2 := ⟨code_J9_min_7cf53, ini_J9, ⟨by decide +kernel, by decide +kernel⟩, by decide +kernel, by decide⟩
theorem lkm_X1_31 : Cond.methodLink RX1 31 yJ7_copyOf_c38d5 ∈ lw_g := List.mem_filter.mpr ⟨List.mem_of_getElem? (i := 366) (by decide +kernel), by decide +kernel⟩
theorem lk_X1_31 : LK RX1 31 yJ7_copyOf_c38d5 := Or.inl lkm_X1_31
theorem sm_J7_copyOf_c38d5 : Cond.static yJ7_copyOf_c38d5 ∈ lw_g := List.mem_filter.mpr ⟨List.mem_of_getElem? (i := 367) (by decide +kernel), by decide +kernel⟩
theorem cm_J7_copyOf_c38d5 : CM uJ7_copyOf_c38d5 2 := ⟨code_J7_copyOf_c38d5, ini_J7, ⟨by decide +kernel, by decide +kernel⟩, by decide +kernel, by decide⟩
theorem lkm_J7_319 : Cond.methodLink RJ7 319 (⟨"[J", "clone", "()Ljava/lang/Object;"⟩ : MethodName) ∈ lw_g := List.mem_filter.mpr ⟨List.mem_of_getElem? (i := 369) (by decide +kernel), by decide +kernel⟩
theorem lk_J7_319 : LK RJ7 319 (⟨"[J", "clone", "()Ljava/lang/Object;"⟩ : MethodName) := Or.inl lkm_J7_319
theorem nat_u263 : Cond.native (⟨"java/lang/Object", "clone", "()Ljava/lang/Object;"⟩ : MethodName) ∈ lw_g := List.mem_filter.mpr ⟨List.mem_of_getElem? (i := 371) (by decide +kernel), by decide +kernel⟩
theorem im_u264 : Cond.instanceMethod (⟨"java/lang/Object", "clone", "()Ljava/lang/Object;"⟩ : MethodName) ∈ lw_g := List.mem_filter.mpr ⟨List.mem_of_getElem? (i := 372) (by decide +kernel), by decide +kernel⟩
theorem lkm_J7_304 : Cond.methodLink RJ7 304 yJ9_min_7cf53 ∈ lw_g := List.mem_filter.mpr ⟨List.mem_of_getElem? (i := 376) (by decide +kernel), by decide +kernel⟩
theorem lk_J7_304 : LK RJ7 304 yJ9_min_7cf53 := Or.inl lkm_J7_304
theorem lkm_J7_150 : Cond.methodLink RJ7 150 (⟨"java/lang/System", "arraycopy", "(Ljava/lang/Object;ILjava/lang/Object;II)V"⟩ : MethodName) ∈ lw_g := List.mem_filter.mpr ⟨List.mem_of_getElem? (i := 377) (by decide +kernel), by decide +kernel⟩
theorem lk_J7_150 : LK RJ7 150 (⟨"java/lang/System", "arraycopy", "(Ljava/lang/Object;ILjava/lang/Object;II)V"⟩ : MethodName) := Or.inl lkm_J7_150
theorem sm_arraycopy : Cond.static (⟨"java/lang/System", "arraycopy", "(Ljava/lang/Object;ILjava/lang/Object;II)V"⟩ : MethodName) ∈ lw_g := List.mem_filter.mpr ⟨List.mem_of_getElem? (i := 378) (by decide +kernel), by decide +kernel⟩
theorem nat_arraycopy : Cond.native (⟨"java/lang/System", "arraycopy", "(Ljava/lang/Object;ILjava/lang/Object;II)V"⟩ : MethodName) ∈ lw_g := List.mem_filter.mpr ⟨List.mem_of_getElem? (i := 379) (by decide +kernel), by decide +kernel⟩
theorem lk_X5_57 : LK RX5 57 yX2_extend := Or.inr ⟨"FairWheel", List.mem_filter.mpr ⟨List.mem_of_getElem? (i := 380) (by decide +kernel), by decide +kernel⟩⟩
theorem im_X2_extend : Cond.instanceMethod yX2_extend ∈ lw_g := List.mem_filter.mpr ⟨List.mem_of_getElem? (i := 382) (by decide +kernel), by decide +kernel⟩
theorem cm_X2_extend : CM uX2_extend 2 := ⟨code_X2_extend, ini_X2, ⟨by decide +kernel, by decide +kernel⟩, by decide +kernel, by decide⟩
theorem lkm_X2_31 : Cond.methodLink RX2 31 yX2_length ∈ lw_g := List.mem_filter.mpr ⟨List.mem_of_getElem? (i := 384) (by decide +kernel), by decide +kernel⟩
theorem lk_X2_31 : LK RX2 31 yX2_length := Or.inl lkm_X2_31
theorem lkm_X2_35 : Cond.methodLink RX2 35 yJ9_min_7cf53 ∈ lw_g := List.mem_filter.mpr ⟨List.mem_of_getElem? (i := 385) (by decide +kernel), by decide +kernel⟩
theorem lk_X2_35 : LK RX2 35 yJ9_min_7cf53 := Or.inl lkm_X2_35
theorem lkm_X2_38 : Cond.methodLink RX2 38 yJ7_copyOf_9075b ∈ lw_g := List.mem_filter.mpr ⟨List.mem_of_getElem? (i := 386) (by decide +kernel), by decide +kernel⟩
theorem lk_X2_38 : LK RX2 38 yJ7_copyOf_9075b := Or.inl lkm_X2_38
theorem sm_J7_copyOf_9075b : Cond.static yJ7_copyOf_9075b ∈ lw_g := List.mem_filter.mpr ⟨List.mem_of_getElem? (i := 387) (by decide +kernel), by decide +kernel⟩
theorem cm_J7_copyOf_9075b : CM uJ7_copyOf_9075b 2 := ⟨code_J7_copyOf_9075b, ini_J7, ⟨by decide +kernel, by decide +kernel⟩, by decide +kernel, by decide⟩
theorem lkm_J7_310 : Cond.methodLink RJ7 310 (⟨"[B", "clone", "()Ljava/lang/Object;"⟩ : MethodName) ∈ lw_g := List.mem_filter.mpr ⟨List.mem_of_getElem? (i := 389) (by decide +kernel), by decide +kernel⟩
theorem lk_J7_310 : LK RJ7 310 (⟨"[B", "clone", "()Ljava/lang/Object;"⟩ : MethodName) := Or.inl lkm_J7_310
theorem lkm_L_20 : Cond.methodLink RL 20 yX5_task ∈ lw_g := List.mem_filter.mpr ⟨List.mem_of_getElem? (i := 394) (by decide +kernel), by decide +kernel⟩
theorem lk_L_20 : LK RL 20 yX5_task := Or.inl lkm_L_20
theorem im_X5_task : Cond.instanceMethod yX5_task ∈ lw_g := List.mem_filter.mpr ⟨List.mem_of_getElem? (i := 395) (by decide +kernel), by decide +kernel⟩
theorem sel_X5_task : Cond.selects RX5 yX5_task yX5_task ∈ lw_g := List.mem_filter.mpr ⟨List.mem_of_getElem? (i := 396) (by decide +kernel), by decide +kernel⟩
theorem cm_X5_task : CM uX5_task 3 := ⟨code_X5_task, ini_X5, ⟨by decide +kernel, by decide +kernel⟩, by decide +kernel, by decide⟩
theorem lkm_X5_61 : Cond.methodLink RX5 61 yX5_isShare ∈ lw_g := List.mem_filter.mpr ⟨List.mem_of_getElem? (i := 398) (by decide +kernel), by decide +kernel⟩
theorem lk_X5_61 : LK RX5 61 yX5_isShare := Or.inl lkm_X5_61
theorem sm_X5_isShare : Cond.static yX5_isShare ∈ lw_g := List.mem_filter.mpr ⟨List.mem_of_getElem? (i := 399) (by decide +kernel), by decide +kernel⟩
theorem cm_X5_isShare : CM uX5_isShare 1 := ⟨code_X5_isShare, ini_X5, ⟨by decide +kernel, by decide +kernel⟩, by decide +kernel, by decide⟩
theorem lk_X5_68 : LK RX5 68 yX0_addTask := Or.inr ⟨"FairWheel", List.mem_filter.mpr ⟨List.mem_of_getElem? (i := 401) (by decide +kernel), by decide +kernel⟩⟩
theorem im_X0_addTask : Cond.instanceMethod yX0_addTask ∈ lw_g := List.mem_filter.mpr ⟨List.mem_of_getElem? (i := 403) (by decide +kernel), by decide +kernel⟩
theorem cm_X0_addTask : CM uX0_addTask 3 := ⟨code_X0_addTask, ini_X0, ⟨by decide +kernel, by decide +kernel⟩, by decide +kernel, by decide⟩
theorem lkm_X0_96 : Cond.methodLink RX0 96 yX0_leastVirtual ∈ lw_g := List.mem_filter.mpr ⟨List.mem_of_getElem? (i := 405) (by decide +kernel), by decide +kernel⟩
theorem lk_X0_96 : LK RX0 96 yX0_leastVirtual := Or.inl lkm_X0_96
theorem im_X0_leastVirtual : Cond.instanceMethod yX0_leastVirtual ∈ lw_g := List.mem_filter.mpr ⟨List.mem_of_getElem? (i := 407) (by decide +kernel), by decide +kernel⟩
theorem cm_X0_leastVirtual : CM uX0_leastVirtual 0 := ⟨code_X0_leastVirtual, ini_X0, ⟨by decide +kernel, by decide +kernel⟩, by decide +kernel, by decide⟩
theorem lk_X0_100 : LK RX0 100 yX4_begin := Or.inr ⟨"FairWheel", List.mem_filter.mpr ⟨List.mem_of_getElem? (i := 409) (by decide +kernel), by decide +kernel⟩⟩
theorem im_X4_begin : Cond.instanceMethod yX4_begin ∈ lw_g := List.mem_filter.mpr ⟨List.mem_of_getElem? (i := 411) (by decide +kernel), by decide +kernel⟩
theorem cm_X4_begin : CM uX4_begin 4 := ⟨code_X4_begin, ini_X4, ⟨by decide +kernel, by decide +kernel⟩, by decide +kernel, by decide⟩
theorem lk_X0_104 : LK RX0 104 yX4_startPeriod := Or.inr ⟨"FairWheel", List.mem_filter.mpr ⟨List.mem_of_getElem? (i := 413) (by decide +kernel), by decide +kernel⟩⟩
theorem im_X4_startPeriod : Cond.instanceMethod yX4_startPeriod ∈ lw_g := List.mem_filter.mpr ⟨List.mem_of_getElem? (i := 415) (by decide +kernel), by decide +kernel⟩
theorem cm_X4_startPeriod : CM uX4_startPeriod 3 := ⟨code_X4_startPeriod, ini_X4, ⟨by decide +kernel, by decide +kernel⟩, by decide +kernel, by decide⟩
theorem lkm_L_25 : Cond.methodLink RL 25 yX5_share ∈ lw_g := List.mem_filter.mpr ⟨List.mem_of_getElem? (i := 417) (by decide +kernel), by decide +kernel⟩
theorem lk_L_25 : LK RL 25 yX5_share := Or.inl lkm_L_25
theorem im_X5_share : Cond.instanceMethod yX5_share ∈ lw_g := List.mem_filter.mpr ⟨List.mem_of_getElem? (i := 418) (by decide +kernel), by decide +kernel⟩
theorem sel_X5_share : Cond.selects RX5 yX5_share yX5_share ∈ lw_g := List.mem_filter.mpr ⟨List.mem_of_getElem? (i := 419) (by decide +kernel), by decide +kernel⟩
theorem cm_X5_share : CM uX5_share 2 := ⟨code_X5_share, ini_X5, ⟨by decide +kernel, by decide +kernel⟩, by decide +kernel, by decide⟩
theorem lk_X5_72 : LK RX5 72 yX0_unendedTask := Or.inr ⟨"FairWheel", List.mem_filter.mpr ⟨List.mem_of_getElem? (i := 421) (by decide +kernel), by decide +kernel⟩⟩
theorem im_X0_unendedTask : Cond.instanceMethod yX0_unendedTask ∈ lw_g := List.mem_filter.mpr ⟨List.mem_of_getElem? (i := 423) (by decide +kernel), by decide +kernel⟩
theorem cm_X0_unendedTask : CM uX0_unendedTask 1 := ⟨code_X0_unendedTask, ini_X0, ⟨by decide +kernel, by decide +kernel⟩, by decide +kernel, by decide⟩
theorem lkm_X0_89 : Cond.methodLink RX0 89 yX0_taskAt ∈ lw_g := List.mem_filter.mpr ⟨List.mem_of_getElem? (i := 425) (by decide +kernel), by decide +kernel⟩
theorem lk_X0_89 : LK RX0 89 yX0_taskAt := Or.inl lkm_X0_89
theorem im_X0_taskAt : Cond.instanceMethod yX0_taskAt ∈ lw_g := List.mem_filter.mpr ⟨List.mem_of_getElem? (i := 427) (by decide +kernel), by decide +kernel⟩
theorem cm_X0_taskAt : CM uX0_taskAt 1 := ⟨code_X0_taskAt, ini_X0, ⟨by decide +kernel, by decide +kernel⟩, by decide +kernel, by decide⟩
theorem lk_X5_76 : LK RX5 76 yX4_changeShare := Or.inr ⟨"FairWheel", List.mem_filter.mpr ⟨List.mem_of_getElem? (i := 429) (by decide +kernel), by decide +kernel⟩⟩
theorem im_X4_changeShare : Cond.instanceMethod yX4_changeShare ∈ lw_g := List.mem_filter.mpr ⟨List.mem_of_getElem? (i := 431) (by decide +kernel), by decide +kernel⟩
theorem cm_X4_changeShare : CM uX4_changeShare 1 := ⟨code_X4_changeShare, ini_X4, ⟨by decide +kernel, by decide +kernel⟩, by decide +kernel, by decide⟩
theorem lkm_X4_89 : Cond.methodLink RX4 89 yJ9_min_7cf53 ∈ lw_g := List.mem_filter.mpr ⟨List.mem_of_getElem? (i := 433) (by decide +kernel), by decide +kernel⟩
theorem lk_X4_89 : LK RX4 89 yJ9_min_7cf53 := Or.inl lkm_X4_89
theorem lkm_L_30 : Cond.methodLink RL 30 yX5_deadline ∈ lw_g := List.mem_filter.mpr ⟨List.mem_of_getElem? (i := 434) (by decide +kernel), by decide +kernel⟩
theorem lk_L_30 : LK RL 30 yX5_deadline := Or.inl lkm_L_30
theorem im_X5_deadline : Cond.instanceMethod yX5_deadline ∈ lw_g := List.mem_filter.mpr ⟨List.mem_of_getElem? (i := 435) (by decide +kernel), by decide +kernel⟩
theorem sel_X5_deadline : Cond.selects RX5 yX5_deadline yX5_deadline ∈ lw_g := List.mem_filter.mpr ⟨List.mem_of_getElem? (i := 436) (by decide +kernel), by decide +kernel⟩
theorem cm_X5_deadline : CM uX5_deadline 3 := ⟨code_X5_deadline, ini_X5, ⟨by decide +kernel, by decide +kernel⟩, by decide +kernel, by decide⟩
theorem lk_X5_81 : LK RX5 81 yX4_hasDeadline := Or.inr ⟨"FairWheel", List.mem_filter.mpr ⟨List.mem_of_getElem? (i := 438) (by decide +kernel), by decide +kernel⟩⟩
theorem im_X4_hasDeadline : Cond.instanceMethod yX4_hasDeadline ∈ lw_g := List.mem_filter.mpr ⟨List.mem_of_getElem? (i := 440) (by decide +kernel), by decide +kernel⟩
theorem cm_X4_hasDeadline : CM uX4_hasDeadline 0 := ⟨code_X4_hasDeadline, ini_X4, ⟨by decide +kernel, by decide +kernel⟩, by decide +kernel, by decide⟩
theorem lk_X5_88 : LK RX5 88 yX4_startPeriod := Or.inr ⟨"FairWheel", List.mem_filter.mpr ⟨List.mem_of_getElem? (i := 442) (by decide +kernel), by decide +kernel⟩⟩
theorem lkm_L_35 : Cond.methodLink RL 35 yX5_processors ∈ lw_g := List.mem_filter.mpr ⟨List.mem_of_getElem? (i := 443) (by decide +kernel), by decide +kernel⟩
theorem lk_L_35 : LK RL 35 yX5_processors := Or.inl lkm_L_35
theorem im_X5_processors : Cond.instanceMethod yX5_processors ∈ lw_g := List.mem_filter.mpr ⟨List.mem_of_getElem? (i := 444) (by decide +kernel), by decide +kernel⟩
theorem sel_X5_processors : Cond.selects RX5 yX5_processors yX5_processors ∈ lw_g := List.mem_filter.mpr ⟨List.mem_of_getElem? (i := 445) (by decide +kernel), by decide +kernel⟩
theorem cm_X5_processors : CM uX5_processors 1 := ⟨code_X5_processors, ini_X5, ⟨by decide +kernel, by decide +kernel⟩, by decide +kernel, by decide⟩
theorem lk_X5_92 : LK RX5 92 yX0_changeProcessors := Or.inr ⟨"FairWheel", List.mem_filter.mpr ⟨List.mem_of_getElem? (i := 447) (by decide +kernel), by decide +kernel⟩⟩
theorem im_X0_changeProcessors : Cond.instanceMethod yX0_changeProcessors ∈ lw_g := List.mem_filter.mpr ⟨List.mem_of_getElem? (i := 449) (by decide +kernel), by decide +kernel⟩
theorem cm_X0_changeProcessors : CM uX0_changeProcessors 1 := ⟨code_X0_changeProcessors, ini_X0, ⟨by decide +kernel, by decide +kernel⟩, by decide +kernel, by decide⟩
theorem lkm_L_40 : Cond.methodLink RL 40 yX5_lock ∈ lw_g := List.mem_filter.mpr ⟨List.mem_of_getElem? (i := 451) (by decide +kernel), by decide +kernel⟩
theorem lk_L_40 : LK RL 40 yX5_lock := Or.inl lkm_L_40
theorem im_X5_lock : Cond.instanceMethod yX5_lock ∈ lw_g := List.mem_filter.mpr ⟨List.mem_of_getElem? (i := 452) (by decide +kernel), by decide +kernel⟩
theorem sel_X5_lock : Cond.selects RX5 yX5_lock yX5_lock ∈ lw_g := List.mem_filter.mpr ⟨List.mem_of_getElem? (i := 453) (by decide +kernel), by decide +kernel⟩
theorem cm_X5_lock : CM uX5_lock 1 := ⟨code_X5_lock, ini_X5, ⟨by decide +kernel, by decide +kernel⟩, by decide +kernel, by decide⟩
theorem lk_X5_95 : LK RX5 95 yX0_holderOf := Or.inr ⟨"FairWheel", List.mem_filter.mpr ⟨List.mem_of_getElem? (i := 455) (by decide +kernel), by decide +kernel⟩⟩
theorem im_X0_holderOf : Cond.instanceMethod yX0_holderOf ∈ lw_g := List.mem_filter.mpr ⟨List.mem_of_getElem? (i := 457) (by decide +kernel), by decide +kernel⟩
theorem cm_X0_holderOf : CM uX0_holderOf 1 := ⟨code_X0_holderOf, ini_X0, ⟨by decide +kernel, by decide +kernel⟩, by decide +kernel, by decide⟩
theorem lk_X5_98 : LK RX5 98 yX0_addLock := Or.inr ⟨"FairWheel", List.mem_filter.mpr ⟨List.mem_of_getElem? (i := 459) (by decide +kernel), by decide +kernel⟩⟩
theorem im_X0_addLock : Cond.instanceMethod yX0_addLock ∈ lw_g := List.mem_filter.mpr ⟨List.mem_of_getElem? (i := 461) (by decide +kernel), by decide +kernel⟩
theorem cm_X0_addLock : CM uX0_addLock 1 := ⟨code_X0_addLock, ini_X0, ⟨by decide +kernel, by decide +kernel⟩, by decide +kernel, by decide⟩
theorem lkm_L_45 : Cond.methodLink RL 45 yX5_ring ∈ lw_g := List.mem_filter.mpr ⟨List.mem_of_getElem? (i := 463) (by decide +kernel), by decide +kernel⟩
theorem lk_L_45 : LK RL 45 yX5_ring := Or.inl lkm_L_45
theorem im_X5_ring : Cond.instanceMethod yX5_ring ∈ lw_g := List.mem_filter.mpr ⟨List.mem_of_getElem? (i := 464) (by decide +kernel), by decide +kernel⟩
theorem sel_X5_ring : Cond.selects RX5 yX5_ring yX5_ring ∈ lw_g := List.mem_filter.mpr ⟨List.mem_of_getElem? (i := 465) (by decide +kernel), by decide +kernel⟩
theorem cm_X5_ring : CM uX5_ring 1 := ⟨code_X5_ring, ini_X5, ⟨by decide +kernel, by decide +kernel⟩, by decide +kernel, by decide⟩
theorem lk_X5_102 : LK RX5 102 yX0_ringBell := Or.inr ⟨"FairWheel", List.mem_filter.mpr ⟨List.mem_of_getElem? (i := 467) (by decide +kernel), by decide +kernel⟩⟩
theorem im_X0_ringBell : Cond.instanceMethod yX0_ringBell ∈ lw_g := List.mem_filter.mpr ⟨List.mem_of_getElem? (i := 469) (by decide +kernel), by decide +kernel⟩
theorem cm_X0_ringBell : CM uX0_ringBell 1 := ⟨code_X0_ringBell, ini_X0, ⟨by decide +kernel, by decide +kernel⟩, by decide +kernel, by decide⟩
theorem lk_X0_118 : LK RX0 118 yX4_wake := Or.inr ⟨"FairWheel", List.mem_filter.mpr ⟨List.mem_of_getElem? (i := 471) (by decide +kernel), by decide +kernel⟩⟩
theorem im_X4_wake : Cond.instanceMethod yX4_wake ∈ lw_g := List.mem_filter.mpr ⟨List.mem_of_getElem? (i := 473) (by decide +kernel), by decide +kernel⟩
theorem cm_X4_wake : CM uX4_wake 0 := ⟨code_X4_wake, ini_X4, ⟨by decide +kernel, by decide +kernel⟩, by decide +kernel, by decide⟩
theorem lkm_L_49 : Cond.methodLink RL 49 yX5_run ∈ lw_g := List.mem_filter.mpr ⟨List.mem_of_getElem? (i := 475) (by decide +kernel), by decide +kernel⟩
theorem lk_L_49 : LK RL 49 yX5_run := Or.inl lkm_L_49
theorem im_X5_run : Cond.instanceMethod yX5_run ∈ lw_g := List.mem_filter.mpr ⟨List.mem_of_getElem? (i := 476) (by decide +kernel), by decide +kernel⟩
theorem sel_X5_run : Cond.selects RX5 yX5_run yX5_run ∈ lw_g := List.mem_filter.mpr ⟨List.mem_of_getElem? (i := 477) (by decide +kernel), by decide +kernel⟩
theorem cm_X5_run : CM uX5_run 1 := ⟨code_X5_run, ini_X5, ⟨by decide +kernel, by decide +kernel⟩, by decide +kernel, by decide⟩
theorem lk_X5_105 : LK RX5 105 yX0_goOn := Or.inr ⟨"FairWheel", List.mem_filter.mpr ⟨List.mem_of_getElem? (i := 479) (by decide +kernel), by decide +kernel⟩⟩
theorem im_X0_goOn : Cond.instanceMethod yX0_goOn ∈ lw_g := List.mem_filter.mpr ⟨List.mem_of_getElem? (i := 481) (by decide +kernel), by decide +kernel⟩
theorem cm_X0_goOn : CM uX0_goOn 1 := ⟨code_X0_goOn, ini_X0, ⟨by decide +kernel, by decide +kernel⟩, by decide +kernel, by decide⟩
theorem lk_X0_121 : LK RX0 121 yX3_haveRoom := Or.inr ⟨"FairWheel", List.mem_filter.mpr ⟨List.mem_of_getElem? (i := 483) (by decide +kernel), by decide +kernel⟩⟩
theorem im_X3_haveRoom : Cond.instanceMethod yX3_haveRoom ∈ lw_g := List.mem_filter.mpr ⟨List.mem_of_getElem? (i := 485) (by decide +kernel), by decide +kernel⟩
theorem cm_X3_haveRoom : CM uX3_haveRoom 0 := ⟨code_X3_haveRoom, ini_X3, ⟨by decide +kernel, by decide +kernel⟩, by decide +kernel, by decide⟩
theorem lkm_X0_125 : Cond.methodLink RX0 125 yX0_quietTicks ∈ lw_g := List.mem_filter.mpr ⟨List.mem_of_getElem? (i := 487) (by decide +kernel), by decide +kernel⟩
theorem lk_X0_125 : LK RX0 125 yX0_quietTicks := Or.inl lkm_X0_125
theorem im_X0_quietTicks : Cond.instanceMethod yX0_quietTicks ∈ lw_g := List.mem_filter.mpr ⟨List.mem_of_getElem? (i := 489) (by decide +kernel), by decide +kernel⟩
theorem cm_X0_quietTicks : CM uX0_quietTicks 1 := ⟨code_X0_quietTicks, ini_X0, ⟨by decide +kernel, by decide +kernel⟩, by decide +kernel, by decide⟩
theorem lkm_X0_141 : Cond.methodLink RX0 141 yJ9_min_7cf53 ∈ lw_g := List.mem_filter.mpr ⟨List.mem_of_getElem? (i := 491) (by decide +kernel), by decide +kernel⟩
theorem lk_X0_141 : LK RX0 141 yJ9_min_7cf53 := Or.inl lkm_X0_141
theorem lk_X0_147 : LK RX0 147 yX4_hasDeadline := Or.inr ⟨"FairWheel", List.mem_filter.mpr ⟨List.mem_of_getElem? (i := 492) (by decide +kernel), by decide +kernel⟩⟩
theorem lkm_X0_129 : Cond.methodLink RX0 129 yX0_wakeAndRefill ∈ lw_g := List.mem_filter.mpr ⟨List.mem_of_getElem? (i := 493) (by decide +kernel), by decide +kernel⟩
theorem lk_X0_129 : LK RX0 129 yX0_wakeAndRefill := Or.inl lkm_X0_129
theorem im_X0_wakeAndRefill : Cond.instanceMethod yX0_wakeAndRefill ∈ lw_g := List.mem_filter.mpr ⟨List.mem_of_getElem? (i := 495) (by decide +kernel), by decide +kernel⟩
theorem cm_X0_wakeAndRefill : CM uX0_wakeAndRefill 0 := ⟨code_X0_wakeAndRefill, ini_X0, ⟨by decide +kernel, by decide +kernel⟩, by decide +kernel, by decide⟩
theorem lkm_X0_132 : Cond.methodLink RX0 132 yX0_choose ∈ lw_g := List.mem_filter.mpr ⟨List.mem_of_getElem? (i := 497) (by decide +kernel), by decide +kernel⟩
theorem lk_X0_132 : LK RX0 132 yX0_choose := Or.inl lkm_X0_132
theorem im_X0_choose : Cond.instanceMethod yX0_choose ∈ lw_g := List.mem_filter.mpr ⟨List.mem_of_getElem? (i := 499) (by decide +kernel), by decide +kernel⟩
theorem cm_X0_choose : CM uX0_choose 0 := ⟨code_X0_choose, ini_X0, ⟨by decide +kernel, by decide +kernel⟩, by decide +kernel, by decide⟩
theorem lkm_X0_159 : Cond.methodLink RX0 159 yX0_settle ∈ lw_g := List.mem_filter.mpr ⟨List.mem_of_getElem? (i := 501) (by decide +kernel), by decide +kernel⟩
theorem lk_X0_159 : LK RX0 159 yX0_settle := Or.inl lkm_X0_159
theorem im_X0_settle : Cond.instanceMethod yX0_settle ∈ lw_g := List.mem_filter.mpr ⟨List.mem_of_getElem? (i := 503) (by decide +kernel), by decide +kernel⟩
theorem cm_X0_settle : CM uX0_settle 0 := ⟨code_X0_settle, ini_X0, ⟨by decide +kernel, by decide +kernel⟩, by decide +kernel, by decide⟩
theorem lk_X0_183 : LK RX0 183 yX4_rank := Or.inr ⟨"FairWheel", List.mem_filter.mpr ⟨List.mem_of_getElem? (i := 505) (by decide +kernel), by decide +kernel⟩⟩
theorem im_X4_rank : Cond.instanceMethod yX4_rank ∈ lw_g := List.mem_filter.mpr ⟨List.mem_of_getElem? (i := 507) (by decide +kernel), by decide +kernel⟩
theorem cm_X4_rank : CM uX4_rank 0 := ⟨code_X4_rank, ini_X4, ⟨by decide +kernel, by decide +kernel⟩, by decide +kernel, by decide⟩
theorem cs_X4_87 : Jvm.Cond.constantLong RX4 87 281474976710656 ∈ lw_g := List.mem_filter.mpr ⟨List.mem_of_getElem? (i := 509) (by decide +kernel), by decide +kernel⟩
theorem lkm_X0_186 : Cond.methodLink RX0 186 yX0_blockerOf ∈ lw_g := List.mem_filter.mpr ⟨List.mem_of_getElem? (i := 510) (by decide +kernel), by decide +kernel⟩
theorem lk_X0_186 : LK RX0 186 yX0_blockerOf := Or.inl lkm_X0_186
theorem im_X0_blockerOf : Cond.instanceMethod yX0_blockerOf ∈ lw_g := List.mem_filter.mpr ⟨List.mem_of_getElem? (i := 512) (by decide +kernel), by decide +kernel⟩
theorem cm_X0_blockerOf : CM uX0_blockerOf 1 := ⟨code_X0_blockerOf, ini_X0, ⟨by decide +kernel, by decide +kernel⟩, by decide +kernel, by decide⟩
theorem cs_X0_162 : Jvm.Cond.constantLong RX0 162 (-1) ∈ lw_g := List.mem_filter.mpr ⟨List.mem_of_getElem? (i := 514) (by decide +kernel), by decide +kernel⟩
theorem lkm_X0_164 : Cond.methodLink RX0 164 yX0_foremostBehind ∈ lw_g := List.mem_filter.mpr ⟨List.mem_of_getElem? (i := 515) (by decide +kernel), by decide +kernel⟩
theorem lk_X0_164 : LK RX0 164 yX0_foremostBehind := Or.inl lkm_X0_164
theorem im_X0_foremostBehind : Cond.instanceMethod yX0_foremostBehind ∈ lw_g := List.mem_filter.mpr ⟨List.mem_of_getElem? (i := 517) (by decide +kernel), by decide +kernel⟩
theorem cm_X0_foremostBehind : CM uX0_foremostBehind 1 := ⟨code_X0_foremostBehind, ini_X0, ⟨by decide +kernel, by decide +kernel⟩, by decide +kernel, by decide⟩
theorem lk_X0_171 : LK RX0 171 yX5_classOf := Or.inr ⟨"FairWheel", List.mem_filter.mpr ⟨List.mem_of_getElem? (i := 519) (by decide +kernel), by decide +kernel⟩⟩
theorem sm_X5_classOf : Cond.static yX5_classOf ∈ lw_g := List.mem_filter.mpr ⟨List.mem_of_getElem? (i := 520) (by decide +kernel), by decide +kernel⟩
theorem cm_X5_classOf : CM uX5_classOf 1 := ⟨code_X5_classOf, ini_X5, ⟨by decide +kernel, by decide +kernel⟩, by decide +kernel, by decide⟩
theorem lk_X0_175 : LK RX0 175 yX5_keyOf := Or.inr ⟨"FairWheel", List.mem_filter.mpr ⟨List.mem_of_getElem? (i := 522) (by decide +kernel), by decide +kernel⟩⟩
theorem sm_X5_keyOf : Cond.static yX5_keyOf ∈ lw_g := List.mem_filter.mpr ⟨List.mem_of_getElem? (i := 523) (by decide +kernel), by decide +kernel⟩
theorem cm_X5_keyOf : CM uX5_keyOf 1 := ⟨code_X5_keyOf, ini_X5, ⟨by decide +kernel, by decide +kernel⟩, by decide +kernel, by decide⟩
theorem cs_X5_218 : Jvm.Cond.constantLong RX5 218 1099511627775 ∈ lw_g := List.mem_filter.mpr ⟨List.mem_of_getElem? (i := 525) (by decide +kernel), by decide +kernel⟩
theorem lk_X0_179 : LK RX0 179 yX3_add := Or.inr ⟨"FairWheel", List.mem_filter.mpr ⟨List.mem_of_getElem? (i := 526) (by decide +kernel), by decide +kernel⟩⟩
theorem im_X3_add : Cond.instanceMethod yX3_add ∈ lw_g := List.mem_filter.mpr ⟨List.mem_of_getElem? (i := 528) (by decide +kernel), by decide +kernel⟩
theorem cm_X3_add : CM uX3_add 5 := ⟨code_X3_add, ini_X3, ⟨by decide +kernel, by decide +kernel⟩, by decide +kernel, by decide⟩
theorem cs_X3_29 : Jvm.Cond.constant RX3 29 40000 ∈ lw_g := List.mem_filter.mpr ⟨List.mem_of_getElem? (i := 530) (by decide +kernel), by decide +kernel⟩
theorem lkm_X3_30 : Cond.methodLink RX3 30 yJ9_min_7cf53 ∈ lw_g := List.mem_filter.mpr ⟨List.mem_of_getElem? (i := 531) (by decide +kernel), by decide +kernel⟩
theorem lk_X3_30 : LK RX3 30 yJ9_min_7cf53 := Or.inl lkm_X3_30
theorem lkm_X3_36 : Cond.methodLink RX3 36 yJ7_copyOf_59c91 ∈ lw_g := List.mem_filter.mpr ⟨List.mem_of_getElem? (i := 532) (by decide +kernel), by decide +kernel⟩
theorem lk_X3_36 : LK RX3 36 yJ7_copyOf_59c91 := Or.inl lkm_X3_36
theorem sm_J7_copyOf_59c91 : Cond.static yJ7_copyOf_59c91 ∈ lw_g := List.mem_filter.mpr ⟨List.mem_of_getElem? (i := 533) (by decide +kernel), by decide +kernel⟩
theorem cm_J7_copyOf_59c91 : CM uJ7_copyOf_59c91 2 := ⟨code_J7_copyOf_59c91, ini_J7, ⟨by decide +kernel, by decide +kernel⟩, by decide +kernel, by decide⟩
theorem lkm_J7_316 : Cond.methodLink RJ7 316 (⟨"[I", "clone", "()Ljava/lang/Object;"⟩ : MethodName) ∈ lw_g := List.mem_filter.mpr ⟨List.mem_of_getElem? (i := 535) (by decide +kernel), by decide +kernel⟩
theorem lk_J7_316 : LK RJ7 316 (⟨"[I", "clone", "()Ljava/lang/Object;"⟩ : MethodName) := Or.inl lkm_J7_316
theorem lkm_X0_135 : Cond.methodLink RX0 135 yX0_turn ∈ lw_g := List.mem_filter.mpr ⟨List.mem_of_getElem? (i := 540) (by decide +kernel), by decide +kernel⟩
theorem lk_X0_135 : LK RX0 135 yX0_turn := Or.inl lkm_X0_135
theorem im_X0_turn : Cond.instanceMethod yX0_turn ∈ lw_g := List.mem_filter.mpr ⟨List.mem_of_getElem? (i := 542) (by decide +kernel), by decide +kernel⟩
theorem cm_X0_turn : CM uX0_turn 1 := ⟨code_X0_turn, ini_X0, ⟨by decide +kernel, by decide +kernel⟩, by decide +kernel, by decide⟩
theorem lkm_X0_190 : Cond.methodLink RX0 190 yX0_pay ∈ lw_g := List.mem_filter.mpr ⟨List.mem_of_getElem? (i := 544) (by decide +kernel), by decide +kernel⟩
theorem lk_X0_190 : LK RX0 190 yX0_pay := Or.inl lkm_X0_190
theorem im_X0_pay : Cond.instanceMethod yX0_pay ∈ lw_g := List.mem_filter.mpr ⟨List.mem_of_getElem? (i := 546) (by decide +kernel), by decide +kernel⟩
theorem cm_X0_pay : CM uX0_pay 1 := ⟨code_X0_pay, ini_X0, ⟨by decide +kernel, by decide +kernel⟩, by decide +kernel, by decide⟩
theorem lk_X0_207 : LK RX0 207 yX4_payOnce := Or.inr ⟨"FairWheel", List.mem_filter.mpr ⟨List.mem_of_getElem? (i := 548) (by decide +kernel), by decide +kernel⟩⟩
theorem im_X4_payOnce : Cond.instanceMethod yX4_payOnce ∈ lw_g := List.mem_filter.mpr ⟨List.mem_of_getElem? (i := 550) (by decide +kernel), by decide +kernel⟩
theorem cm_X4_payOnce : CM uX4_payOnce 0 := ⟨code_X4_payOnce, ini_X4, ⟨by decide +kernel, by decide +kernel⟩, by decide +kernel, by decide⟩
theorem lkm_X0_193 : Cond.methodLink RX0 193 yX0_act ∈ lw_g := List.mem_filter.mpr ⟨List.mem_of_getElem? (i := 552) (by decide +kernel), by decide +kernel⟩
theorem lk_X0_193 : LK RX0 193 yX0_act := Or.inl lkm_X0_193
theorem im_X0_act : Cond.instanceMethod yX0_act ∈ lw_g := List.mem_filter.mpr ⟨List.mem_of_getElem? (i := 554) (by decide +kernel), by decide +kernel⟩
theorem cm_X0_act : CM uX0_act 1 := ⟨code_X0_act, ini_X0, ⟨by decide +kernel, by decide +kernel⟩, by decide +kernel, by decide⟩
theorem lkm_X0_222 : Cond.methodLink RX0 222 yX0_programAt ∈ lw_g := List.mem_filter.mpr ⟨List.mem_of_getElem? (i := 556) (by decide +kernel), by decide +kernel⟩
theorem lk_X0_222 : LK RX0 222 yX0_programAt := Or.inl lkm_X0_222
theorem lkm_X0_229 : Cond.methodLink RX0 229 yX0_readable ∈ lw_g := List.mem_filter.mpr ⟨List.mem_of_getElem? (i := 557) (by decide +kernel), by decide +kernel⟩
theorem lk_X0_229 : LK RX0 229 yX0_readable := Or.inl lkm_X0_229
theorem im_X0_readable : Cond.instanceMethod yX0_readable ∈ lw_g := List.mem_filter.mpr ⟨List.mem_of_getElem? (i := 559) (by decide +kernel), by decide +kernel⟩
theorem cm_X0_readable : CM uX0_readable 2 := ⟨code_X0_readable, ini_X0, ⟨by decide +kernel, by decide +kernel⟩, by decide +kernel, by decide⟩
theorem lk_X0_233 : LK RX0 233 yX2_byteAt := Or.inr ⟨"FairWheel", List.mem_filter.mpr ⟨List.mem_of_getElem? (i := 561) (by decide +kernel), by decide +kernel⟩⟩
theorem im_X2_byteAt : Cond.instanceMethod yX2_byteAt ∈ lw_g := List.mem_filter.mpr ⟨List.mem_of_getElem? (i := 563) (by decide +kernel), by decide +kernel⟩
theorem cm_X2_byteAt : CM uX2_byteAt 1 := ⟨code_X2_byteAt, ini_X2, ⟨by decide +kernel, by decide +kernel⟩, by decide +kernel, by decide⟩
theorem lkm_X0_236 : Cond.methodLink RX0 236 yJ9_max_7cf53 ∈ lw_g := List.mem_filter.mpr ⟨List.mem_of_getElem? (i := 565) (by decide +kernel), by decide +kernel⟩
theorem lk_X0_236 : LK RX0 236 yJ9_max_7cf53 := Or.inl lkm_X0_236
theorem lkm_X0_239 : Cond.methodLink RX0 239 yX0_take ∈ lw_g := List.mem_filter.mpr ⟨List.mem_of_getElem? (i := 566) (by decide +kernel), by decide +kernel⟩
theorem lk_X0_239 : LK RX0 239 yX0_take := Or.inl lkm_X0_239
theorem im_X0_take : Cond.instanceMethod yX0_take ∈ lw_g := List.mem_filter.mpr ⟨List.mem_of_getElem? (i := 568) (by decide +kernel), by decide +kernel⟩
theorem cm_X0_take : CM uX0_take 2 := ⟨code_X0_take, ini_X0, ⟨by decide +kernel, by decide +kernel⟩, by decide +kernel, by decide⟩
theorem lkm_X0_273 : Cond.methodLink RX0 273 yX0_holderOf ∈ lw_g := List.mem_filter.mpr ⟨List.mem_of_getElem? (i := 570) (by decide +kernel), by decide +kernel⟩
theorem lk_X0_273 : LK RX0 273 yX0_holderOf := Or.inl lkm_X0_273
theorem lkm_X0_276 : Cond.methodLink RX0 276 yX0_leadsTo ∈ lw_g := List.mem_filter.mpr ⟨List.mem_of_getElem? (i := 571) (by decide +kernel), by decide +kernel⟩
theorem lk_X0_276 : LK RX0 276 yX0_leadsTo := Or.inl lkm_X0_276
theorem im_X0_leadsTo : Cond.instanceMethod yX0_leadsTo ∈ lw_g := List.mem_filter.mpr ⟨List.mem_of_getElem? (i := 573) (by decide +kernel), by decide +kernel⟩
theorem cm_X0_leadsTo : CM uX0_leadsTo 2 := ⟨code_X0_leadsTo, ini_X0, ⟨by decide +kernel, by decide +kernel⟩, by decide +kernel, by decide⟩
theorem lkm_X0_280 : Cond.methodLink RX0 280 yX0_keepRing ∈ lw_g := List.mem_filter.mpr ⟨List.mem_of_getElem? (i := 575) (by decide +kernel), by decide +kernel⟩
theorem lk_X0_280 : LK RX0 280 yX0_keepRing := Or.inl lkm_X0_280
theorem im_X0_keepRing : Cond.instanceMethod yX0_keepRing ∈ lw_g := List.mem_filter.mpr ⟨List.mem_of_getElem? (i := 577) (by decide +kernel), by decide +kernel⟩
theorem cm_X0_keepRing : CM uX0_keepRing 2 := ⟨code_X0_keepRing, ini_X0, ⟨by decide +kernel, by decide +kernel⟩, by decide +kernel, by decide⟩
theorem lkm_X0_283 : Cond.methodLink RX0 283 yX0_beginWait ∈ lw_g := List.mem_filter.mpr ⟨List.mem_of_getElem? (i := 579) (by decide +kernel), by decide +kernel⟩
theorem lk_X0_283 : LK RX0 283 yX0_beginWait := Or.inl lkm_X0_283
theorem im_X0_beginWait : Cond.instanceMethod yX0_beginWait ∈ lw_g := List.mem_filter.mpr ⟨List.mem_of_getElem? (i := 581) (by decide +kernel), by decide +kernel⟩
theorem cm_X0_beginWait : CM uX0_beginWait 2 := ⟨code_X0_beginWait, ini_X0, ⟨by decide +kernel, by decide +kernel⟩, by decide +kernel, by decide⟩
theorem lkm_X0_243 : Cond.methodLink RX0 243 yX0_give ∈ lw_g := List.mem_filter.mpr ⟨List.mem_of_getElem? (i := 583) (by decide +kernel), by decide +kernel⟩
theorem lk_X0_243 : LK RX0 243 yX0_give := Or.inl lkm_X0_243
theorem im_X0_give : Cond.instanceMethod yX0_give ∈ lw_g := List.mem_filter.mpr ⟨List.mem_of_getElem? (i := 585) (by decide +kernel), by decide +kernel⟩
theorem cm_X0_give : CM uX0_give 2 := ⟨code_X0_give, ini_X0, ⟨by decide +kernel, by decide +kernel⟩, by decide +kernel, by decide⟩
theorem lkm_X0_213 : Cond.methodLink RX0 213 yX0_handOver ∈ lw_g := List.mem_filter.mpr ⟨List.mem_of_getElem? (i := 587) (by decide +kernel), by decide +kernel⟩
theorem lk_X0_213 : LK RX0 213 yX0_handOver := Or.inl lkm_X0_213
theorem im_X0_handOver : Cond.instanceMethod yX0_handOver ∈ lw_g := List.mem_filter.mpr ⟨List.mem_of_getElem? (i := 589) (by decide +kernel), by decide +kernel⟩
theorem cm_X0_handOver : CM uX0_handOver 1 := ⟨code_X0_handOver, ini_X0, ⟨by decide +kernel, by decide +kernel⟩, by decide +kernel, by decide⟩
theorem lkm_X0_246 : Cond.methodLink RX0 246 yX0_waitForBell ∈ lw_g := List.mem_filter.mpr ⟨List.mem_of_getElem? (i := 591) (by decide +kernel), by decide +kernel⟩
theorem lk_X0_246 : LK RX0 246 yX0_waitForBell := Or.inl lkm_X0_246
theorem im_X0_waitForBell : Cond.instanceMethod yX0_waitForBell ∈ lw_g := List.mem_filter.mpr ⟨List.mem_of_getElem? (i := 593) (by decide +kernel), by decide +kernel⟩
theorem cm_X0_waitForBell : CM uX0_waitForBell 2 := ⟨code_X0_waitForBell, ini_X0, ⟨by decide +kernel, by decide +kernel⟩, by decide +kernel, by decide⟩
theorem lkm_X0_249 : Cond.methodLink RX0 249 yX0_ringFrom ∈ lw_g := List.mem_filter.mpr ⟨List.mem_of_getElem? (i := 595) (by decide +kernel), by decide +kernel⟩
theorem lk_X0_249 : LK RX0 249 yX0_ringFrom := Or.inl lkm_X0_249
theorem im_X0_ringFrom : Cond.instanceMethod yX0_ringFrom ∈ lw_g := List.mem_filter.mpr ⟨List.mem_of_getElem? (i := 597) (by decide +kernel), by decide +kernel⟩
theorem cm_X0_ringFrom : CM uX0_ringFrom 1 := ⟨code_X0_ringFrom, ini_X0, ⟨by decide +kernel, by decide +kernel⟩, by decide +kernel, by decide⟩
theorem lkm_X0_286 : Cond.methodLink RX0 286 yX0_ringBell ∈ lw_g := List.mem_filter.mpr ⟨List.mem_of_getElem? (i := 599) (by decide +kernel), by decide +kernel⟩
theorem lk_X0_286 : LK RX0 286 yX0_ringBell := Or.inl lkm_X0_286
theorem lkm_X0_252 : Cond.methodLink RX0 252 yX0_sleep ∈ lw_g := List.mem_filter.mpr ⟨List.mem_of_getElem? (i := 600) (by decide +kernel), by decide +kernel⟩
theorem lk_X0_252 : LK RX0 252 yX0_sleep := Or.inl lkm_X0_252
theorem im_X0_sleep : Cond.instanceMethod yX0_sleep ∈ lw_g := List.mem_filter.mpr ⟨List.mem_of_getElem? (i := 602) (by decide +kernel), by decide +kernel⟩
theorem cm_X0_sleep : CM uX0_sleep 2 := ⟨code_X0_sleep, ini_X0, ⟨by decide +kernel, by decide +kernel⟩, by decide +kernel, by decide⟩
theorem lkm_X0_255 : Cond.methodLink RX0 255 yX0_spawn ∈ lw_g := List.mem_filter.mpr ⟨List.mem_of_getElem? (i := 604) (by decide +kernel), by decide +kernel⟩
theorem lk_X0_255 : LK RX0 255 yX0_spawn := Or.inl lkm_X0_255
theorem im_X0_spawn : Cond.instanceMethod yX0_spawn ∈ lw_g := List.mem_filter.mpr ⟨List.mem_of_getElem? (i := 606) (by decide +kernel), by decide +kernel⟩
theorem cm_X0_spawn : CM uX0_spawn 2 := ⟨code_X0_spawn, ini_X0, ⟨by decide +kernel, by decide +kernel⟩, by decide +kernel, by decide⟩
theorem lkm_X0_292 : Cond.methodLink RX0 292 yX0_addTask ∈ lw_g := List.mem_filter.mpr ⟨List.mem_of_getElem? (i := 608) (by decide +kernel), by decide +kernel⟩
theorem lk_X0_292 : LK RX0 292 yX0_addTask := Or.inl lkm_X0_292
theorem lkm_X0_258 : Cond.methodLink RX0 258 yX0_getShorts ∈ lw_g := List.mem_filter.mpr ⟨List.mem_of_getElem? (i := 609) (by decide +kernel), by decide +kernel⟩
theorem lk_X0_258 : LK RX0 258 yX0_getShorts := Or.inl lkm_X0_258
theorem im_X0_getShorts : Cond.instanceMethod yX0_getShorts ∈ lw_g := List.mem_filter.mpr ⟨List.mem_of_getElem? (i := 611) (by decide +kernel), by decide +kernel⟩
theorem cm_X0_getShorts : CM uX0_getShorts 2 := ⟨code_X0_getShorts, ini_X0, ⟨by decide +kernel, by decide +kernel⟩, by decide +kernel, by decide⟩
theorem lk_X0_299 : LK RX0 299 yX4_makeShorts := Or.inr ⟨"FairWheel", List.mem_filter.mpr ⟨List.mem_of_getElem? (i := 613) (by decide +kernel), by decide +kernel⟩⟩
theorem im_X4_makeShorts : Cond.instanceMethod yX4_makeShorts ∈ lw_g := List.mem_filter.mpr ⟨List.mem_of_getElem? (i := 615) (by decide +kernel), by decide +kernel⟩
theorem cm_X4_makeShorts : CM uX4_makeShorts 1 := ⟨code_X4_makeShorts, ini_X4, ⟨by decide +kernel, by decide +kernel⟩, by decide +kernel, by decide⟩
theorem lkm_X4_107 : Cond.methodLink RX4 107 yJ7_fill_fb410 ∈ lw_g := List.mem_filter.mpr ⟨List.mem_of_getElem? (i := 617) (by decide +kernel), by decide +kernel⟩
theorem lk_X4_107 : LK RX4 107 yJ7_fill_fb410 := Or.inl lkm_X4_107
theorem sm_J7_fill_fb410 : Cond.static yJ7_fill_fb410 ∈ lw_g := List.mem_filter.mpr ⟨List.mem_of_getElem? (i := 618) (by decide +kernel), by decide +kernel⟩
theorem cm_J7_fill_fb410 : CM uJ7_fill_fb410 2 := ⟨code_J7_fill_fb410, ini_J7, ⟨by decide +kernel, by decide +kernel⟩, by decide +kernel, by decide⟩
theorem lkm_X0_261 : Cond.methodLink RX0 261 yX0_stamp ∈ lw_g := List.mem_filter.mpr ⟨List.mem_of_getElem? (i := 620) (by decide +kernel), by decide +kernel⟩
theorem lk_X0_261 : LK RX0 261 yX0_stamp := Or.inl lkm_X0_261
theorem im_X0_stamp : Cond.instanceMethod yX0_stamp ∈ lw_g := List.mem_filter.mpr ⟨List.mem_of_getElem? (i := 622) (by decide +kernel), by decide +kernel⟩
theorem cm_X0_stamp : CM uX0_stamp 2 := ⟨code_X0_stamp, ini_X0, ⟨by decide +kernel, by decide +kernel⟩, by decide +kernel, by decide⟩
theorem lk_X0_306 : LK RX0 306 yX4_setShort := Or.inr ⟨"FairWheel", List.mem_filter.mpr ⟨List.mem_of_getElem? (i := 624) (by decide +kernel), by decide +kernel⟩⟩
theorem im_X4_setShort : Cond.instanceMethod yX4_setShort ∈ lw_g := List.mem_filter.mpr ⟨List.mem_of_getElem? (i := 626) (by decide +kernel), by decide +kernel⟩
theorem cm_X4_setShort : CM uX4_setShort 2 := ⟨code_X4_setShort, ini_X4, ⟨by decide +kernel, by decide +kernel⟩, by decide +kernel, by decide⟩
theorem lkm_X4_113 : Cond.methodLink RX4 113 yX4_hasShort ∈ lw_g := List.mem_filter.mpr ⟨List.mem_of_getElem? (i := 628) (by decide +kernel), by decide +kernel⟩
theorem lk_X4_113 : LK RX4 113 yX4_hasShort := Or.inl lkm_X4_113
theorem im_X4_hasShort : Cond.instanceMethod yX4_hasShort ∈ lw_g := List.mem_filter.mpr ⟨List.mem_of_getElem? (i := 630) (by decide +kernel), by decide +kernel⟩
theorem cm_X4_hasShort : CM uX4_hasShort 1 := ⟨code_X4_hasShort, ini_X4, ⟨by decide +kernel, by decide +kernel⟩, by decide +kernel, by decide⟩
theorem lkm_X0_310 : Cond.methodLink RX0 310 yX0_findShort ∈ lw_g := List.mem_filter.mpr ⟨List.mem_of_getElem? (i := 632) (by decide +kernel), by decide +kernel⟩
theorem lk_X0_310 : LK RX0 310 yX0_findShort := Or.inl lkm_X0_310
theorem im_X0_findShort : Cond.instanceMethod yX0_findShort ∈ lw_g := List.mem_filter.mpr ⟨List.mem_of_getElem? (i := 634) (by decide +kernel), by decide +kernel⟩
theorem cm_X0_findShort : CM uX0_findShort 2 := ⟨code_X0_findShort, ini_X0, ⟨by decide +kernel, by decide +kernel⟩, by decide +kernel, by decide⟩
theorem lk_X0_302 : LK RX0 302 yX4_hasShort := Or.inr ⟨"FairWheel", List.mem_filter.mpr ⟨List.mem_of_getElem? (i := 636) (by decide +kernel), by decide +kernel⟩⟩
theorem lkm_X0_264 : Cond.methodLink RX0 264 yX0_claim ∈ lw_g := List.mem_filter.mpr ⟨List.mem_of_getElem? (i := 637) (by decide +kernel), by decide +kernel⟩
theorem lk_X0_264 : LK RX0 264 yX0_claim := Or.inl lkm_X0_264
theorem im_X0_claim : Cond.instanceMethod yX0_claim ∈ lw_g := List.mem_filter.mpr ⟨List.mem_of_getElem? (i := 639) (by decide +kernel), by decide +kernel⟩
theorem cm_X0_claim : CM uX0_claim 2 := ⟨code_X0_claim, ini_X0, ⟨by decide +kernel, by decide +kernel⟩, by decide +kernel, by decide⟩
theorem lk_X0_316 : LK RX0 316 yX4_isOf := Or.inr ⟨"FairWheel", List.mem_filter.mpr ⟨List.mem_of_getElem? (i := 641) (by decide +kernel), by decide +kernel⟩⟩
theorem im_X4_isOf : Cond.instanceMethod yX4_isOf ∈ lw_g := List.mem_filter.mpr ⟨List.mem_of_getElem? (i := 643) (by decide +kernel), by decide +kernel⟩
theorem cm_X4_isOf : CM uX4_isOf 1 := ⟨code_X4_isOf, ini_X4, ⟨by decide +kernel, by decide +kernel⟩, by decide +kernel, by decide⟩
theorem lkm_X0_267 : Cond.methodLink RX0 267 yX0_fail ∈ lw_g := List.mem_filter.mpr ⟨List.mem_of_getElem? (i := 645) (by decide +kernel), by decide +kernel⟩
theorem lk_X0_267 : LK RX0 267 yX0_fail := Or.inl lkm_X0_267
theorem im_X0_fail : Cond.instanceMethod yX0_fail ∈ lw_g := List.mem_filter.mpr ⟨List.mem_of_getElem? (i := 647) (by decide +kernel), by decide +kernel⟩
theorem cm_X0_fail : CM uX0_fail 1 := ⟨code_X0_fail, ini_X0, ⟨by decide +kernel, by decide +kernel⟩, by decide +kernel, by decide⟩
theorem lkm_X0_270 : Cond.methodLink RX0 270 yX0_workByShort ∈ lw_g := List.mem_filter.mpr ⟨List.mem_of_getElem? (i := 649) (by decide +kernel), by decide +kernel⟩
theorem lk_X0_270 : LK RX0 270 yX0_workByShort := Or.inl lkm_X0_270
theorem im_X0_workByShort : Cond.instanceMethod yX0_workByShort ∈ lw_g := List.mem_filter.mpr ⟨List.mem_of_getElem? (i := 651) (by decide +kernel), by decide +kernel⟩
theorem cm_X0_workByShort : CM uX0_workByShort 2 := ⟨code_X0_workByShort, ini_X0, ⟨by decide +kernel, by decide +kernel⟩, by decide +kernel, by decide⟩
theorem lk_X0_313 : LK RX0 313 yX4_shortAt := Or.inr ⟨"FairWheel", List.mem_filter.mpr ⟨List.mem_of_getElem? (i := 653) (by decide +kernel), by decide +kernel⟩⟩
theorem im_X4_shortAt : Cond.instanceMethod yX4_shortAt ∈ lw_g := List.mem_filter.mpr ⟨List.mem_of_getElem? (i := 655) (by decide +kernel), by decide +kernel⟩
theorem cm_X4_shortAt : CM uX4_shortAt 1 := ⟨code_X4_shortAt, ini_X4, ⟨by decide +kernel, by decide +kernel⟩, by decide +kernel, by decide⟩
theorem lkm_X0_197 : Cond.methodLink RX0 197 yX0_end ∈ lw_g := List.mem_filter.mpr ⟨List.mem_of_getElem? (i := 657) (by decide +kernel), by decide +kernel⟩
theorem lk_X0_197 : LK RX0 197 yX0_end := Or.inl lkm_X0_197
theorem im_X0_end : Cond.instanceMethod yX0_end ∈ lw_g := List.mem_filter.mpr ⟨List.mem_of_getElem? (i := 659) (by decide +kernel), by decide +kernel⟩
theorem cm_X0_end : CM uX0_end 2 := ⟨code_X0_end, ini_X0, ⟨by decide +kernel, by decide +kernel⟩, by decide +kernel, by decide⟩
theorem ac_short : Cond.arrayClass .short ∈ lw_g := List.mem_filter.mpr ⟨List.mem_of_getElem? (i := 661) (by decide +kernel), by decide +kernel⟩
theorem lkm_L_53 : Cond.methodLink RL 53 yX5_chosen ∈ lw_g := List.mem_filter.mpr ⟨List.mem_of_getElem? (i := 662) (by decide +kernel), by decide +kernel⟩
theorem lk_L_53 : LK RL 53 yX5_chosen := Or.inl lkm_L_53
theorem im_X5_chosen : Cond.instanceMethod yX5_chosen ∈ lw_g := List.mem_filter.mpr ⟨List.mem_of_getElem? (i := 663) (by decide +kernel), by decide +kernel⟩
theorem sel_X5_chosen : Cond.selects RX5 yX5_chosen yX5_chosen ∈ lw_g := List.mem_filter.mpr ⟨List.mem_of_getElem? (i := 664) (by decide +kernel), by decide +kernel⟩
theorem cm_X5_chosen : CM uX5_chosen 1 := ⟨code_X5_chosen, ini_X5, ⟨by decide +kernel, by decide +kernel⟩, by decide +kernel, by decide⟩
theorem lkm_L_57 : Cond.methodLink RL 57 yX5_about ∈ lw_g := List.mem_filter.mpr ⟨List.mem_of_getElem? (i := 666) (by decide +kernel), by decide +kernel⟩
theorem lk_L_57 : LK RL 57 yX5_about := Or.inl lkm_L_57
theorem im_X5_about : Cond.instanceMethod yX5_about ∈ lw_g := List.mem_filter.mpr ⟨List.mem_of_getElem? (i := 667) (by decide +kernel), by decide +kernel⟩
theorem sel_X5_about : Cond.selects RX5 yX5_about yX5_about ∈ lw_g := List.mem_filter.mpr ⟨List.mem_of_getElem? (i := 668) (by decide +kernel), by decide +kernel⟩
theorem cm_X5_about : CM uX5_about 2 := ⟨code_X5_about, ini_X5, ⟨by decide +kernel, by decide +kernel⟩, by decide +kernel, by decide⟩
theorem lk_X5_112 : LK RX5 112 yX0_taskAt := Or.inr ⟨"FairWheel", List.mem_filter.mpr ⟨List.mem_of_getElem? (i := 670) (by decide +kernel), by decide +kernel⟩⟩
theorem lk_X5_115 : LK RX5 115 yX4_tell := Or.inr ⟨"FairWheel", List.mem_filter.mpr ⟨List.mem_of_getElem? (i := 671) (by decide +kernel), by decide +kernel⟩⟩
theorem im_X4_tell : Cond.instanceMethod yX4_tell ∈ lw_g := List.mem_filter.mpr ⟨List.mem_of_getElem? (i := 673) (by decide +kernel), by decide +kernel⟩
theorem cm_X4_tell : CM uX4_tell 1 := ⟨code_X4_tell, ini_X4, ⟨by decide +kernel, by decide +kernel⟩, by decide +kernel, by decide⟩
theorem lkm_X4_117 : Cond.methodLink RX4 117 yX4_hasDeadline ∈ lw_g := List.mem_filter.mpr ⟨List.mem_of_getElem? (i := 675) (by decide +kernel), by decide +kernel⟩
theorem lk_X4_117 : LK RX4 117 yX4_hasDeadline := Or.inl lkm_X4_117
theorem lkm_L_61 : Cond.methodLink RL 61 yX5_virtual ∈ lw_g := List.mem_filter.mpr ⟨List.mem_of_getElem? (i := 676) (by decide +kernel), by decide +kernel⟩
theorem lk_L_61 : LK RL 61 yX5_virtual := Or.inl lkm_L_61
theorem im_X5_virtual : Cond.instanceMethod yX5_virtual ∈ lw_g := List.mem_filter.mpr ⟨List.mem_of_getElem? (i := 677) (by decide +kernel), by decide +kernel⟩
theorem sel_X5_virtual : Cond.selects RX5 yX5_virtual yX5_virtual ∈ lw_g := List.mem_filter.mpr ⟨List.mem_of_getElem? (i := 678) (by decide +kernel), by decide +kernel⟩
theorem cm_X5_virtual : CM uX5_virtual 1 := ⟨code_X5_virtual, ini_X5, ⟨by decide +kernel, by decide +kernel⟩, by decide +kernel, by decide⟩
theorem cs_X5_118 : Jvm.Cond.constantLong RX5 118 (-1) ∈ lw_g := List.mem_filter.mpr ⟨List.mem_of_getElem? (i := 680) (by decide +kernel), by decide +kernel⟩
theorem lkm_L_66 : Cond.methodLink RL 66 yX5_small ∈ lw_g := List.mem_filter.mpr ⟨List.mem_of_getElem? (i := 681) (by decide +kernel), by decide +kernel⟩
theorem lk_L_66 : LK RL 66 yX5_small := Or.inl lkm_L_66
theorem im_X5_small : Cond.instanceMethod yX5_small ∈ lw_g := List.mem_filter.mpr ⟨List.mem_of_getElem? (i := 682) (by decide +kernel), by decide +kernel⟩
theorem sel_X5_small : Cond.selects RX5 yX5_small yX5_small ∈ lw_g := List.mem_filter.mpr ⟨List.mem_of_getElem? (i := 683) (by decide +kernel), by decide +kernel⟩
theorem cm_X5_small : CM uX5_small 2 := ⟨code_X5_small, ini_X5, ⟨by decide +kernel, by decide +kernel⟩, by decide +kernel, by decide⟩
theorem lk_X5_124 : LK RX5 124 yX4_shortAt := Or.inr ⟨"FairWheel", List.mem_filter.mpr ⟨List.mem_of_getElem? (i := 685) (by decide +kernel), by decide +kernel⟩⟩
theorem lkm_L_70 : Cond.methodLink RL 70 yX5_standing ∈ lw_g := List.mem_filter.mpr ⟨List.mem_of_getElem? (i := 686) (by decide +kernel), by decide +kernel⟩
theorem lk_L_70 : LK RL 70 yX5_standing := Or.inl lkm_L_70
theorem im_X5_standing : Cond.instanceMethod yX5_standing ∈ lw_g := List.mem_filter.mpr ⟨List.mem_of_getElem? (i := 687) (by decide +kernel), by decide +kernel⟩
theorem sel_X5_standing : Cond.selects RX5 yX5_standing yX5_standing ∈ lw_g := List.mem_filter.mpr ⟨List.mem_of_getElem? (i := 688) (by decide +kernel), by decide +kernel⟩
theorem cm_X5_standing : CM uX5_standing 2 := ⟨code_X5_standing, ini_X5, ⟨by decide +kernel, by decide +kernel⟩, by decide +kernel, by decide⟩
theorem lk_X5_127 : LK RX5 127 yX0_settle := Or.inr ⟨"FairWheel", List.mem_filter.mpr ⟨List.mem_of_getElem? (i := 690) (by decide +kernel), by decide +kernel⟩⟩
theorem lkm_X5_133 : Cond.methodLink RX5 133 yX5_classOf ∈ lw_g := List.mem_filter.mpr ⟨List.mem_of_getElem? (i := 691) (by decide +kernel), by decide +kernel⟩
theorem lk_X5_133 : LK RX5 133 yX5_classOf := Or.inl lkm_X5_133
theorem lkm_X5_137 : Cond.methodLink RX5 137 yX5_keyOf ∈ lw_g := List.mem_filter.mpr ⟨List.mem_of_getElem? (i := 692) (by decide +kernel), by decide +kernel⟩
theorem lk_X5_137 : LK RX5 137 yX5_keyOf := Or.inl lkm_X5_137
theorem lkm_X5_141 : Cond.methodLink RX5 141 yX5_numberOf ∈ lw_g := List.mem_filter.mpr ⟨List.mem_of_getElem? (i := 693) (by decide +kernel), by decide +kernel⟩
theorem lk_X5_141 : LK RX5 141 yX5_numberOf := Or.inl lkm_X5_141
theorem sm_X5_numberOf : Cond.static yX5_numberOf ∈ lw_g := List.mem_filter.mpr ⟨List.mem_of_getElem? (i := 694) (by decide +kernel), by decide +kernel⟩
theorem cm_X5_numberOf : CM uX5_numberOf 1 := ⟨code_X5_numberOf, ini_X5, ⟨by decide +kernel, by decide +kernel⟩, by decide +kernel, by decide⟩
theorem cs_X5_220 : Jvm.Cond.constantLong RX5 220 255 ∈ lw_g := List.mem_filter.mpr ⟨List.mem_of_getElem? (i := 696) (by decide +kernel), by decide +kernel⟩
theorem lkm_L_75 : Cond.methodLink RL 75 yX5_holder ∈ lw_g := List.mem_filter.mpr ⟨List.mem_of_getElem? (i := 697) (by decide +kernel), by decide +kernel⟩
theorem lk_L_75 : LK RL 75 yX5_holder := Or.inl lkm_L_75
theorem im_X5_holder : Cond.instanceMethod yX5_holder ∈ lw_g := List.mem_filter.mpr ⟨List.mem_of_getElem? (i := 698) (by decide +kernel), by decide +kernel⟩
theorem sel_X5_holder : Cond.selects RX5 yX5_holder yX5_holder ∈ lw_g := List.mem_filter.mpr ⟨List.mem_of_getElem? (i := 699) (by decide +kernel), by decide +kernel⟩
theorem cm_X5_holder : CM uX5_holder 1 := ⟨code_X5_holder, ini_X5, ⟨by decide +kernel, by decide +kernel⟩, by decide +kernel, by decide⟩
theorem lkm_L_79 : Cond.methodLink RL 79 yX5_ringed ∈ lw_g := List.mem_filter.mpr ⟨List.mem_of_getElem? (i := 701) (by decide +kernel), by decide +kernel⟩
theorem lk_L_79 : LK RL 79 yX5_ringed := Or.inl lkm_L_79
theorem im_X5_ringed : Cond.instanceMethod yX5_ringed ∈ lw_g := List.mem_filter.mpr ⟨List.mem_of_getElem? (i := 702) (by decide +kernel), by decide +kernel⟩
theorem sel_X5_ringed : Cond.selects RX5 yX5_ringed yX5_ringed ∈ lw_g := List.mem_filter.mpr ⟨List.mem_of_getElem? (i := 703) (by decide +kernel), by decide +kernel⟩
theorem cm_X5_ringed : CM uX5_ringed 1 := ⟨code_X5_ringed, ini_X5, ⟨by decide +kernel, by decide +kernel⟩, by decide +kernel, by decide⟩
theorem lkm_L_83 : Cond.methodLink RL 83 yX5_row ∈ lw_g := List.mem_filter.mpr ⟨List.mem_of_getElem? (i := 705) (by decide +kernel), by decide +kernel⟩
theorem lk_L_83 : LK RL 83 yX5_row := Or.inl lkm_L_83
theorem im_X5_row : Cond.instanceMethod yX5_row ∈ lw_g := List.mem_filter.mpr ⟨List.mem_of_getElem? (i := 706) (by decide +kernel), by decide +kernel⟩
theorem sel_X5_row : Cond.selects RX5 yX5_row yX5_row ∈ lw_g := List.mem_filter.mpr ⟨List.mem_of_getElem? (i := 707) (by decide +kernel), by decide +kernel⟩
theorem cm_X5_row : CM uX5_row 2 := ⟨code_X5_row, ini_X5, ⟨by decide +kernel, by decide +kernel⟩, by decide +kernel, by decide⟩
theorem lk_X5_154 : LK RX5 154 yX3_has := Or.inr ⟨"FairWheel", List.mem_filter.mpr ⟨List.mem_of_getElem? (i := 709) (by decide +kernel), by decide +kernel⟩⟩
theorem im_X3_has : Cond.instanceMethod yX3_has ∈ lw_g := List.mem_filter.mpr ⟨List.mem_of_getElem? (i := 711) (by decide +kernel), by decide +kernel⟩
theorem cm_X3_has : CM uX3_has 2 := ⟨code_X3_has, ini_X3, ⟨by decide +kernel, by decide +kernel⟩, by decide +kernel, by decide⟩
theorem lk_X5_160 : LK RX5 160 yX3_get := Or.inr ⟨"FairWheel", List.mem_filter.mpr ⟨List.mem_of_getElem? (i := 713) (by decide +kernel), by decide +kernel⟩⟩
theorem im_X3_get : Cond.instanceMethod yX3_get ∈ lw_g := List.mem_filter.mpr ⟨List.mem_of_getElem? (i := 715) (by decide +kernel), by decide +kernel⟩
theorem cm_X3_get : CM uX3_get 2 := ⟨code_X3_get, ini_X3, ⟨by decide +kernel, by decide +kernel⟩, by decide +kernel, by decide⟩
theorem lkm_X3_25 : Cond.methodLink RX3 25 yX3_has ∈ lw_g := List.mem_filter.mpr ⟨List.mem_of_getElem? (i := 717) (by decide +kernel), by decide +kernel⟩
theorem lk_X3_25 : LK RX3 25 yX3_has := Or.inl lkm_X3_25
theorem lkm_L_87 : Cond.methodLink RL 87 yX5_forge ∈ lw_g := List.mem_filter.mpr ⟨List.mem_of_getElem? (i := 718) (by decide +kernel), by decide +kernel⟩
theorem lk_L_87 : LK RL 87 yX5_forge := Or.inl lkm_L_87
theorem im_X5_forge : Cond.instanceMethod yX5_forge ∈ lw_g := List.mem_filter.mpr ⟨List.mem_of_getElem? (i := 719) (by decide +kernel), by decide +kernel⟩
theorem sel_X5_forge : Cond.selects RX5 yX5_forge yX5_forge ∈ lw_g := List.mem_filter.mpr ⟨List.mem_of_getElem? (i := 720) (by decide +kernel), by decide +kernel⟩
theorem cm_X5_forge : CM uX5_forge 3 := ⟨code_X5_forge, ini_X5, ⟨by decide +kernel, by decide +kernel⟩, by decide +kernel, by decide⟩
theorem lk_X5_164 : LK RX5 164 yX3_grow := Or.inr ⟨"FairWheel", List.mem_filter.mpr ⟨List.mem_of_getElem? (i := 722) (by decide +kernel), by decide +kernel⟩⟩
theorem im_X3_grow : Cond.instanceMethod yX3_grow ∈ lw_g := List.mem_filter.mpr ⟨List.mem_of_getElem? (i := 724) (by decide +kernel), by decide +kernel⟩
theorem cm_X3_grow : CM uX3_grow 3 := ⟨code_X3_grow, ini_X3, ⟨by decide +kernel, by decide +kernel⟩, by decide +kernel, by decide⟩
theorem lkm_L_91 : Cond.methodLink RL 91 yX5_check ∈ lw_g := List.mem_filter.mpr ⟨List.mem_of_getElem? (i := 726) (by decide +kernel), by decide +kernel⟩
theorem lk_L_91 : LK RL 91 yX5_check := Or.inl lkm_L_91
theorem im_X5_check : Cond.instanceMethod yX5_check ∈ lw_g := List.mem_filter.mpr ⟨List.mem_of_getElem? (i := 727) (by decide +kernel), by decide +kernel⟩
theorem sel_X5_check : Cond.selects RX5 yX5_check yX5_check ∈ lw_g := List.mem_filter.mpr ⟨List.mem_of_getElem? (i := 728) (by decide +kernel), by decide +kernel⟩
theorem cm_X5_check : CM uX5_check 0 := ⟨code_X5_check, ini_X5, ⟨by decide +kernel, by decide +kernel⟩, by decide +kernel, by decide⟩
theorem lk_X5_167 : LK RX5 167 yX0_clear := Or.inr ⟨"FairWheel", List.mem_filter.mpr ⟨List.mem_of_getElem? (i := 730) (by decide +kernel), by decide +kernel⟩⟩
theorem im_X0_clear : Cond.instanceMethod yX0_clear ∈ lw_g := List.mem_filter.mpr ⟨List.mem_of_getElem? (i := 732) (by decide +kernel), by decide +kernel⟩
theorem cm_X0_clear : CM uX0_clear 0 := ⟨code_X0_clear, ini_X0, ⟨by decide +kernel, by decide +kernel⟩, by decide +kernel, by decide⟩
theorem lkm_X5_173 : Cond.methodLink RX5 173 yX5_redo ∈ lw_g := List.mem_filter.mpr ⟨List.mem_of_getElem? (i := 734) (by decide +kernel), by decide +kernel⟩
theorem lk_X5_173 : LK RX5 173 yX5_redo := Or.inl lkm_X5_173
theorem im_X5_redo : Cond.instanceMethod yX5_redo ∈ lw_g := List.mem_filter.mpr ⟨List.mem_of_getElem? (i := 736) (by decide +kernel), by decide +kernel⟩
theorem cm_X5_redo : CM uX5_redo 2 := ⟨code_X5_redo, ini_X5, ⟨by decide +kernel, by decide +kernel⟩, by decide +kernel, by decide⟩
theorem lk_X5_215 : LK RX5 215 yX1_get := Or.inr ⟨"FairWheel", List.mem_filter.mpr ⟨List.mem_of_getElem? (i := 738) (by decide +kernel), by decide +kernel⟩⟩
theorem im_X1_get : Cond.instanceMethod yX1_get ∈ lw_g := List.mem_filter.mpr ⟨List.mem_of_getElem? (i := 740) (by decide +kernel), by decide +kernel⟩
theorem cm_X1_get : CM uX1_get 2 := ⟨code_X1_get, ini_X1, ⟨by decide +kernel, by decide +kernel⟩, by decide +kernel, by decide⟩
theorem lk_X5_177 : LK RX5 177 yX3_firstUnlike := Or.inr ⟨"FairWheel", List.mem_filter.mpr ⟨List.mem_of_getElem? (i := 742) (by decide +kernel), by decide +kernel⟩⟩
theorem im_X3_firstUnlike : Cond.instanceMethod yX3_firstUnlike ∈ lw_g := List.mem_filter.mpr ⟨List.mem_of_getElem? (i := 744) (by decide +kernel), by decide +kernel⟩
theorem cm_X3_firstUnlike : CM uX3_firstUnlike 1 := ⟨code_X3_firstUnlike, ini_X3, ⟨by decide +kernel, by decide +kernel⟩, by decide +kernel, by decide⟩
theorem lkm_L_96 : Cond.methodLink RL 96 yX5_checkedTo ∈ lw_g := List.mem_filter.mpr ⟨List.mem_of_getElem? (i := 746) (by decide +kernel), by decide +kernel⟩
theorem lk_L_96 : LK RL 96 yX5_checkedTo := Or.inl lkm_L_96
theorem im_X5_checkedTo : Cond.instanceMethod yX5_checkedTo ∈ lw_g := List.mem_filter.mpr ⟨List.mem_of_getElem? (i := 747) (by decide +kernel), by decide +kernel⟩
theorem sel_X5_checkedTo : Cond.selects RX5 yX5_checkedTo yX5_checkedTo ∈ lw_g := List.mem_filter.mpr ⟨List.mem_of_getElem? (i := 748) (by decide +kernel), by decide +kernel⟩
theorem cm_X5_checkedTo : CM uX5_checkedTo 0 := ⟨code_X5_checkedTo, ini_X5, ⟨by decide +kernel, by decide +kernel⟩, by decide +kernel, by decide⟩
theorem lkm_L_100 : Cond.methodLink RL 100 yX5_bound ∈ lw_g := List.mem_filter.mpr ⟨List.mem_of_getElem? (i := 750) (by decide +kernel), by decide +kernel⟩
theorem lk_L_100 : LK RL 100 yX5_bound := Or.inl lkm_L_100
theorem im_X5_bound : Cond.instanceMethod yX5_bound ∈ lw_g := List.mem_filter.mpr ⟨List.mem_of_getElem? (i := 751) (by decide +kernel), by decide +kernel⟩
theorem sel_X5_bound : Cond.selects RX5 yX5_bound yX5_bound ∈ lw_g := List.mem_filter.mpr ⟨List.mem_of_getElem? (i := 752) (by decide +kernel), by decide +kernel⟩
theorem cm_X5_bound : CM uX5_bound 1 := ⟨code_X5_bound, ini_X5, ⟨by decide +kernel, by decide +kernel⟩, by decide +kernel, by decide⟩
theorem lk_X5_184 : LK RX5 184 yX0_ticksUntilChosen := Or.inr ⟨"FairWheel", List.mem_filter.mpr ⟨List.mem_of_getElem? (i := 754) (by decide +kernel), by decide +kernel⟩⟩
theorem im_X0_ticksUntilChosen : Cond.instanceMethod yX0_ticksUntilChosen ∈ lw_g := List.mem_filter.mpr ⟨List.mem_of_getElem? (i := 756) (by decide +kernel), by decide +kernel⟩
theorem cm_X0_ticksUntilChosen : CM uX0_ticksUntilChosen 1 := ⟨code_X0_ticksUntilChosen, ini_X0, ⟨by decide +kernel, by decide +kernel⟩, by decide +kernel, by decide⟩
theorem lk_X0_319 : LK RX0 319 yX5_numberOf := Or.inr ⟨"FairWheel", List.mem_filter.mpr ⟨List.mem_of_getElem? (i := 758) (by decide +kernel), by decide +kernel⟩⟩
theorem lkm_X0_322 : Cond.methodLink RX0 322 yX0_turnsAhead ∈ lw_g := List.mem_filter.mpr ⟨List.mem_of_getElem? (i := 759) (by decide +kernel), by decide +kernel⟩
theorem lk_X0_322 : LK RX0 322 yX0_turnsAhead := Or.inl lkm_X0_322
theorem im_X0_turnsAhead : Cond.instanceMethod yX0_turnsAhead ∈ lw_g := List.mem_filter.mpr ⟨List.mem_of_getElem? (i := 761) (by decide +kernel), by decide +kernel⟩
theorem cm_X0_turnsAhead : CM uX0_turnsAhead 2 := ⟨code_X0_turnsAhead, ini_X0, ⟨by decide +kernel, by decide +kernel⟩, by decide +kernel, by decide⟩
theorem lk_X0_326 : LK RX0 326 yX4_paymentsBehind := Or.inr ⟨"FairWheel", List.mem_filter.mpr ⟨List.mem_of_getElem? (i := 763) (by decide +kernel), by decide +kernel⟩⟩
theorem im_X4_paymentsBehind : Cond.instanceMethod yX4_paymentsBehind ∈ lw_g := List.mem_filter.mpr ⟨List.mem_of_getElem? (i := 765) (by decide +kernel), by decide +kernel⟩
theorem cm_X4_paymentsBehind : CM uX4_paymentsBehind 1 := ⟨code_X4_paymentsBehind, ini_X4, ⟨by decide +kernel, by decide +kernel⟩, by decide +kernel, by decide⟩
theorem lk_X4_95 : LK RX4 95 yX5_keyOf := Or.inr ⟨"FairWheel", List.mem_filter.mpr ⟨List.mem_of_getElem? (i := 767) (by decide +kernel), by decide +kernel⟩⟩
theorem lk_X4_99 : LK RX4 99 yX5_numberOf := Or.inr ⟨"FairWheel", List.mem_filter.mpr ⟨List.mem_of_getElem? (i := 768) (by decide +kernel), by decide +kernel⟩⟩
theorem cs_X4_103 : Jvm.Cond.constantLong RX4 103 999 ∈ lw_g := List.mem_filter.mpr ⟨List.mem_of_getElem? (i := 769) (by decide +kernel), by decide +kernel⟩
theorem cs_X4_105 : Jvm.Cond.constantLong RX4 105 1000 ∈ lw_g := List.mem_filter.mpr ⟨List.mem_of_getElem? (i := 770) (by decide +kernel), by decide +kernel⟩
theorem lkm_X0_329 : Cond.methodLink RX0 329 yJ9_max_f86c9 ∈ lw_g := List.mem_filter.mpr ⟨List.mem_of_getElem? (i := 771) (by decide +kernel), by decide +kernel⟩
theorem lk_X0_329 : LK RX0 329 yJ9_max_f86c9 := Or.inl lkm_X0_329
theorem sm_J9_max_f86c9 : Cond.static yJ9_max_f86c9 ∈ lw_g := List.mem_filter.mpr ⟨List.mem_of_getElem? (i := 772) (by decide +kernel), by decide +kernel⟩
theorem cm_J9_max_f86c9 : CM uJ9_max_f86c9 2 := ⟨code_J9_max_f86c9, ini_J9, ⟨by decide +kernel, by decide +kernel⟩, by decide +kernel, by decide⟩
theorem cs_X0_332 : Jvm.Cond.constantLong RX0 332 2 ∈ lw_g := List.mem_filter.mpr ⟨List.mem_of_getElem? (i := 774) (by decide +kernel), by decide +kernel⟩
theorem lkm_L_104 : Cond.methodLink RL 104 yX5_trace ∈ lw_g := List.mem_filter.mpr ⟨List.mem_of_getElem? (i := 775) (by decide +kernel), by decide +kernel⟩
theorem lk_L_104 : LK RL 104 yX5_trace := Or.inl lkm_L_104
theorem im_X5_trace : Cond.instanceMethod yX5_trace ∈ lw_g := List.mem_filter.mpr ⟨List.mem_of_getElem? (i := 776) (by decide +kernel), by decide +kernel⟩
theorem sel_X5_trace : Cond.selects RX5 yX5_trace yX5_trace ∈ lw_g := List.mem_filter.mpr ⟨List.mem_of_getElem? (i := 777) (by decide +kernel), by decide +kernel⟩
theorem cm_X5_trace : CM uX5_trace 1 := ⟨code_X5_trace, ini_X5, ⟨by decide +kernel, by decide +kernel⟩, by decide +kernel, by decide⟩
theorem lkm_L_108 : Cond.methodLink RL 108 yX5_count ∈ lw_g := List.mem_filter.mpr ⟨List.mem_of_getElem? (i := 779) (by decide +kernel), by decide +kernel⟩
theorem lk_L_108 : LK RL 108 yX5_count := Or.inl lkm_L_108
theorem im_X5_count : Cond.instanceMethod yX5_count ∈ lw_g := List.mem_filter.mpr ⟨List.mem_of_getElem? (i := 780) (by decide +kernel), by decide +kernel⟩
theorem sel_X5_count : Cond.selects RX5 yX5_count yX5_count ∈ lw_g := List.mem_filter.mpr ⟨List.mem_of_getElem? (i := 781) (by decide +kernel), by decide +kernel⟩
theorem cm_X5_count : CM uX5_count 1 := ⟨code_X5_count, ini_X5, ⟨by decide +kernel, by decide +kernel⟩, by decide +kernel, by decide⟩
theorem lk_X5_191 : LK RX5 191 yX0_howMany := Or.inr ⟨"FairWheel", List.mem_filter.mpr ⟨List.mem_of_getElem? (i := 783) (by decide +kernel), by decide +kernel⟩⟩
theorem im_X0_howMany : Cond.instanceMethod yX0_howMany ∈ lw_g := List.mem_filter.mpr ⟨List.mem_of_getElem? (i := 785) (by decide +kernel), by decide +kernel⟩
theorem cm_X0_howMany : CM uX0_howMany 1 := ⟨code_X0_howMany, ini_X0, ⟨by decide +kernel, by decide +kernel⟩, by decide +kernel, by decide⟩
theorem lkm_L_112 : Cond.methodLink RL 112 yX5_image ∈ lw_g := List.mem_filter.mpr ⟨List.mem_of_getElem? (i := 787) (by decide +kernel), by decide +kernel⟩
theorem lk_L_112 : LK RL 112 yX5_image := Or.inl lkm_L_112
theorem im_X5_image : Cond.instanceMethod yX5_image ∈ lw_g := List.mem_filter.mpr ⟨List.mem_of_getElem? (i := 788) (by decide +kernel), by decide +kernel⟩
theorem sel_X5_image : Cond.selects RX5 yX5_image yX5_image ∈ lw_g := List.mem_filter.mpr ⟨List.mem_of_getElem? (i := 789) (by decide +kernel), by decide +kernel⟩
theorem cm_X5_image : CM uX5_image 0 := ⟨code_X5_image, ini_X5, ⟨by decide +kernel, by decide +kernel⟩, by decide +kernel, by decide⟩
theorem lk_X5_201 : LK RX5 201 yX0_become := Or.inr ⟨"FairWheel", List.mem_filter.mpr ⟨List.mem_of_getElem? (i := 791) (by decide +kernel), by decide +kernel⟩⟩
theorem im_X0_become : Cond.instanceMethod yX0_become ∈ lw_g := List.mem_filter.mpr ⟨List.mem_of_getElem? (i := 793) (by decide +kernel), by decide +kernel⟩
theorem cm_X0_become : CM uX0_become 1 := ⟨code_X0_become, ini_X0, ⟨by decide +kernel, by decide +kernel⟩, by decide +kernel, by decide⟩
theorem lk_X0_73 : LK RX0 73 yX4_become := Or.inr ⟨"FairWheel", List.mem_filter.mpr ⟨List.mem_of_getElem? (i := 795) (by decide +kernel), by decide +kernel⟩⟩
theorem im_X4_become : Cond.instanceMethod yX4_become ∈ lw_g := List.mem_filter.mpr ⟨List.mem_of_getElem? (i := 797) (by decide +kernel), by decide +kernel⟩
theorem cm_X4_become : CM uX4_become 1 := ⟨code_X4_become, ini_X4, ⟨by decide +kernel, by decide +kernel⟩, by decide +kernel, by decide⟩
theorem lkm_X4_71 : Cond.methodLink RX4 71 yX4_begin ∈ lw_g := List.mem_filter.mpr ⟨List.mem_of_getElem? (i := 799) (by decide +kernel), by decide +kernel⟩
theorem lk_X4_71 : LK RX4 71 yX4_begin := Or.inl lkm_X4_71
theorem lkm_X4_75 : Cond.methodLink RX4 75 yX4_makeShorts ∈ lw_g := List.mem_filter.mpr ⟨List.mem_of_getElem? (i := 800) (by decide +kernel), by decide +kernel⟩
theorem lk_X4_75 : LK RX4 75 yX4_makeShorts := Or.inl lkm_X4_75
theorem lkm_X4_79 : Cond.methodLink RX4 79 yX4_shortAt ∈ lw_g := List.mem_filter.mpr ⟨List.mem_of_getElem? (i := 801) (by decide +kernel), by decide +kernel⟩
theorem lk_X4_79 : LK RX4 79 yX4_shortAt := Or.inl lkm_X4_79
theorem lkm_X4_83 : Cond.methodLink RX4 83 yX4_setShort ∈ lw_g := List.mem_filter.mpr ⟨List.mem_of_getElem? (i := 802) (by decide +kernel), by decide +kernel⟩
theorem lk_X4_83 : LK RX4 83 yX4_setShort := Or.inl lkm_X4_83
theorem lk_X0_77 : LK RX0 77 yX2_become := Or.inr ⟨"FairWheel", List.mem_filter.mpr ⟨List.mem_of_getElem? (i := 803) (by decide +kernel), by decide +kernel⟩⟩
theorem im_X2_become : Cond.instanceMethod yX2_become ∈ lw_g := List.mem_filter.mpr ⟨List.mem_of_getElem? (i := 805) (by decide +kernel), by decide +kernel⟩
theorem cm_X2_become : CM uX2_become 1 := ⟨code_X2_become, ini_X2, ⟨by decide +kernel, by decide +kernel⟩, by decide +kernel, by decide⟩
theorem lkm_X2_25 : Cond.methodLink RX2 25 (⟨"java/lang/System", "arraycopy", "(Ljava/lang/Object;ILjava/lang/Object;II)V"⟩ : MethodName) ∈ lw_g := List.mem_filter.mpr ⟨List.mem_of_getElem? (i := 807) (by decide +kernel), by decide +kernel⟩
theorem lk_X2_25 : LK RX2 25 (⟨"java/lang/System", "arraycopy", "(Ljava/lang/Object;ILjava/lang/Object;II)V"⟩ : MethodName) := Or.inl lkm_X2_25
theorem lk_X0_80 : LK RX0 80 yX3_become := Or.inr ⟨"FairWheel", List.mem_filter.mpr ⟨List.mem_of_getElem? (i := 808) (by decide +kernel), by decide +kernel⟩⟩
theorem im_X3_become : Cond.instanceMethod yX3_become ∈ lw_g := List.mem_filter.mpr ⟨List.mem_of_getElem? (i := 810) (by decide +kernel), by decide +kernel⟩
theorem cm_X3_become : CM uX3_become 1 := ⟨code_X3_become, ini_X3, ⟨by decide +kernel, by decide +kernel⟩, by decide +kernel, by decide⟩
theorem lkm_X3_19 : Cond.methodLink RX3 19 (⟨"java/lang/System", "arraycopy", "(Ljava/lang/Object;ILjava/lang/Object;II)V"⟩ : MethodName) ∈ lw_g := List.mem_filter.mpr ⟨List.mem_of_getElem? (i := 812) (by decide +kernel), by decide +kernel⟩
theorem lk_X3_19 : LK RX3 19 (⟨"java/lang/System", "arraycopy", "(Ljava/lang/Object;ILjava/lang/Object;II)V"⟩ : MethodName) := Or.inl lkm_X3_19
theorem lkm_X0_83 : Cond.methodLink RX0 83 (⟨"java/lang/System", "arraycopy", "(Ljava/lang/Object;ILjava/lang/Object;II)V"⟩ : MethodName) ∈ lw_g := List.mem_filter.mpr ⟨List.mem_of_getElem? (i := 813) (by decide +kernel), by decide +kernel⟩
theorem lk_X0_83 : LK RX0 83 (⟨"java/lang/System", "arraycopy", "(Ljava/lang/Object;ILjava/lang/Object;II)V"⟩ : MethodName) := Or.inl lkm_X0_83
theorem lk_X5_205 : LK RX5 205 yX1_become := Or.inr ⟨"FairWheel", List.mem_filter.mpr ⟨List.mem_of_getElem? (i := 814) (by decide +kernel), by decide +kernel⟩⟩
theorem im_X1_become : Cond.instanceMethod yX1_become ∈ lw_g := List.mem_filter.mpr ⟨List.mem_of_getElem? (i := 816) (by decide +kernel), by decide +kernel⟩
theorem cm_X1_become : CM uX1_become 1 := ⟨code_X1_become, ini_X1, ⟨by decide +kernel, by decide +kernel⟩, by decide +kernel, by decide⟩
theorem lkm_X1_19 : Cond.methodLink RX1 19 (⟨"java/lang/System", "arraycopy", "(Ljava/lang/Object;ILjava/lang/Object;II)V"⟩ : MethodName) ∈ lw_g := List.mem_filter.mpr ⟨List.mem_of_getElem? (i := 818) (by decide +kernel), by decide +kernel⟩
theorem lk_X1_19 : LK RX1 19 (⟨"java/lang/System", "arraycopy", "(Ljava/lang/Object;ILjava/lang/Object;II)V"⟩ : MethodName) := Or.inl lkm_X1_19
theorem lk_X5_208 : LK RX5 208 yX0_summed := Or.inr ⟨"FairWheel", List.mem_filter.mpr ⟨List.mem_of_getElem? (i := 819) (by decide +kernel), by decide +kernel⟩⟩
theorem im_X0_summed : Cond.instanceMethod yX0_summed ∈ lw_g := List.mem_filter.mpr ⟨List.mem_of_getElem? (i := 821) (by decide +kernel), by decide +kernel⟩
theorem cm_X0_summed : CM uX0_summed 0 := ⟨code_X0_summed, ini_X0, ⟨by decide +kernel, by decide +kernel⟩, by decide +kernel, by decide⟩
theorem cs_X0_334 : Jvm.Cond.constantLong RX0 334 7 ∈ lw_g := List.mem_filter.mpr ⟨List.mem_of_getElem? (i := 823) (by decide +kernel), by decide +kernel⟩
theorem cs_X0_336 : Jvm.Cond.constantLong RX0 336 31 ∈ lw_g := List.mem_filter.mpr ⟨List.mem_of_getElem? (i := 824) (by decide +kernel), by decide +kernel⟩
theorem lk_X0_338 : LK RX0 338 yX4_tell := Or.inr ⟨"FairWheel", List.mem_filter.mpr ⟨List.mem_of_getElem? (i := 825) (by decide +kernel), by decide +kernel⟩⟩
theorem lk_X0_341 : LK RX0 341 yX3_summed := Or.inr ⟨"FairWheel", List.mem_filter.mpr ⟨List.mem_of_getElem? (i := 826) (by decide +kernel), by decide +kernel⟩⟩
theorem im_X3_summed : Cond.instanceMethod yX3_summed ∈ lw_g := List.mem_filter.mpr ⟨List.mem_of_getElem? (i := 828) (by decide +kernel), by decide +kernel⟩
theorem cm_X3_summed : CM uX3_summed 1 := ⟨code_X3_summed, ini_X3, ⟨by decide +kernel, by decide +kernel⟩, by decide +kernel, by decide⟩
theorem cs_X3_42 : Jvm.Cond.constantLong RX3 42 31 ∈ lw_g := List.mem_filter.mpr ⟨List.mem_of_getElem? (i := 830) (by decide +kernel), by decide +kernel⟩
theorem lkm_L_117 : Cond.methodLink RL 117 yX5_load ∈ lw_g := List.mem_filter.mpr ⟨List.mem_of_getElem? (i := 831) (by decide +kernel), by decide +kernel⟩
theorem lk_L_117 : LK RL 117 yX5_load := Or.inl lkm_L_117
theorem im_X5_load : Cond.instanceMethod yX5_load ∈ lw_g := List.mem_filter.mpr ⟨List.mem_of_getElem? (i := 832) (by decide +kernel), by decide +kernel⟩
theorem sel_X5_load : Cond.selects RX5 yX5_load yX5_load ∈ lw_g := List.mem_filter.mpr ⟨List.mem_of_getElem? (i := 833) (by decide +kernel), by decide +kernel⟩
theorem cm_X5_load : CM uX5_load 0 := ⟨code_X5_load, ini_X5, ⟨by decide +kernel, by decide +kernel⟩, by decide +kernel, by decide⟩
theorem lkm_L_122 : Cond.methodLink RL 122 yX5_digest ∈ lw_g := List.mem_filter.mpr ⟨List.mem_of_getElem? (i := 835) (by decide +kernel), by decide +kernel⟩
theorem lk_L_122 : LK RL 122 yX5_digest := Or.inl lkm_L_122
theorem im_X5_digest : Cond.instanceMethod yX5_digest ∈ lw_g := List.mem_filter.mpr ⟨List.mem_of_getElem? (i := 836) (by decide +kernel), by decide +kernel⟩
theorem sel_X5_digest : Cond.selects RX5 yX5_digest yX5_digest ∈ lw_g := List.mem_filter.mpr ⟨List.mem_of_getElem? (i := 837) (by decide +kernel), by decide +kernel⟩
theorem cm_X5_digest : CM uX5_digest 0 := ⟨code_X5_digest, ini_X5, ⟨by decide +kernel, by decide +kernel⟩, by decide +kernel, by decide⟩
theorem lkm_L_126 : Cond.methodLink RL 126 yX5_status ∈ lw_g := List.mem_filter.mpr ⟨List.mem_of_getElem? (i := 839) (by decide +kernel), by decide +kernel⟩
theorem lk_L_126 : LK RL 126 yX5_status := Or.inl lkm_L_126
theorem im_X5_status : Cond.instanceMethod yX5_status ∈ lw_g := List.mem_filter.mpr ⟨List.mem_of_getElem? (i := 840) (by decide +kernel), by decide +kernel⟩
theorem sel_X5_status : Cond.selects RX5 yX5_status yX5_status ∈ lw_g := List.mem_filter.mpr ⟨List.mem_of_getElem? (i := 841) (by decide +kernel), by decide +kernel⟩
theorem cm_X5_status : CM uX5_status 0 := ⟨code_X5_status, ini_X5, ⟨by decide +kernel, by decide +kernel⟩, by decide +kernel, by decide⟩
theorem cl_L_10 : Cond.classLink RL 10 RX6 ∈ lw_g := List.mem_filter.mpr ⟨List.mem_of_getElem? (i := 843) (by decide +kernel), by decide +kernel⟩
theorem ins_X6 : Cond.instantiable RX6 8 ∈ lw_g := List.mem_filter.mpr ⟨List.mem_of_getElem? (i := 844) (by decide +kernel), by decide +kernel⟩
theorem lkm_L_12 : Cond.methodLink RL 12 yX6_init ∈ lw_g := List.mem_filter.mpr ⟨List.mem_of_getElem? (i := 845) (by decide +kernel), by decide +kernel⟩
theorem lk_L_12 : LK RL 12 yX6_init := Or.inl lkm_L_12
theorem im_X6_init : Cond.instanceMethod yX6_init ∈ lw_g := List.mem_filter.mpr ⟨List.mem_of_getElem? (i := 846) (by decide +kernel), by decide +kernel⟩
theorem cm_X6_init : CM uX6_init 0 := ⟨code_X6_init, ini_X6, ⟨by decide +kernel, by decide +kernel⟩, by decide +kernel, by decide⟩
theorem lkm_X6_1 : Cond.methodLink RX6 1 objectInit ∈ lw_g := List.mem_filter.mpr ⟨List.mem_of_getElem? (i := 848) (by decide +kernel), by decide +kernel⟩
theorem lk_X6_1 : LK RX6 1 objectInit := Or.inl lkm_X6_1
theorem cs_X6_7 : Jvm.Cond.constant RX6 7 142000 ∈ lw_g := List.mem_filter.mpr ⟨List.mem_of_getElem? (i := 849) (by decide +kernel), by decide +kernel⟩
theorem fl_X6_8m : Cond.fieldLink RX6 8 (TX6 0).1 (TX6 0).2.1 (TX6 0).2.2.1 ∈ lw_g := List.mem_filter.mpr ⟨List.mem_of_getElem? (i := 850) (by decide +kernel), by decide +kernel⟩
theorem fl_X6_8 : FL RX6 8 6 0 := ⟨_, rfl, by decide, Or.inl fl_X6_8m⟩
theorem fl_X6_14m : Cond.fieldLink RX6 14 (TX6 1).1 (TX6 1).2.1 (TX6 1).2.2.1 ∈ lw_g := List.mem_filter.mpr ⟨List.mem_of_getElem? (i := 851) (by decide +kernel), by decide +kernel⟩
theorem fl_X6_14 : FL RX6 14 6 1 := ⟨_, rfl, by decide, Or.inl fl_X6_14m⟩
theorem fl_X6_18m : Cond.fieldLink RX6 18 (TX6 2).1 (TX6 2).2.1 (TX6 2).2.2.1 ∈ lw_g := List.mem_filter.mpr ⟨List.mem_of_getElem? (i := 852) (by decide +kernel), by decide +kernel⟩
theorem fl_X6_18 : FL RX6 18 6 2 := ⟨_, rfl, by decide, Or.inl fl_X6_18m⟩
theorem fl_X6_21m : Cond.fieldLink RX6 21 (TX6 3).1 (TX6 3).2.1 (TX6 3).2.2.1 ∈ lw_g := List.mem_filter.mpr ⟨List.mem_of_getElem? (i := 853) (by decide +kernel), by decide +kernel⟩
theorem fl_X6_21 : FL RX6 21 6 3 := ⟨_, rfl, by decide, Or.inl fl_X6_21m⟩
theorem fl_X6_194m : Cond.fieldLink RX6 194 (TX6 4).1 (TX6 4).2.1 (TX6 4).2.2.1 ∈ lw_g := List.mem_filter.mpr ⟨List.mem_of_getElem? (i := 854) (by decide +kernel), by decide +kernel⟩
theorem fl_X6_194 : FL RX6 194 6 4 := ⟨_, rfl, by decide, Or.inl fl_X6_194m⟩
theorem fl_X6_40m : Cond.fieldLink RX6 40 (TX6 5).1 (TX6 5).2.1 (TX6 5).2.2.1 ∈ lw_g := List.mem_filter.mpr ⟨List.mem_of_getElem? (i := 855) (by decide +kernel), by decide +kernel⟩
theorem fl_X6_40 : FL RX6 40 6 5 := ⟨_, rfl, by decide, Or.inl fl_X6_40m⟩
theorem fl_X6_24m : Cond.fieldLink RX6 24 (TX6 6).1 (TX6 6).2.1 (TX6 6).2.2.1 ∈ lw_g := List.mem_filter.mpr ⟨List.mem_of_getElem? (i := 856) (by decide +kernel), by decide +kernel⟩
theorem fl_X6_24 : FL RX6 24 6 6 := ⟨_, rfl, by decide, Or.inl fl_X6_24m⟩
theorem fl_X6_28m : Cond.fieldLink RX6 28 (TX6 7).1 (TX6 7).2.1 (TX6 7).2.2.1 ∈ lw_g := List.mem_filter.mpr ⟨List.mem_of_getElem? (i := 857) (by decide +kernel), by decide +kernel⟩
theorem fl_X6_28 : FL RX6 28 6 7 := ⟨_, rfl, by decide, Or.inl fl_X6_28m⟩
theorem ac_boolean : Cond.arrayClass .boolean ∈ lw_g := List.mem_filter.mpr ⟨List.mem_of_getElem? (i := 875) (by decide +kernel), by decide +kernel⟩
theorem lkm_L_19 : Cond.methodLink RL 19 yX6_program ∈ lw_g := List.mem_filter.mpr ⟨List.mem_of_getElem? (i := 876) (by decide +kernel), by decide +kernel⟩
theorem lk_L_19 : LK RL 19 yX6_program := Or.inl lkm_L_19
theorem im_X6_program : Cond.instanceMethod yX6_program ∈ lw_g := List.mem_filter.mpr ⟨List.mem_of_getElem? (i := 877) (by decide +kernel), by decide +kernel⟩
theorem sel_X6_program : Cond.selects RX6 yX6_program yX6_program ∈ lw_g := List.mem_filter.mpr ⟨List.mem_of_getElem? (i := 878) (by decide +kernel), by decide +kernel⟩
theorem cm_X6_program : CM uX6_program 3 := ⟨code_X6_program, ini_X6, ⟨by decide +kernel, by decide +kernel⟩, by decide +kernel, by decide⟩
theorem cs_X6_125 : Jvm.Cond.constantLong RX6 125 31 ∈ lw_g := List.mem_filter.mpr ⟨List.mem_of_getElem? (i := 880) (by decide +kernel), by decide +kernel⟩
theorem lkm_X6_32 : Cond.methodLink RX6 32 yX6_isIn ∈ lw_g := List.mem_filter.mpr ⟨List.mem_of_getElem? (i := 881) (by decide +kernel), by decide +kernel⟩
theorem lk_X6_32 : LK RX6 32 yX6_isIn := Or.inl lkm_X6_32
theorem sm_X6_isIn : Cond.static yX6_isIn ∈ lw_g := List.mem_filter.mpr ⟨List.mem_of_getElem? (i := 882) (by decide +kernel), by decide +kernel⟩
theorem cm_X6_isIn : CM uX6_isIn 3 := ⟨code_X6_isIn, ini_X6, ⟨by decide +kernel, by decide +kernel⟩, by decide +kernel, by decide⟩
theorem lkm_X6_120 : Cond.methodLink RX6 120 yJ9_max_7cf53 ∈ lw_g := List.mem_filter.mpr ⟨List.mem_of_getElem? (i := 884) (by decide +kernel), by decide +kernel⟩
theorem lk_X6_120 : LK RX6 120 yJ9_max_7cf53 := Or.inl lkm_X6_120
theorem cs_X6_151 : Jvm.Cond.constantLong RX6 151 8 ∈ lw_g := List.mem_filter.mpr ⟨List.mem_of_getElem? (i := 885) (by decide +kernel), by decide +kernel⟩
theorem lkm_X6_153 : Cond.methodLink RX6 153 yX6_isRefused ∈ lw_g := List.mem_filter.mpr ⟨List.mem_of_getElem? (i := 886) (by decide +kernel), by decide +kernel⟩
theorem lk_X6_153 : LK RX6 153 yX6_isRefused := Or.inl lkm_X6_153
theorem im_X6_isRefused : Cond.instanceMethod yX6_isRefused ∈ lw_g := List.mem_filter.mpr ⟨List.mem_of_getElem? (i := 888) (by decide +kernel), by decide +kernel⟩
theorem cm_X6_isRefused : CM uX6_isRefused 1 := ⟨code_X6_isRefused, ini_X6, ⟨by decide +kernel, by decide +kernel⟩, by decide +kernel, by decide⟩
theorem lkm_L_24 : Cond.methodLink RL 24 yX6_task ∈ lw_g := List.mem_filter.mpr ⟨List.mem_of_getElem? (i := 890) (by decide +kernel), by decide +kernel⟩
theorem lk_L_24 : LK RL 24 yX6_task := Or.inl lkm_L_24
theorem im_X6_task : Cond.instanceMethod yX6_task ∈ lw_g := List.mem_filter.mpr ⟨List.mem_of_getElem? (i := 891) (by decide +kernel), by decide +kernel⟩
theorem sel_X6_task : Cond.selects RX6 yX6_task yX6_task ∈ lw_g := List.mem_filter.mpr ⟨List.mem_of_getElem? (i := 892) (by decide +kernel), by decide +kernel⟩
theorem cm_X6_task : CM uX6_task 3 := ⟨code_X6_task, ini_X6, ⟨by decide +kernel, by decide +kernel⟩, by decide +kernel, by decide⟩
theorem cs_X6_131 : Jvm.Cond.constantLong RX6 131 4 ∈ lw_g := List.mem_filter.mpr ⟨List.mem_of_getElem? (i := 894) (by decide +kernel), by decide +kernel⟩
theorem cs_X6_156 : Jvm.Cond.constantLong RX6 156 1000 ∈ lw_g := List.mem_filter.mpr ⟨List.mem_of_getElem? (i := 895) (by decide +kernel), by decide +kernel⟩
theorem lkm_X6_127 : Cond.methodLink RX6 127 yX6_added ∈ lw_g := List.mem_filter.mpr ⟨List.mem_of_getElem? (i := 896) (by decide +kernel), by decide +kernel⟩
theorem lk_X6_127 : LK RX6 127 yX6_added := Or.inl lkm_X6_127
theorem im_X6_added : Cond.instanceMethod yX6_added ∈ lw_g := List.mem_filter.mpr ⟨List.mem_of_getElem? (i := 898) (by decide +kernel), by decide +kernel⟩
theorem cm_X6_added : CM uX6_added 5 := ⟨code_X6_added, ini_X6, ⟨by decide +kernel, by decide +kernel⟩, by decide +kernel, by decide⟩
theorem lkm_X6_36 : Cond.methodLink RX6 36 yX6_get ∈ lw_g := List.mem_filter.mpr ⟨List.mem_of_getElem? (i := 900) (by decide +kernel), by decide +kernel⟩
theorem lk_X6_36 : LK RX6 36 yX6_get := Or.inl lkm_X6_36
theorem im_X6_get : Cond.instanceMethod yX6_get ∈ lw_g := List.mem_filter.mpr ⟨List.mem_of_getElem? (i := 902) (by decide +kernel), by decide +kernel⟩
theorem cm_X6_get : CM uX6_get 2 := ⟨code_X6_get, ini_X6, ⟨by decide +kernel, by decide +kernel⟩, by decide +kernel, by decide⟩
theorem lkm_X6_59 : Cond.methodLink RX6 59 yX6_set ∈ lw_g := List.mem_filter.mpr ⟨List.mem_of_getElem? (i := 904) (by decide +kernel), by decide +kernel⟩
theorem lk_X6_59 : LK RX6 59 yX6_set := Or.inl lkm_X6_59
theorem im_X6_set : Cond.instanceMethod yX6_set ∈ lw_g := List.mem_filter.mpr ⟨List.mem_of_getElem? (i := 906) (by decide +kernel), by decide +kernel⟩
theorem cm_X6_set : CM uX6_set 3 := ⟨code_X6_set, ini_X6, ⟨by decide +kernel, by decide +kernel⟩, by decide +kernel, by decide⟩
theorem lkm_L_29 : Cond.methodLink RL 29 yX6_share ∈ lw_g := List.mem_filter.mpr ⟨List.mem_of_getElem? (i := 908) (by decide +kernel), by decide +kernel⟩
theorem lk_L_29 : LK RL 29 yX6_share := Or.inl lkm_L_29
theorem im_X6_share : Cond.instanceMethod yX6_share ∈ lw_g := List.mem_filter.mpr ⟨List.mem_of_getElem? (i := 909) (by decide +kernel), by decide +kernel⟩
theorem sel_X6_share : Cond.selects RX6 yX6_share yX6_share ∈ lw_g := List.mem_filter.mpr ⟨List.mem_of_getElem? (i := 910) (by decide +kernel), by decide +kernel⟩
theorem cm_X6_share : CM uX6_share 2 := ⟨code_X6_share, ini_X6, ⟨by decide +kernel, by decide +kernel⟩, by decide +kernel, by decide⟩
theorem lkm_X6_161 : Cond.methodLink RX6 161 yX6_isLiving ∈ lw_g := List.mem_filter.mpr ⟨List.mem_of_getElem? (i := 912) (by decide +kernel), by decide +kernel⟩
theorem lk_X6_161 : LK RX6 161 yX6_isLiving := Or.inl lkm_X6_161
theorem im_X6_isLiving : Cond.instanceMethod yX6_isLiving ∈ lw_g := List.mem_filter.mpr ⟨List.mem_of_getElem? (i := 914) (by decide +kernel), by decide +kernel⟩
theorem cm_X6_isLiving : CM uX6_isLiving 1 := ⟨code_X6_isLiving, ini_X6, ⟨by decide +kernel, by decide +kernel⟩, by decide +kernel, by decide⟩
theorem lkm_X6_158 : Cond.methodLink RX6 158 yX6_isTask ∈ lw_g := List.mem_filter.mpr ⟨List.mem_of_getElem? (i := 916) (by decide +kernel), by decide +kernel⟩
theorem lk_X6_158 : LK RX6 158 yX6_isTask := Or.inl lkm_X6_158
theorem im_X6_isTask : Cond.instanceMethod yX6_isTask ∈ lw_g := List.mem_filter.mpr ⟨List.mem_of_getElem? (i := 918) (by decide +kernel), by decide +kernel⟩
theorem cm_X6_isTask : CM uX6_isTask 1 := ⟨code_X6_isTask, ini_X6, ⟨by decide +kernel, by decide +kernel⟩, by decide +kernel, by decide⟩
theorem lkm_X6_164 : Cond.methodLink RX6 164 yJ9_min_7cf53 ∈ lw_g := List.mem_filter.mpr ⟨List.mem_of_getElem? (i := 920) (by decide +kernel), by decide +kernel⟩
theorem lk_X6_164 : LK RX6 164 yJ9_min_7cf53 := Or.inl lkm_X6_164
theorem lkm_L_34 : Cond.methodLink RL 34 yX6_deadline ∈ lw_g := List.mem_filter.mpr ⟨List.mem_of_getElem? (i := 921) (by decide +kernel), by decide +kernel⟩
theorem lk_L_34 : LK RL 34 yX6_deadline := Or.inl lkm_L_34
theorem im_X6_deadline : Cond.instanceMethod yX6_deadline ∈ lw_g := List.mem_filter.mpr ⟨List.mem_of_getElem? (i := 922) (by decide +kernel), by decide +kernel⟩
theorem sel_X6_deadline : Cond.selects RX6 yX6_deadline yX6_deadline ∈ lw_g := List.mem_filter.mpr ⟨List.mem_of_getElem? (i := 923) (by decide +kernel), by decide +kernel⟩
theorem cm_X6_deadline : CM uX6_deadline 3 := ⟨code_X6_deadline, ini_X6, ⟨by decide +kernel, by decide +kernel⟩, by decide +kernel, by decide⟩
theorem lkm_X6_43 : Cond.methodLink RX6 43 yX6_isDue ∈ lw_g := List.mem_filter.mpr ⟨List.mem_of_getElem? (i := 925) (by decide +kernel), by decide +kernel⟩
theorem lk_X6_43 : LK RX6 43 yX6_isDue := Or.inl lkm_X6_43
theorem im_X6_isDue : Cond.instanceMethod yX6_isDue ∈ lw_g := List.mem_filter.mpr ⟨List.mem_of_getElem? (i := 927) (by decide +kernel), by decide +kernel⟩
theorem cm_X6_isDue : CM uX6_isDue 1 := ⟨code_X6_isDue, ini_X6, ⟨by decide +kernel, by decide +kernel⟩, by decide +kernel, by decide⟩
theorem lkm_L_39 : Cond.methodLink RL 39 yX6_processors ∈ lw_g := List.mem_filter.mpr ⟨List.mem_of_getElem? (i := 929) (by decide +kernel), by decide +kernel⟩
theorem lk_L_39 : LK RL 39 yX6_processors := Or.inl lkm_L_39
theorem im_X6_processors : Cond.instanceMethod yX6_processors ∈ lw_g := List.mem_filter.mpr ⟨List.mem_of_getElem? (i := 930) (by decide +kernel), by decide +kernel⟩
theorem sel_X6_processors : Cond.selects RX6 yX6_processors yX6_processors ∈ lw_g := List.mem_filter.mpr ⟨List.mem_of_getElem? (i := 931) (by decide +kernel), by decide +kernel⟩
theorem cm_X6_processors : CM uX6_processors 1 := ⟨code_X6_processors, ini_X6, ⟨by decide +kernel, by decide +kernel⟩, by decide +kernel, by decide⟩
theorem lkm_L_44 : Cond.methodLink RL 44 yX6_lock ∈ lw_g := List.mem_filter.mpr ⟨List.mem_of_getElem? (i := 933) (by decide +kernel), by decide +kernel⟩
theorem lk_L_44 : LK RL 44 yX6_lock := Or.inl lkm_L_44
theorem im_X6_lock : Cond.instanceMethod yX6_lock ∈ lw_g := List.mem_filter.mpr ⟨List.mem_of_getElem? (i := 934) (by decide +kernel), by decide +kernel⟩
theorem sel_X6_lock : Cond.selects RX6 yX6_lock yX6_lock ∈ lw_g := List.mem_filter.mpr ⟨List.mem_of_getElem? (i := 935) (by decide +kernel), by decide +kernel⟩
theorem cm_X6_lock : CM uX6_lock 1 := ⟨code_X6_lock, ini_X6, ⟨by decide +kernel, by decide +kernel⟩, by decide +kernel, by decide⟩
theorem cs_X6_118 : Jvm.Cond.constantLong RX6 118 99 ∈ lw_g := List.mem_filter.mpr ⟨List.mem_of_getElem? (i := 937) (by decide +kernel), by decide +kernel⟩
theorem lkm_L_48 : Cond.methodLink RL 48 yX6_ring ∈ lw_g := List.mem_filter.mpr ⟨List.mem_of_getElem? (i := 938) (by decide +kernel), by decide +kernel⟩
theorem lk_L_48 : LK RL 48 yX6_ring := Or.inl lkm_L_48
theorem im_X6_ring : Cond.instanceMethod yX6_ring ∈ lw_g := List.mem_filter.mpr ⟨List.mem_of_getElem? (i := 939) (by decide +kernel), by decide +kernel⟩
theorem sel_X6_ring : Cond.selects RX6 yX6_ring yX6_ring ∈ lw_g := List.mem_filter.mpr ⟨List.mem_of_getElem? (i := 940) (by decide +kernel), by decide +kernel⟩
theorem cm_X6_ring : CM uX6_ring 1 := ⟨code_X6_ring, ini_X6, ⟨by decide +kernel, by decide +kernel⟩, by decide +kernel, by decide⟩
theorem cs_X6_97 : Jvm.Cond.constantLong RX6 97 15 ∈ lw_g := List.mem_filter.mpr ⟨List.mem_of_getElem? (i := 942) (by decide +kernel), by decide +kernel⟩
theorem lkm_X6_103 : Cond.methodLink RX6 103 yX6_ringBell ∈ lw_g := List.mem_filter.mpr ⟨List.mem_of_getElem? (i := 943) (by decide +kernel), by decide +kernel⟩
theorem lk_X6_103 : LK RX6 103 yX6_ringBell := Or.inl lkm_X6_103
theorem im_X6_ringBell : Cond.instanceMethod yX6_ringBell ∈ lw_g := List.mem_filter.mpr ⟨List.mem_of_getElem? (i := 945) (by decide +kernel), by decide +kernel⟩
theorem cm_X6_ringBell : CM uX6_ringBell 1 := ⟨code_X6_ringBell, ini_X6, ⟨by decide +kernel, by decide +kernel⟩, by decide +kernel, by decide⟩
theorem lkm_X6_70 : Cond.methodLink RX6 70 yX6_isReadyNow ∈ lw_g := List.mem_filter.mpr ⟨List.mem_of_getElem? (i := 947) (by decide +kernel), by decide +kernel⟩
theorem lk_X6_70 : LK RX6 70 yX6_isReadyNow := Or.inl lkm_X6_70
theorem im_X6_isReadyNow : Cond.instanceMethod yX6_isReadyNow ∈ lw_g := List.mem_filter.mpr ⟨List.mem_of_getElem? (i := 949) (by decide +kernel), by decide +kernel⟩
theorem cm_X6_isReadyNow : CM uX6_isReadyNow 1 := ⟨code_X6_isReadyNow, ini_X6, ⟨by decide +kernel, by decide +kernel⟩, by decide +kernel, by decide⟩
theorem lkm_L_52 : Cond.methodLink RL 52 yX6_run ∈ lw_g := List.mem_filter.mpr ⟨List.mem_of_getElem? (i := 951) (by decide +kernel), by decide +kernel⟩
theorem lk_L_52 : LK RL 52 yX6_run := Or.inl lkm_L_52
theorem im_X6_run : Cond.instanceMethod yX6_run ∈ lw_g := List.mem_filter.mpr ⟨List.mem_of_getElem? (i := 952) (by decide +kernel), by decide +kernel⟩
theorem sel_X6_run : Cond.selects RX6 yX6_run yX6_run ∈ lw_g := List.mem_filter.mpr ⟨List.mem_of_getElem? (i := 953) (by decide +kernel), by decide +kernel⟩
theorem cm_X6_run : CM uX6_run 1 := ⟨code_X6_run, ini_X6, ⟨by decide +kernel, by decide +kernel⟩, by decide +kernel, by decide⟩
theorem lkm_X6_167 : Cond.methodLink RX6 167 yX6_tick ∈ lw_g := List.mem_filter.mpr ⟨List.mem_of_getElem? (i := 955) (by decide +kernel), by decide +kernel⟩
theorem lk_X6_167 : LK RX6 167 yX6_tick := Or.inl lkm_X6_167
theorem im_X6_tick : Cond.instanceMethod yX6_tick ∈ lw_g := List.mem_filter.mpr ⟨List.mem_of_getElem? (i := 957) (by decide +kernel), by decide +kernel⟩
theorem cm_X6_tick : CM uX6_tick 0 := ⟨code_X6_tick, ini_X6, ⟨by decide +kernel, by decide +kernel⟩, by decide +kernel, by decide⟩
theorem lkm_X6_142 : Cond.methodLink RX6 142 yX6_wakes ∈ lw_g := List.mem_filter.mpr ⟨List.mem_of_getElem? (i := 959) (by decide +kernel), by decide +kernel⟩
theorem lk_X6_142 : LK RX6 142 yX6_wakes := Or.inl lkm_X6_142
theorem im_X6_wakes : Cond.instanceMethod yX6_wakes ∈ lw_g := List.mem_filter.mpr ⟨List.mem_of_getElem? (i := 961) (by decide +kernel), by decide +kernel⟩
theorem cm_X6_wakes : CM uX6_wakes 0 := ⟨code_X6_wakes, ini_X6, ⟨by decide +kernel, by decide +kernel⟩, by decide +kernel, by decide⟩
theorem lkm_X6_63 : Cond.methodLink RX6 63 yX6_body ∈ lw_g := List.mem_filter.mpr ⟨List.mem_of_getElem? (i := 963) (by decide +kernel), by decide +kernel⟩
theorem lk_X6_63 : LK RX6 63 yX6_body := Or.inl lkm_X6_63
theorem im_X6_body : Cond.instanceMethod yX6_body ∈ lw_g := List.mem_filter.mpr ⟨List.mem_of_getElem? (i := 965) (by decide +kernel), by decide +kernel⟩
theorem cm_X6_body : CM uX6_body 1 := ⟨code_X6_body, ini_X6, ⟨by decide +kernel, by decide +kernel⟩, by decide +kernel, by decide⟩
theorem lkm_X6_145 : Cond.methodLink RX6 145 yX6_chooses ∈ lw_g := List.mem_filter.mpr ⟨List.mem_of_getElem? (i := 967) (by decide +kernel), by decide +kernel⟩
theorem lk_X6_145 : LK RX6 145 yX6_chooses := Or.inl lkm_X6_145
theorem im_X6_chooses : Cond.instanceMethod yX6_chooses ∈ lw_g := List.mem_filter.mpr ⟨List.mem_of_getElem? (i := 969) (by decide +kernel), by decide +kernel⟩
theorem cm_X6_chooses : CM uX6_chooses 1 := ⟨code_X6_chooses, ini_X6, ⟨by decide +kernel, by decide +kernel⟩, by decide +kernel, by decide⟩
theorem lkm_X6_67 : Cond.methodLink RX6 67 yX6_standingOf ∈ lw_g := List.mem_filter.mpr ⟨List.mem_of_getElem? (i := 971) (by decide +kernel), by decide +kernel⟩
theorem lk_X6_67 : LK RX6 67 yX6_standingOf := Or.inl lkm_X6_67
theorem im_X6_standingOf : Cond.instanceMethod yX6_standingOf ∈ lw_g := List.mem_filter.mpr ⟨List.mem_of_getElem? (i := 973) (by decide +kernel), by decide +kernel⟩
theorem cm_X6_standingOf : CM uX6_standingOf 1 := ⟨code_X6_standingOf, ini_X6, ⟨by decide +kernel, by decide +kernel⟩, by decide +kernel, by decide⟩
theorem lkm_X6_55 : Cond.methodLink RX6 55 yX6_isAhead ∈ lw_g := List.mem_filter.mpr ⟨List.mem_of_getElem? (i := 975) (by decide +kernel), by decide +kernel⟩
theorem lk_X6_55 : LK RX6 55 yX6_isAhead := Or.inl lkm_X6_55
theorem im_X6_isAhead : Cond.instanceMethod yX6_isAhead ∈ lw_g := List.mem_filter.mpr ⟨List.mem_of_getElem? (i := 977) (by decide +kernel), by decide +kernel⟩
theorem cm_X6_isAhead : CM uX6_isAhead 2 := ⟨code_X6_isAhead, ini_X6, ⟨by decide +kernel, by decide +kernel⟩, by decide +kernel, by decide⟩
theorem lkm_X6_47 : Cond.methodLink RX6 47 yX6_classOf ∈ lw_g := List.mem_filter.mpr ⟨List.mem_of_getElem? (i := 979) (by decide +kernel), by decide +kernel⟩
theorem lk_X6_47 : LK RX6 47 yX6_classOf := Or.inl lkm_X6_47
theorem im_X6_classOf : Cond.instanceMethod yX6_classOf ∈ lw_g := List.mem_filter.mpr ⟨List.mem_of_getElem? (i := 981) (by decide +kernel), by decide +kernel⟩
theorem cm_X6_classOf : CM uX6_classOf 1 := ⟨code_X6_classOf, ini_X6, ⟨by decide +kernel, by decide +kernel⟩, by decide +kernel, by decide⟩
theorem lkm_X6_51 : Cond.methodLink RX6 51 yX6_keyOf ∈ lw_g := List.mem_filter.mpr ⟨List.mem_of_getElem? (i := 983) (by decide +kernel), by decide +kernel⟩
theorem lk_X6_51 : LK RX6 51 yX6_keyOf := Or.inl lkm_X6_51
theorem im_X6_keyOf : Cond.instanceMethod yX6_keyOf ∈ lw_g := List.mem_filter.mpr ⟨List.mem_of_getElem? (i := 985) (by decide +kernel), by decide +kernel⟩
theorem cm_X6_keyOf : CM uX6_keyOf 1 := ⟨code_X6_keyOf, ini_X6, ⟨by decide +kernel, by decide +kernel⟩, by decide +kernel, by decide⟩
theorem lkm_X6_136 : Cond.methodLink RX6 136 yX6_puts ∈ lw_g := List.mem_filter.mpr ⟨List.mem_of_getElem? (i := 987) (by decide +kernel), by decide +kernel⟩
theorem lk_X6_136 : LK RX6 136 yX6_puts := Or.inl lkm_X6_136
theorem im_X6_puts : Cond.instanceMethod yX6_puts ∈ lw_g := List.mem_filter.mpr ⟨List.mem_of_getElem? (i := 989) (by decide +kernel), by decide +kernel⟩
theorem cm_X6_puts : CM uX6_puts 6 := ⟨code_X6_puts, ini_X6, ⟨by decide +kernel, by decide +kernel⟩, by decide +kernel, by decide⟩
theorem cs_X6_140 : Jvm.Cond.constant RX6 140 62000 ∈ lw_g := List.mem_filter.mpr ⟨List.mem_of_getElem? (i := 991) (by decide +kernel), by decide +kernel⟩
theorem cs_X6_141 : Jvm.Cond.constant RX6 141 102000 ∈ lw_g := List.mem_filter.mpr ⟨List.mem_of_getElem? (i := 992) (by decide +kernel), by decide +kernel⟩
theorem lkm_X6_148 : Cond.methodLink RX6 148 yX6_turn ∈ lw_g := List.mem_filter.mpr ⟨List.mem_of_getElem? (i := 993) (by decide +kernel), by decide +kernel⟩
theorem lk_X6_148 : LK RX6 148 yX6_turn := Or.inl lkm_X6_148
theorem im_X6_turn : Cond.instanceMethod yX6_turn ∈ lw_g := List.mem_filter.mpr ⟨List.mem_of_getElem? (i := 995) (by decide +kernel), by decide +kernel⟩
theorem cm_X6_turn : CM uX6_turn 1 := ⟨code_X6_turn, ini_X6, ⟨by decide +kernel, by decide +kernel⟩, by decide +kernel, by decide⟩
theorem lkm_X6_79 : Cond.methodLink RX6 79 yX6_pays ∈ lw_g := List.mem_filter.mpr ⟨List.mem_of_getElem? (i := 997) (by decide +kernel), by decide +kernel⟩
theorem lk_X6_79 : LK RX6 79 yX6_pays := Or.inl lkm_X6_79
theorem im_X6_pays : Cond.instanceMethod yX6_pays ∈ lw_g := List.mem_filter.mpr ⟨List.mem_of_getElem? (i := 999) (by decide +kernel), by decide +kernel⟩
theorem cm_X6_pays : CM uX6_pays 1 := ⟨code_X6_pays, ini_X6, ⟨by decide +kernel, by decide +kernel⟩, by decide +kernel, by decide⟩
theorem lkm_X6_76 : Cond.methodLink RX6 76 yX6_pay ∈ lw_g := List.mem_filter.mpr ⟨List.mem_of_getElem? (i := 1001) (by decide +kernel), by decide +kernel⟩
theorem lk_X6_76 : LK RX6 76 yX6_pay := Or.inl lkm_X6_76
theorem im_X6_pay : Cond.instanceMethod yX6_pay ∈ lw_g := List.mem_filter.mpr ⟨List.mem_of_getElem? (i := 1003) (by decide +kernel), by decide +kernel⟩
theorem cm_X6_pay : CM uX6_pay 1 := ⟨code_X6_pay, ini_X6, ⟨by decide +kernel, by decide +kernel⟩, by decide +kernel, by decide⟩
theorem lkm_X6_82 : Cond.methodLink RX6 82 yX6_act ∈ lw_g := List.mem_filter.mpr ⟨List.mem_of_getElem? (i := 1005) (by decide +kernel), by decide +kernel⟩
theorem lk_X6_82 : LK RX6 82 yX6_act := Or.inl lkm_X6_82
theorem im_X6_act : Cond.instanceMethod yX6_act ∈ lw_g := List.mem_filter.mpr ⟨List.mem_of_getElem? (i := 1007) (by decide +kernel), by decide +kernel⟩
theorem cm_X6_act : CM uX6_act 1 := ⟨code_X6_act, ini_X6, ⟨by decide +kernel, by decide +kernel⟩, by decide +kernel, by decide⟩
theorem cs_X6_89 : Jvm.Cond.constantLong RX6 89 12 ∈ lw_g := List.mem_filter.mpr ⟨List.mem_of_getElem? (i := 1009) (by decide +kernel), by decide +kernel⟩
theorem lkm_X6_91 : Cond.methodLink RX6 91 yX6_takesLock ∈ lw_g := List.mem_filter.mpr ⟨List.mem_of_getElem? (i := 1010) (by decide +kernel), by decide +kernel⟩
theorem lk_X6_91 : LK RX6 91 yX6_takesLock := Or.inl lkm_X6_91
theorem im_X6_takesLock : Cond.instanceMethod yX6_takesLock ∈ lw_g := List.mem_filter.mpr ⟨List.mem_of_getElem? (i := 1012) (by decide +kernel), by decide +kernel⟩
theorem cm_X6_takesLock : CM uX6_takesLock 2 := ⟨code_X6_takesLock, ini_X6, ⟨by decide +kernel, by decide +kernel⟩, by decide +kernel, by decide⟩
theorem lkm_X6_99 : Cond.methodLink RX6 99 yX6_waits ∈ lw_g := List.mem_filter.mpr ⟨List.mem_of_getElem? (i := 1014) (by decide +kernel), by decide +kernel⟩
theorem lk_X6_99 : LK RX6 99 yX6_waits := Or.inl lkm_X6_99
theorem im_X6_waits : Cond.instanceMethod yX6_waits ∈ lw_g := List.mem_filter.mpr ⟨List.mem_of_getElem? (i := 1016) (by decide +kernel), by decide +kernel⟩
theorem cm_X6_waits : CM uX6_waits 4 := ⟨code_X6_waits, ini_X6, ⟨by decide +kernel, by decide +kernel⟩, by decide +kernel, by decide⟩
theorem lkm_X6_94 : Cond.methodLink RX6 94 yX6_givesLock ∈ lw_g := List.mem_filter.mpr ⟨List.mem_of_getElem? (i := 1018) (by decide +kernel), by decide +kernel⟩
theorem lk_X6_94 : LK RX6 94 yX6_givesLock := Or.inl lkm_X6_94
theorem im_X6_givesLock : Cond.instanceMethod yX6_givesLock ∈ lw_g := List.mem_filter.mpr ⟨List.mem_of_getElem? (i := 1020) (by decide +kernel), by decide +kernel⟩
theorem cm_X6_givesLock : CM uX6_givesLock 2 := ⟨code_X6_givesLock, ini_X6, ⟨by decide +kernel, by decide +kernel⟩, by decide +kernel, by decide⟩
theorem lkm_X6_73 : Cond.methodLink RX6 73 yX6_passes ∈ lw_g := List.mem_filter.mpr ⟨List.mem_of_getElem? (i := 1022) (by decide +kernel), by decide +kernel⟩
theorem lk_X6_73 : LK RX6 73 yX6_passes := Or.inl lkm_X6_73
theorem im_X6_passes : Cond.instanceMethod yX6_passes ∈ lw_g := List.mem_filter.mpr ⟨List.mem_of_getElem? (i := 1024) (by decide +kernel), by decide +kernel⟩
theorem cm_X6_passes : CM uX6_passes 1 := ⟨code_X6_passes, ini_X6, ⟨by decide +kernel, by decide +kernel⟩, by decide +kernel, by decide⟩
theorem lkm_X6_106 : Cond.methodLink RX6 106 yX6_forks ∈ lw_g := List.mem_filter.mpr ⟨List.mem_of_getElem? (i := 1026) (by decide +kernel), by decide +kernel⟩
theorem lk_X6_106 : LK RX6 106 yX6_forks := Or.inl lkm_X6_106
theorem im_X6_forks : Cond.instanceMethod yX6_forks ∈ lw_g := List.mem_filter.mpr ⟨List.mem_of_getElem? (i := 1028) (by decide +kernel), by decide +kernel⟩
theorem cm_X6_forks : CM uX6_forks 2 := ⟨code_X6_forks, ini_X6, ⟨by decide +kernel, by decide +kernel⟩, by decide +kernel, by decide⟩
theorem lkm_X6_109 : Cond.methodLink RX6 109 yX6_says ∈ lw_g := List.mem_filter.mpr ⟨List.mem_of_getElem? (i := 1030) (by decide +kernel), by decide +kernel⟩
theorem lk_X6_109 : LK RX6 109 yX6_says := Or.inl lkm_X6_109
theorem im_X6_says : Cond.instanceMethod yX6_says ∈ lw_g := List.mem_filter.mpr ⟨List.mem_of_getElem? (i := 1032) (by decide +kernel), by decide +kernel⟩
theorem cm_X6_says : CM uX6_says 2 := ⟨code_X6_says, ini_X6, ⟨by decide +kernel, by decide +kernel⟩, by decide +kernel, by decide⟩
theorem lkm_X6_133 : Cond.methodLink RX6 133 yX6_isOf ∈ lw_g := List.mem_filter.mpr ⟨List.mem_of_getElem? (i := 1034) (by decide +kernel), by decide +kernel⟩
theorem lk_X6_133 : LK RX6 133 yX6_isOf := Or.inl lkm_X6_133
theorem sm_X6_isOf : Cond.static yX6_isOf ∈ lw_g := List.mem_filter.mpr ⟨List.mem_of_getElem? (i := 1035) (by decide +kernel), by decide +kernel⟩
theorem cm_X6_isOf : CM uX6_isOf 2 := ⟨code_X6_isOf, ini_X6, ⟨by decide +kernel, by decide +kernel⟩, by decide +kernel, by decide⟩
theorem cs_X6_112 : Jvm.Cond.constantLong RX6 112 3 ∈ lw_g := List.mem_filter.mpr ⟨List.mem_of_getElem? (i := 1037) (by decide +kernel), by decide +kernel⟩
theorem lkm_X6_114 : Cond.methodLink RX6 114 yX6_smalls ∈ lw_g := List.mem_filter.mpr ⟨List.mem_of_getElem? (i := 1038) (by decide +kernel), by decide +kernel⟩
theorem lk_X6_114 : LK RX6 114 yX6_smalls := Or.inl lkm_X6_114
theorem im_X6_smalls : Cond.instanceMethod yX6_smalls ∈ lw_g := List.mem_filter.mpr ⟨List.mem_of_getElem? (i := 1040) (by decide +kernel), by decide +kernel⟩
theorem cm_X6_smalls : CM uX6_smalls 3 := ⟨code_X6_smalls, ini_X6, ⟨by decide +kernel, by decide +kernel⟩, by decide +kernel, by decide⟩
theorem lkm_X6_85 : Cond.methodLink RX6 85 yX6_ends ∈ lw_g := List.mem_filter.mpr ⟨List.mem_of_getElem? (i := 1042) (by decide +kernel), by decide +kernel⟩
theorem lk_X6_85 : LK RX6 85 yX6_ends := Or.inl lkm_X6_85
theorem im_X6_ends : Cond.instanceMethod yX6_ends ∈ lw_g := List.mem_filter.mpr ⟨List.mem_of_getElem? (i := 1044) (by decide +kernel), by decide +kernel⟩
theorem cm_X6_ends : CM uX6_ends 2 := ⟨code_X6_ends, ini_X6, ⟨by decide +kernel, by decide +kernel⟩, by decide +kernel, by decide⟩
theorem lkm_L_56 : Cond.methodLink RL 56 yX6_chosen ∈ lw_g := List.mem_filter.mpr ⟨List.mem_of_getElem? (i := 1046) (by decide +kernel), by decide +kernel⟩
theorem lk_L_56 : LK RL 56 yX6_chosen := Or.inl lkm_L_56
theorem im_X6_chosen : Cond.instanceMethod yX6_chosen ∈ lw_g := List.mem_filter.mpr ⟨List.mem_of_getElem? (i := 1047) (by decide +kernel), by decide +kernel⟩
theorem sel_X6_chosen : Cond.selects RX6 yX6_chosen yX6_chosen ∈ lw_g := List.mem_filter.mpr ⟨List.mem_of_getElem? (i := 1048) (by decide +kernel), by decide +kernel⟩
theorem cm_X6_chosen : CM uX6_chosen 1 := ⟨code_X6_chosen, ini_X6, ⟨by decide +kernel, by decide +kernel⟩, by decide +kernel, by decide⟩
theorem lkm_L_60 : Cond.methodLink RL 60 yX6_about ∈ lw_g := List.mem_filter.mpr ⟨List.mem_of_getElem? (i := 1050) (by decide +kernel), by decide +kernel⟩
theorem lk_L_60 : LK RL 60 yX6_about := Or.inl lkm_L_60
theorem im_X6_about : Cond.instanceMethod yX6_about ∈ lw_g := List.mem_filter.mpr ⟨List.mem_of_getElem? (i := 1051) (by decide +kernel), by decide +kernel⟩
theorem sel_X6_about : Cond.selects RX6 yX6_about yX6_about ∈ lw_g := List.mem_filter.mpr ⟨List.mem_of_getElem? (i := 1052) (by decide +kernel), by decide +kernel⟩
theorem cm_X6_about : CM uX6_about 2 := ⟨code_X6_about, ini_X6, ⟨by decide +kernel, by decide +kernel⟩, by decide +kernel, by decide⟩
theorem cs_X6_170 : Jvm.Cond.constantLong RX6 170 14 ∈ lw_g := List.mem_filter.mpr ⟨List.mem_of_getElem? (i := 1054) (by decide +kernel), by decide +kernel⟩
theorem cs_X6_172 : Jvm.Cond.constantLong RX6 172 10 ∈ lw_g := List.mem_filter.mpr ⟨List.mem_of_getElem? (i := 1055) (by decide +kernel), by decide +kernel⟩
theorem cs_X6_174 : Jvm.Cond.constantLong RX6 174 13 ∈ lw_g := List.mem_filter.mpr ⟨List.mem_of_getElem? (i := 1056) (by decide +kernel), by decide +kernel⟩
theorem lkm_L_65 : Cond.methodLink RL 65 yX6_virtual ∈ lw_g := List.mem_filter.mpr ⟨List.mem_of_getElem? (i := 1057) (by decide +kernel), by decide +kernel⟩
theorem lk_L_65 : LK RL 65 yX6_virtual := Or.inl lkm_L_65
theorem im_X6_virtual : Cond.instanceMethod yX6_virtual ∈ lw_g := List.mem_filter.mpr ⟨List.mem_of_getElem? (i := 1058) (by decide +kernel), by decide +kernel⟩
theorem sel_X6_virtual : Cond.selects RX6 yX6_virtual yX6_virtual ∈ lw_g := List.mem_filter.mpr ⟨List.mem_of_getElem? (i := 1059) (by decide +kernel), by decide +kernel⟩
theorem cm_X6_virtual : CM uX6_virtual 1 := ⟨code_X6_virtual, ini_X6, ⟨by decide +kernel, by decide +kernel⟩, by decide +kernel, by decide⟩
theorem cs_X6_176 : Jvm.Cond.constantLong RX6 176 (-1) ∈ lw_g := List.mem_filter.mpr ⟨List.mem_of_getElem? (i := 1061) (by decide +kernel), by decide +kernel⟩
theorem lkm_L_69 : Cond.methodLink RL 69 yX6_small ∈ lw_g := List.mem_filter.mpr ⟨List.mem_of_getElem? (i := 1062) (by decide +kernel), by decide +kernel⟩
theorem lk_L_69 : LK RL 69 yX6_small := Or.inl lkm_L_69
theorem im_X6_small : Cond.instanceMethod yX6_small ∈ lw_g := List.mem_filter.mpr ⟨List.mem_of_getElem? (i := 1063) (by decide +kernel), by decide +kernel⟩
theorem sel_X6_small : Cond.selects RX6 yX6_small yX6_small ∈ lw_g := List.mem_filter.mpr ⟨List.mem_of_getElem? (i := 1064) (by decide +kernel), by decide +kernel⟩
theorem cm_X6_small : CM uX6_small 2 := ⟨code_X6_small, ini_X6, ⟨by decide +kernel, by decide +kernel⟩, by decide +kernel, by decide⟩
theorem lkm_L_74 : Cond.methodLink RL 74 yX6_standing ∈ lw_g := List.mem_filter.mpr ⟨List.mem_of_getElem? (i := 1066) (by decide +kernel), by decide +kernel⟩
theorem lk_L_74 : LK RL 74 yX6_standing := Or.inl lkm_L_74
theorem im_X6_standing : Cond.instanceMethod yX6_standing ∈ lw_g := List.mem_filter.mpr ⟨List.mem_of_getElem? (i := 1067) (by decide +kernel), by decide +kernel⟩
theorem sel_X6_standing : Cond.selects RX6 yX6_standing yX6_standing ∈ lw_g := List.mem_filter.mpr ⟨List.mem_of_getElem? (i := 1068) (by decide +kernel), by decide +kernel⟩
theorem cm_X6_standing : CM uX6_standing 2 := ⟨code_X6_standing, ini_X6, ⟨by decide +kernel, by decide +kernel⟩, by decide +kernel, by decide⟩
theorem cs_X6_178 : Jvm.Cond.constantLong RX6 178 2 ∈ lw_g := List.mem_filter.mpr ⟨List.mem_of_getElem? (i := 1070) (by decide +kernel), by decide +kernel⟩
theorem lkm_L_78 : Cond.methodLink RL 78 yX6_holder ∈ lw_g := List.mem_filter.mpr ⟨List.mem_of_getElem? (i := 1071) (by decide +kernel), by decide +kernel⟩
theorem lk_L_78 : LK RL 78 yX6_holder := Or.inl lkm_L_78
theorem im_X6_holder : Cond.instanceMethod yX6_holder ∈ lw_g := List.mem_filter.mpr ⟨List.mem_of_getElem? (i := 1072) (by decide +kernel), by decide +kernel⟩
theorem sel_X6_holder : Cond.selects RX6 yX6_holder yX6_holder ∈ lw_g := List.mem_filter.mpr ⟨List.mem_of_getElem? (i := 1073) (by decide +kernel), by decide +kernel⟩
theorem cm_X6_holder : CM uX6_holder 1 := ⟨code_X6_holder, ini_X6, ⟨by decide +kernel, by decide +kernel⟩, by decide +kernel, by decide⟩
theorem lkm_L_82 : Cond.methodLink RL 82 yX6_ringed ∈ lw_g := List.mem_filter.mpr ⟨List.mem_of_getElem? (i := 1075) (by decide +kernel), by decide +kernel⟩
theorem lk_L_82 : LK RL 82 yX6_ringed := Or.inl lkm_L_82
theorem im_X6_ringed : Cond.instanceMethod yX6_ringed ∈ lw_g := List.mem_filter.mpr ⟨List.mem_of_getElem? (i := 1076) (by decide +kernel), by decide +kernel⟩
theorem sel_X6_ringed : Cond.selects RX6 yX6_ringed yX6_ringed ∈ lw_g := List.mem_filter.mpr ⟨List.mem_of_getElem? (i := 1077) (by decide +kernel), by decide +kernel⟩
theorem cm_X6_ringed : CM uX6_ringed 1 := ⟨code_X6_ringed, ini_X6, ⟨by decide +kernel, by decide +kernel⟩, by decide +kernel, by decide⟩
theorem lkm_L_86 : Cond.methodLink RL 86 yX6_row ∈ lw_g := List.mem_filter.mpr ⟨List.mem_of_getElem? (i := 1079) (by decide +kernel), by decide +kernel⟩
theorem lk_L_86 : LK RL 86 yX6_row := Or.inl lkm_L_86
theorem im_X6_row : Cond.instanceMethod yX6_row ∈ lw_g := List.mem_filter.mpr ⟨List.mem_of_getElem? (i := 1080) (by decide +kernel), by decide +kernel⟩
theorem sel_X6_row : Cond.selects RX6 yX6_row yX6_row ∈ lw_g := List.mem_filter.mpr ⟨List.mem_of_getElem? (i := 1081) (by decide +kernel), by decide +kernel⟩
theorem cm_X6_row : CM uX6_row 2 := ⟨code_X6_row, ini_X6, ⟨by decide +kernel, by decide +kernel⟩, by decide +kernel, by decide⟩
theorem lkm_X6_180 : Cond.methodLink RX6 180 yX6_isRow ∈ lw_g := List.mem_filter.mpr ⟨List.mem_of_getElem? (i := 1083) (by decide +kernel), by decide +kernel⟩
theorem lk_X6_180 : LK RX6 180 yX6_isRow := Or.inl lkm_X6_180
theorem im_X6_isRow : Cond.instanceMethod yX6_isRow ∈ lw_g := List.mem_filter.mpr ⟨List.mem_of_getElem? (i := 1085) (by decide +kernel), by decide +kernel⟩
theorem cm_X6_isRow : CM uX6_isRow 2 := ⟨code_X6_isRow, ini_X6, ⟨by decide +kernel, by decide +kernel⟩, by decide +kernel, by decide⟩
theorem lkm_L_90 : Cond.methodLink RL 90 yX6_forge ∈ lw_g := List.mem_filter.mpr ⟨List.mem_of_getElem? (i := 1087) (by decide +kernel), by decide +kernel⟩
theorem lk_L_90 : LK RL 90 yX6_forge := Or.inl lkm_L_90
theorem im_X6_forge : Cond.instanceMethod yX6_forge ∈ lw_g := List.mem_filter.mpr ⟨List.mem_of_getElem? (i := 1088) (by decide +kernel), by decide +kernel⟩
theorem sel_X6_forge : Cond.selects RX6 yX6_forge yX6_forge ∈ lw_g := List.mem_filter.mpr ⟨List.mem_of_getElem? (i := 1089) (by decide +kernel), by decide +kernel⟩
theorem cm_X6_forge : CM uX6_forge 3 := ⟨code_X6_forge, ini_X6, ⟨by decide +kernel, by decide +kernel⟩, by decide +kernel, by decide⟩
theorem lkm_L_95 : Cond.methodLink RL 95 yX6_check ∈ lw_g := List.mem_filter.mpr ⟨List.mem_of_getElem? (i := 1091) (by decide +kernel), by decide +kernel⟩
theorem lk_L_95 : LK RL 95 yX6_check := Or.inl lkm_L_95
theorem im_X6_check : Cond.instanceMethod yX6_check ∈ lw_g := List.mem_filter.mpr ⟨List.mem_of_getElem? (i := 1092) (by decide +kernel), by decide +kernel⟩
theorem sel_X6_check : Cond.selects RX6 yX6_check yX6_check ∈ lw_g := List.mem_filter.mpr ⟨List.mem_of_getElem? (i := 1093) (by decide +kernel), by decide +kernel⟩
theorem cm_X6_check : CM uX6_check 0 := ⟨code_X6_check, ini_X6, ⟨by decide +kernel, by decide +kernel⟩, by decide +kernel, by decide⟩
theorem lkm_L_99 : Cond.methodLink RL 99 yX6_checkedTo ∈ lw_g := List.mem_filter.mpr ⟨List.mem_of_getElem? (i := 1095) (by decide +kernel), by decide +kernel⟩
theorem lk_L_99 : LK RL 99 yX6_checkedTo := Or.inl lkm_L_99
theorem im_X6_checkedTo : Cond.instanceMethod yX6_checkedTo ∈ lw_g := List.mem_filter.mpr ⟨List.mem_of_getElem? (i := 1096) (by decide +kernel), by decide +kernel⟩
theorem sel_X6_checkedTo : Cond.selects RX6 yX6_checkedTo yX6_checkedTo ∈ lw_g := List.mem_filter.mpr ⟨List.mem_of_getElem? (i := 1097) (by decide +kernel), by decide +kernel⟩
theorem cm_X6_checkedTo : CM uX6_checkedTo 0 := ⟨code_X6_checkedTo, ini_X6, ⟨by decide +kernel, by decide +kernel⟩, by decide +kernel, by decide⟩
theorem lkm_L_103 : Cond.methodLink RL 103 yX6_bound ∈ lw_g := List.mem_filter.mpr ⟨List.mem_of_getElem? (i := 1099) (by decide +kernel), by decide +kernel⟩
theorem lk_L_103 : LK RL 103 yX6_bound := Or.inl lkm_L_103
theorem im_X6_bound : Cond.instanceMethod yX6_bound ∈ lw_g := List.mem_filter.mpr ⟨List.mem_of_getElem? (i := 1100) (by decide +kernel), by decide +kernel⟩
theorem sel_X6_bound : Cond.selects RX6 yX6_bound yX6_bound ∈ lw_g := List.mem_filter.mpr ⟨List.mem_of_getElem? (i := 1101) (by decide +kernel), by decide +kernel⟩
theorem cm_X6_bound : CM uX6_bound 1 := ⟨code_X6_bound, ini_X6, ⟨by decide +kernel, by decide +kernel⟩, by decide +kernel, by decide⟩
theorem lkm_X6_185 : Cond.methodLink RX6 185 yX6_payments ∈ lw_g := List.mem_filter.mpr ⟨List.mem_of_getElem? (i := 1103) (by decide +kernel), by decide +kernel⟩
theorem lk_X6_185 : LK RX6 185 yX6_payments := Or.inl lkm_X6_185
theorem im_X6_payments : Cond.instanceMethod yX6_payments ∈ lw_g := List.mem_filter.mpr ⟨List.mem_of_getElem? (i := 1105) (by decide +kernel), by decide +kernel⟩
theorem cm_X6_payments : CM uX6_payments 3 := ⟨code_X6_payments, ini_X6, ⟨by decide +kernel, by decide +kernel⟩, by decide +kernel, by decide⟩
theorem cs_X6_183 : Jvm.Cond.constantLong RX6 183 999 ∈ lw_g := List.mem_filter.mpr ⟨List.mem_of_getElem? (i := 1107) (by decide +kernel), by decide +kernel⟩
theorem lkm_X6_189 : Cond.methodLink RX6 189 yJ9_max_f86c9 ∈ lw_g := List.mem_filter.mpr ⟨List.mem_of_getElem? (i := 1108) (by decide +kernel), by decide +kernel⟩
theorem lk_X6_189 : LK RX6 189 yJ9_max_f86c9 := Or.inl lkm_X6_189
theorem lkm_L_107 : Cond.methodLink RL 107 yX6_trace ∈ lw_g := List.mem_filter.mpr ⟨List.mem_of_getElem? (i := 1109) (by decide +kernel), by decide +kernel⟩
theorem lk_L_107 : LK RL 107 yX6_trace := Or.inl lkm_L_107
theorem im_X6_trace : Cond.instanceMethod yX6_trace ∈ lw_g := List.mem_filter.mpr ⟨List.mem_of_getElem? (i := 1110) (by decide +kernel), by decide +kernel⟩
theorem sel_X6_trace : Cond.selects RX6 yX6_trace yX6_trace ∈ lw_g := List.mem_filter.mpr ⟨List.mem_of_getElem? (i := 1111) (by decide +kernel), by decide +kernel⟩
theorem cm_X6_trace : CM uX6_trace 1 := ⟨code_X6_trace, ini_X6, ⟨by decide +kernel, by decide +kernel⟩, by decide +kernel, by decide⟩
theorem cs_X6_192 : Jvm.Cond.constantLong RX6 192 11 ∈ lw_g := List.mem_filter.mpr ⟨List.mem_of_getElem? (i := 1113) (by decide +kernel), by decide +kernel⟩
theorem lkm_L_111 : Cond.methodLink RL 111 yX6_count ∈ lw_g := List.mem_filter.mpr ⟨List.mem_of_getElem? (i := 1114) (by decide +kernel), by decide +kernel⟩
theorem lk_L_111 : LK RL 111 yX6_count := Or.inl lkm_L_111
theorem im_X6_count : Cond.instanceMethod yX6_count ∈ lw_g := List.mem_filter.mpr ⟨List.mem_of_getElem? (i := 1115) (by decide +kernel), by decide +kernel⟩
theorem sel_X6_count : Cond.selects RX6 yX6_count yX6_count ∈ lw_g := List.mem_filter.mpr ⟨List.mem_of_getElem? (i := 1116) (by decide +kernel), by decide +kernel⟩
theorem cm_X6_count : CM uX6_count 1 := ⟨code_X6_count, ini_X6, ⟨by decide +kernel, by decide +kernel⟩, by decide +kernel, by decide⟩
theorem lkm_L_116 : Cond.methodLink RL 116 yX6_image ∈ lw_g := List.mem_filter.mpr ⟨List.mem_of_getElem? (i := 1118) (by decide +kernel), by decide +kernel⟩
theorem lk_L_116 : LK RL 116 yX6_image := Or.inl lkm_L_116
theorem im_X6_image : Cond.instanceMethod yX6_image ∈ lw_g := List.mem_filter.mpr ⟨List.mem_of_getElem? (i := 1119) (by decide +kernel), by decide +kernel⟩
theorem sel_X6_image : Cond.selects RX6 yX6_image yX6_image ∈ lw_g := List.mem_filter.mpr ⟨List.mem_of_getElem? (i := 1120) (by decide +kernel), by decide +kernel⟩
theorem cm_X6_image : CM uX6_image 0 := ⟨code_X6_image, ini_X6, ⟨by decide +kernel, by decide +kernel⟩, by decide +kernel, by decide⟩
theorem lkm_X6_198 : Cond.methodLink RX6 198 yX6_digest ∈ lw_g := List.mem_filter.mpr ⟨List.mem_of_getElem? (i := 1122) (by decide +kernel), by decide +kernel⟩
theorem lk_X6_198 : LK RX6 198 yX6_digest := Or.inl lkm_X6_198
theorem im_X6_digest : Cond.instanceMethod yX6_digest ∈ lw_g := List.mem_filter.mpr ⟨List.mem_of_getElem? (i := 1123) (by decide +kernel), by decide +kernel⟩
theorem sel_X6_digest : Cond.selects RX6 yX6_digest yX6_digest ∈ lw_g := List.mem_filter.mpr ⟨List.mem_of_getElem? (i := 1124) (by decide +kernel), by decide +kernel⟩
theorem cm_X6_digest : CM uX6_digest 0 := ⟨code_X6_digest, ini_X6, ⟨by decide +kernel, by decide +kernel⟩, by decide +kernel, by decide⟩
theorem cs_X6_202 : Jvm.Cond.constantLong RX6 202 7 ∈ lw_g := List.mem_filter.mpr ⟨List.mem_of_getElem? (i := 1126) (by decide +kernel), by decide +kernel⟩
theorem lkm_X6_204 : Cond.methodLink RX6 204 yX6_about ∈ lw_g := List.mem_filter.mpr ⟨List.mem_of_getElem? (i := 1127) (by decide +kernel), by decide +kernel⟩
theorem lk_X6_204 : LK RX6 204 yX6_about := Or.inl lkm_X6_204
theorem lkm_L_121 : Cond.methodLink RL 121 yX6_load ∈ lw_g := List.mem_filter.mpr ⟨List.mem_of_getElem? (i := 1128) (by decide +kernel), by decide +kernel⟩
theorem lk_L_121 : LK RL 121 yX6_load := Or.inl lkm_L_121
theorem im_X6_load : Cond.instanceMethod yX6_load ∈ lw_g := List.mem_filter.mpr ⟨List.mem_of_getElem? (i := 1129) (by decide +kernel), by decide +kernel⟩
theorem sel_X6_load : Cond.selects RX6 yX6_load yX6_load ∈ lw_g := List.mem_filter.mpr ⟨List.mem_of_getElem? (i := 1130) (by decide +kernel), by decide +kernel⟩
theorem cm_X6_load : CM uX6_load 0 := ⟨code_X6_load, ini_X6, ⟨by decide +kernel, by decide +kernel⟩, by decide +kernel, by decide⟩
theorem lkm_L_125 : Cond.methodLink RL 125 yX6_digest ∈ lw_g := List.mem_filter.mpr ⟨List.mem_of_getElem? (i := 1132) (by decide +kernel), by decide +kernel⟩
theorem lk_L_125 : LK RL 125 yX6_digest := Or.inl lkm_L_125
theorem lkm_L_129 : Cond.methodLink RL 129 yX6_status ∈ lw_g := List.mem_filter.mpr ⟨List.mem_of_getElem? (i := 1133) (by decide +kernel), by decide +kernel⟩
theorem lk_L_129 : LK RL 129 yX6_status := Or.inl lkm_L_129
theorem im_X6_status : Cond.instanceMethod yX6_status ∈ lw_g := List.mem_filter.mpr ⟨List.mem_of_getElem? (i := 1134) (by decide +kernel), by decide +kernel⟩
theorem sel_X6_status : Cond.selects RX6 yX6_status yX6_status ∈ lw_g := List.mem_filter.mpr ⟨List.mem_of_getElem? (i := 1135) (by decide +kernel), by decide +kernel⟩
theorem cm_X6_status : CM uX6_status 0 := ⟨code_X6_status, ini_X6, ⟨by decide +kernel, by decide +kernel⟩, by decide +kernel, by decide⟩
theorem cs_L_13 : Jvm.Cond.constantLong RL 13 4294967295 ∈ lw_g := List.mem_filter.mpr ⟨List.mem_of_getElem? (i := 1137) (by decide +kernel), by decide +kernel⟩
theorem sel_X0_programAt : Cond.selects RX0 yX0_programAt yX0_programAt ∈ lw_g := List.mem_filter.mpr ⟨List.mem_of_getElem? (i := 0) (by decide +kernel), by decide +kernel⟩
theorem sel_X5_refused : Cond.selects RX5 yX5_refused yX5_refused ∈ lw_g := List.mem_filter.mpr ⟨List.mem_of_getElem? (i := 1) (by decide +kernel), by decide +kernel⟩
theorem sel_X2_length : Cond.selects RX2 yX2_length yX2_length ∈ lw_g := List.mem_filter.mpr ⟨List.mem_of_getElem? (i := 2) (by decide +kernel), by decide +kernel⟩
theorem sel_X5_noted : Cond.selects RX5 yX5_noted yX5_noted ∈ lw_g := List.mem_filter.mpr ⟨List.mem_of_getElem? (i := 3) (by decide +kernel), by decide +kernel⟩
theorem sel_X1_add : Cond.selects RX1 yX1_add yX1_add ∈ lw_g := List.mem_filter.mpr ⟨List.mem_of_getElem? (i := 4) (by decide +kernel), by decide +kernel⟩
theorem sel_X2_extend : Cond.selects RX2 yX2_extend yX2_extend ∈ lw_g := List.mem_filter.mpr ⟨List.mem_of_getElem? (i := 5) (by decide +kernel), by decide +kernel⟩
theorem sel_X0_addTask : Cond.selects RX0 yX0_addTask yX0_addTask ∈ lw_g := List.mem_filter.mpr ⟨List.mem_of_getElem? (i := 6) (by decide +kernel), by decide +kernel⟩
theorem sel_X0_leastVirtual : Cond.selects RX0 yX0_leastVirtual yX0_leastVirtual ∈ lw_g := List.mem_filter.mpr ⟨List.mem_of_getElem? (i := 7) (by decide +kernel), by decide +kernel⟩
theorem sel_X4_begin : Cond.selects RX4 yX4_begin yX4_begin ∈ lw_g := List.mem_filter.mpr ⟨List.mem_of_getElem? (i := 8) (by decide +kernel), by decide +kernel⟩
theorem sel_X4_startPeriod : Cond.selects RX4 yX4_startPeriod yX4_startPeriod ∈ lw_g := List.mem_filter.mpr ⟨List.mem_of_getElem? (i := 9) (by decide +kernel), by decide +kernel⟩
theorem sel_X0_unendedTask : Cond.selects RX0 yX0_unendedTask yX0_unendedTask ∈ lw_g := List.mem_filter.mpr ⟨List.mem_of_getElem? (i := 10) (by decide +kernel), by decide +kernel⟩
theorem sel_X0_taskAt : Cond.selects RX0 yX0_taskAt yX0_taskAt ∈ lw_g := List.mem_filter.mpr ⟨List.mem_of_getElem? (i := 11) (by decide +kernel), by decide +kernel⟩
theorem sel_X4_changeShare : Cond.selects RX4 yX4_changeShare yX4_changeShare ∈ lw_g := List.mem_filter.mpr ⟨List.mem_of_getElem? (i := 12) (by decide +kernel), by decide +kernel⟩
theorem sel_X4_hasDeadline : Cond.selects RX4 yX4_hasDeadline yX4_hasDeadline ∈ lw_g := List.mem_filter.mpr ⟨List.mem_of_getElem? (i := 13) (by decide +kernel), by decide +kernel⟩
theorem sel_X0_changeProcessors : Cond.selects RX0 yX0_changeProcessors yX0_changeProcessors ∈ lw_g := List.mem_filter.mpr ⟨List.mem_of_getElem? (i := 14) (by decide +kernel), by decide +kernel⟩
theorem sel_X0_holderOf : Cond.selects RX0 yX0_holderOf yX0_holderOf ∈ lw_g := List.mem_filter.mpr ⟨List.mem_of_getElem? (i := 15) (by decide +kernel), by decide +kernel⟩
theorem sel_X0_addLock : Cond.selects RX0 yX0_addLock yX0_addLock ∈ lw_g := List.mem_filter.mpr ⟨List.mem_of_getElem? (i := 16) (by decide +kernel), by decide +kernel⟩
theorem sel_X0_ringBell : Cond.selects RX0 yX0_ringBell yX0_ringBell ∈ lw_g := List.mem_filter.mpr ⟨List.mem_of_getElem? (i := 17) (by decide +kernel), by decide +kernel⟩
theorem sel_X4_wake : Cond.selects RX4 yX4_wake yX4_wake ∈ lw_g := List.mem_filter.mpr ⟨List.mem_of_getElem? (i := 18) (by decide +kernel), by decide +kernel⟩
theorem sel_X0_goOn : Cond.selects RX0 yX0_goOn yX0_goOn ∈ lw_g := List.mem_filter.mpr ⟨List.mem_of_getElem? (i := 19) (by decide +kernel), by decide +kernel⟩
theorem sel_X3_haveRoom : Cond.selects RX3 yX3_haveRoom yX3_haveRoom ∈ lw_g := List.mem_filter.mpr ⟨List.mem_of_getElem? (i := 20) (by decide +kernel), by decide +kernel⟩
theorem sel_X0_quietTicks : Cond.selects RX0 yX0_quietTicks yX0_quietTicks ∈ lw_g := List.mem_filter.mpr ⟨List.mem_of_getElem? (i := 21) (by decide +kernel), by decide +kernel⟩
theorem sel_X0_wakeAndRefill : Cond.selects RX0 yX0_wakeAndRefill yX0_wakeAndRefill ∈ lw_g := List.mem_filter.mpr ⟨List.mem_of_getElem? (i := 22) (by decide +kernel), by decide +kernel⟩
theorem sel_X0_choose : Cond.selects RX0 yX0_choose yX0_choose ∈ lw_g := List.mem_filter.mpr ⟨List.mem_of_getElem? (i := 23) (by decide +kernel), by decide +kernel⟩
theorem sel_X0_settle : Cond.selects RX0 yX0_settle yX0_settle ∈ lw_g := List.mem_filter.mpr ⟨List.mem_of_getElem? (i := 24) (by decide +kernel), by decide +kernel⟩
theorem sel_X4_rank : Cond.selects RX4 yX4_rank yX4_rank ∈ lw_g := List.mem_filter.mpr ⟨List.mem_of_getElem? (i := 25) (by decide +kernel), by decide +kernel⟩
theorem sel_X0_blockerOf : Cond.selects RX0 yX0_blockerOf yX0_blockerOf ∈ lw_g := List.mem_filter.mpr ⟨List.mem_of_getElem? (i := 26) (by decide +kernel), by decide +kernel⟩
theorem sel_X0_foremostBehind : Cond.selects RX0 yX0_foremostBehind yX0_foremostBehind ∈ lw_g := List.mem_filter.mpr ⟨List.mem_of_getElem? (i := 27) (by decide +kernel), by decide +kernel⟩
theorem sel_X3_add : Cond.selects RX3 yX3_add yX3_add ∈ lw_g := List.mem_filter.mpr ⟨List.mem_of_getElem? (i := 28) (by decide +kernel), by decide +kernel⟩
theorem sel_X0_turn : Cond.selects RX0 yX0_turn yX0_turn ∈ lw_g := List.mem_filter.mpr ⟨List.mem_of_getElem? (i := 29) (by decide +kernel), by decide +kernel⟩
theorem sel_X0_pay : Cond.selects RX0 yX0_pay yX0_pay ∈ lw_g := List.mem_filter.mpr ⟨List.mem_of_getElem? (i := 30) (by decide +kernel), by decide +kernel⟩
theorem sel_X4_payOnce : Cond.selects RX4 yX4_payOnce yX4_payOnce ∈ lw_g := List.mem_filter.mpr ⟨List.mem_of_getElem? (i := 31) (by decide +kernel), by decide +kernel⟩
theorem sel_X0_act : Cond.selects RX0 yX0_act yX0_act ∈ lw_g := List.mem_filter.mpr ⟨List.mem_of_getElem? (i := 32) (by decide +kernel), by decide +kernel⟩
theorem sel_X0_readable : Cond.selects RX0 yX0_readable yX0_readable ∈ lw_g := List.mem_filter.mpr ⟨List.mem_of_getElem? (i := 33) (by decide +kernel), by decide +kernel⟩
theorem sel_X2_byteAt : Cond.selects RX2 yX2_byteAt yX2_byteAt ∈ lw_g := List.mem_filter.mpr ⟨List.mem_of_getElem? (i := 34) (by decide +kernel), by decide +kernel⟩
theorem sel_X0_take : Cond.selects RX0 yX0_take yX0_take ∈ lw_g := List.mem_filter.mpr ⟨List.mem_of_getElem? (i := 35) (by decide +kernel), by decide +kernel⟩
theorem sel_X0_leadsTo : Cond.selects RX0 yX0_leadsTo yX0_leadsTo ∈ lw_g := List.mem_filter.mpr ⟨List.mem_of_getElem? (i := 36) (by decide +kernel), by decide +kernel⟩
theorem sel_X0_keepRing : Cond.selects RX0 yX0_keepRing yX0_keepRing ∈ lw_g := List.mem_filter.mpr ⟨List.mem_of_getElem? (i := 37) (by decide +kernel), by decide +kernel⟩
theorem sel_X0_beginWait : Cond.selects RX0 yX0_beginWait yX0_beginWait ∈ lw_g := List.mem_filter.mpr ⟨List.mem_of_getElem? (i := 38) (by decide +kernel), by decide +kernel⟩
theorem sel_X0_give : Cond.selects RX0 yX0_give yX0_give ∈ lw_g := List.mem_filter.mpr ⟨List.mem_of_getElem? (i := 39) (by decide +kernel), by decide +kernel⟩
theorem sel_X0_handOver : Cond.selects RX0 yX0_handOver yX0_handOver ∈ lw_g := List.mem_filter.mpr ⟨List.mem_of_getElem? (i := 40) (by decide +kernel), by decide +kernel⟩
theorem sel_X0_waitForBell : Cond.selects RX0 yX0_waitForBell yX0_waitForBell ∈ lw_g := List.mem_filter.mpr ⟨List.mem_of_getElem? (i := 41) (by decide +kernel), by decide +kernel⟩
theorem sel_X0_ringFrom : Cond.selects RX0 yX0_ringFrom yX0_ringFrom ∈ lw_g := List.mem_filter.mpr ⟨List.mem_of_getElem? (i := 42) (by decide +kernel), by decide +kernel⟩
theorem sel_X0_sleep : Cond.selects RX0 yX0_sleep yX0_sleep ∈ lw_g := List.mem_filter.mpr ⟨List.mem_of_getElem? (i := 43) (by decide +kernel), by decide +kernel⟩
theorem sel_X0_spawn : Cond.selects RX0 yX0_spawn yX0_spawn ∈ lw_g := List.mem_filter.mpr ⟨List.mem_of_getElem? (i := 44) (by decide +kernel), by decide +kernel⟩
theorem sel_X0_getShorts : Cond.selects RX0 yX0_getShorts yX0_getShorts ∈ lw_g := List.mem_filter.mpr ⟨List.mem_of_getElem? (i := 45) (by decide +kernel), by decide +kernel⟩
theorem sel_X4_makeShorts : Cond.selects RX4 yX4_makeShorts yX4_makeShorts ∈ lw_g := List.mem_filter.mpr ⟨List.mem_of_getElem? (i := 46) (by decide +kernel), by decide +kernel⟩
theorem sel_X0_stamp : Cond.selects RX0 yX0_stamp yX0_stamp ∈ lw_g := List.mem_filter.mpr ⟨List.mem_of_getElem? (i := 47) (by decide +kernel), by decide +kernel⟩
theorem sel_X4_setShort : Cond.selects RX4 yX4_setShort yX4_setShort ∈ lw_g := List.mem_filter.mpr ⟨List.mem_of_getElem? (i := 48) (by decide +kernel), by decide +kernel⟩
theorem sel_X4_hasShort : Cond.selects RX4 yX4_hasShort yX4_hasShort ∈ lw_g := List.mem_filter.mpr ⟨List.mem_of_getElem? (i := 49) (by decide +kernel), by decide +kernel⟩
theorem sel_X0_findShort : Cond.selects RX0 yX0_findShort yX0_findShort ∈ lw_g := List.mem_filter.mpr ⟨List.mem_of_getElem? (i := 50) (by decide +kernel), by decide +kernel⟩
theorem sel_X0_claim : Cond.selects RX0 yX0_claim yX0_claim ∈ lw_g := List.mem_filter.mpr ⟨List.mem_of_getElem? (i := 51) (by decide +kernel), by decide +kernel⟩
theorem sel_X4_isOf : Cond.selects RX4 yX4_isOf yX4_isOf ∈ lw_g := List.mem_filter.mpr ⟨List.mem_of_getElem? (i := 52) (by decide +kernel), by decide +kernel⟩
theorem sel_X0_fail : Cond.selects RX0 yX0_fail yX0_fail ∈ lw_g := List.mem_filter.mpr ⟨List.mem_of_getElem? (i := 53) (by decide +kernel), by decide +kernel⟩
theorem sel_X0_workByShort : Cond.selects RX0 yX0_workByShort yX0_workByShort ∈ lw_g := List.mem_filter.mpr ⟨List.mem_of_getElem? (i := 54) (by decide +kernel), by decide +kernel⟩
theorem sel_X4_shortAt : Cond.selects RX4 yX4_shortAt yX4_shortAt ∈ lw_g := List.mem_filter.mpr ⟨List.mem_of_getElem? (i := 55) (by decide +kernel), by decide +kernel⟩
theorem sel_X0_end : Cond.selects RX0 yX0_end yX0_end ∈ lw_g := List.mem_filter.mpr ⟨List.mem_of_getElem? (i := 56) (by decide +kernel), by decide +kernel⟩
theorem sel_X4_tell : Cond.selects RX4 yX4_tell yX4_tell ∈ lw_g := List.mem_filter.mpr ⟨List.mem_of_getElem? (i := 57) (by decide +kernel), by decide +kernel⟩
theorem sel_X3_has : Cond.selects RX3 yX3_has yX3_has ∈ lw_g := List.mem_filter.mpr ⟨List.mem_of_getElem? (i := 58) (by decide +kernel), by decide +kernel⟩
theorem sel_X3_get : Cond.selects RX3 yX3_get yX3_get ∈ lw_g := List.mem_filter.mpr ⟨List.mem_of_getElem? (i := 59) (by decide +kernel), by decide +kernel⟩
theorem sel_X3_grow : Cond.selects RX3 yX3_grow yX3_grow ∈ lw_g := List.mem_filter.mpr ⟨List.mem_of_getElem? (i := 60) (by decide +kernel), by decide +kernel⟩
theorem sel_X0_clear : Cond.selects RX0 yX0_clear yX0_clear ∈ lw_g := List.mem_filter.mpr ⟨List.mem_of_getElem? (i := 61) (by decide +kernel), by decide +kernel⟩
theorem sel_X5_redo : Cond.selects RX5 yX5_redo yX5_redo ∈ lw_g := List.mem_filter.mpr ⟨List.mem_of_getElem? (i := 62) (by decide +kernel), by decide +kernel⟩
theorem sel_X1_get : Cond.selects RX1 yX1_get yX1_get ∈ lw_g := List.mem_filter.mpr ⟨List.mem_of_getElem? (i := 63) (by decide +kernel), by decide +kernel⟩
theorem sel_X3_firstUnlike : Cond.selects RX3 yX3_firstUnlike yX3_firstUnlike ∈ lw_g := List.mem_filter.mpr ⟨List.mem_of_getElem? (i := 64) (by decide +kernel), by decide +kernel⟩
theorem sel_X0_ticksUntilChosen : Cond.selects RX0 yX0_ticksUntilChosen yX0_ticksUntilChosen ∈ lw_g := List.mem_filter.mpr ⟨List.mem_of_getElem? (i := 65) (by decide +kernel), by decide +kernel⟩
theorem sel_X0_turnsAhead : Cond.selects RX0 yX0_turnsAhead yX0_turnsAhead ∈ lw_g := List.mem_filter.mpr ⟨List.mem_of_getElem? (i := 66) (by decide +kernel), by decide +kernel⟩
theorem sel_X4_paymentsBehind : Cond.selects RX4 yX4_paymentsBehind yX4_paymentsBehind ∈ lw_g := List.mem_filter.mpr ⟨List.mem_of_getElem? (i := 67) (by decide +kernel), by decide +kernel⟩
theorem sel_X0_howMany : Cond.selects RX0 yX0_howMany yX0_howMany ∈ lw_g := List.mem_filter.mpr ⟨List.mem_of_getElem? (i := 68) (by decide +kernel), by decide +kernel⟩
theorem sel_X0_become : Cond.selects RX0 yX0_become yX0_become ∈ lw_g := List.mem_filter.mpr ⟨List.mem_of_getElem? (i := 69) (by decide +kernel), by decide +kernel⟩
theorem sel_X4_become : Cond.selects RX4 yX4_become yX4_become ∈ lw_g := List.mem_filter.mpr ⟨List.mem_of_getElem? (i := 70) (by decide +kernel), by decide +kernel⟩
theorem sel_X2_become : Cond.selects RX2 yX2_become yX2_become ∈ lw_g := List.mem_filter.mpr ⟨List.mem_of_getElem? (i := 71) (by decide +kernel), by decide +kernel⟩
theorem sel_X3_become : Cond.selects RX3 yX3_become yX3_become ∈ lw_g := List.mem_filter.mpr ⟨List.mem_of_getElem? (i := 72) (by decide +kernel), by decide +kernel⟩
theorem sel_X1_become : Cond.selects RX1 yX1_become yX1_become ∈ lw_g := List.mem_filter.mpr ⟨List.mem_of_getElem? (i := 73) (by decide +kernel), by decide +kernel⟩
theorem sel_X0_summed : Cond.selects RX0 yX0_summed yX0_summed ∈ lw_g := List.mem_filter.mpr ⟨List.mem_of_getElem? (i := 74) (by decide +kernel), by decide +kernel⟩
theorem sel_X3_summed : Cond.selects RX3 yX3_summed yX3_summed ∈ lw_g := List.mem_filter.mpr ⟨List.mem_of_getElem? (i := 75) (by decide +kernel), by decide +kernel⟩
theorem sel_X6_isRefused : Cond.selects RX6 yX6_isRefused yX6_isRefused ∈ lw_g := List.mem_filter.mpr ⟨List.mem_of_getElem? (i := 76) (by decide +kernel), by decide +kernel⟩
theorem sel_X6_added : Cond.selects RX6 yX6_added yX6_added ∈ lw_g := List.mem_filter.mpr ⟨List.mem_of_getElem? (i := 77) (by decide +kernel), by decide +kernel⟩
theorem sel_X6_get : Cond.selects RX6 yX6_get yX6_get ∈ lw_g := List.mem_filter.mpr ⟨List.mem_of_getElem? (i := 78) (by decide +kernel), by decide +kernel⟩
theorem sel_X6_set : Cond.selects RX6 yX6_set yX6_set ∈ lw_g := List.mem_filter.mpr ⟨List.mem_of_getElem? (i := 79) (by decide +kernel), by decide +kernel⟩
theorem sel_X6_isLiving : Cond.selects RX6 yX6_isLiving yX6_isLiving ∈ lw_g := List.mem_filter.mpr ⟨List.mem_of_getElem? (i := 80) (by decide +kernel), by decide +kernel⟩
theorem sel_X6_isTask : Cond.selects RX6 yX6_isTask yX6_isTask ∈ lw_g := List.mem_filter.mpr ⟨List.mem_of_getElem? (i := 81) (by decide +kernel), by decide +kernel⟩
theorem sel_X6_isDue : Cond.selects RX6 yX6_isDue yX6_isDue ∈ lw_g := List.mem_filter.mpr ⟨List.mem_of_getElem? (i := 82) (by decide +kernel), by decide +kernel⟩
theorem sel_X6_ringBell : Cond.selects RX6 yX6_ringBell yX6_ringBell ∈ lw_g := List.mem_filter.mpr ⟨List.mem_of_getElem? (i := 83) (by decide +kernel), by decide +kernel⟩
theorem sel_X6_isReadyNow : Cond.selects RX6 yX6_isReadyNow yX6_isReadyNow ∈ lw_g := List.mem_filter.mpr ⟨List.mem_of_getElem? (i := 84) (by decide +kernel), by decide +kernel⟩
theorem sel_X6_tick : Cond.selects RX6 yX6_tick yX6_tick ∈ lw_g := List.mem_filter.mpr ⟨List.mem_of_getElem? (i := 85) (by decide +kernel), by decide +kernel⟩
theorem sel_X6_wakes : Cond.selects RX6 yX6_wakes yX6_wakes ∈ lw_g := List.mem_filter.mpr ⟨List.mem_of_getElem? (i := 86) (by decide +kernel), by decide +kernel⟩
theorem sel_X6_body : Cond.selects RX6 yX6_body yX6_body ∈ lw_g := List.mem_filter.mpr ⟨List.mem_of_getElem? (i := 87) (by decide +kernel), by decide +kernel⟩
theorem sel_X6_chooses : Cond.selects RX6 yX6_chooses yX6_chooses ∈ lw_g := List.mem_filter.mpr ⟨List.mem_of_getElem? (i := 88) (by decide +kernel), by decide +kernel⟩
theorem sel_X6_standingOf : Cond.selects RX6 yX6_standingOf yX6_standingOf ∈ lw_g := List.mem_filter.mpr ⟨List.mem_of_getElem? (i := 89) (by decide +kernel), by decide +kernel⟩
theorem sel_X6_isAhead : Cond.selects RX6 yX6_isAhead yX6_isAhead ∈ lw_g := List.mem_filter.mpr ⟨List.mem_of_getElem? (i := 90) (by decide +kernel), by decide +kernel⟩
theorem sel_X6_classOf : Cond.selects RX6 yX6_classOf yX6_classOf ∈ lw_g := List.mem_filter.mpr ⟨List.mem_of_getElem? (i := 91) (by decide +kernel), by decide +kernel⟩
theorem sel_X6_keyOf : Cond.selects RX6 yX6_keyOf yX6_keyOf ∈ lw_g := List.mem_filter.mpr ⟨List.mem_of_getElem? (i := 92) (by decide +kernel), by decide +kernel⟩
theorem sel_X6_puts : Cond.selects RX6 yX6_puts yX6_puts ∈ lw_g := List.mem_filter.mpr ⟨List.mem_of_getElem? (i := 93) (by decide +kernel), by decide +kernel⟩
theorem sel_X6_turn : Cond.selects RX6 yX6_turn yX6_turn ∈ lw_g := List.mem_filter.mpr ⟨List.mem_of_getElem? (i := 94) (by decide +kernel), by decide +kernel⟩
theorem sel_X6_pays : Cond.selects RX6 yX6_pays yX6_pays ∈ lw_g := List.mem_filter.mpr ⟨List.mem_of_getElem? (i := 95) (by decide +kernel), by decide +kernel⟩
theorem sel_X6_pay : Cond.selects RX6 yX6_pay yX6_pay ∈ lw_g := List.mem_filter.mpr ⟨List.mem_of_getElem? (i := 96) (by decide +kernel), by decide +kernel⟩
theorem sel_X6_act : Cond.selects RX6 yX6_act yX6_act ∈ lw_g := List.mem_filter.mpr ⟨List.mem_of_getElem? (i := 97) (by decide +kernel), by decide +kernel⟩
theorem sel_X6_takesLock : Cond.selects RX6 yX6_takesLock yX6_takesLock ∈ lw_g := List.mem_filter.mpr ⟨List.mem_of_getElem? (i := 98) (by decide +kernel), by decide +kernel⟩
theorem sel_X6_waits : Cond.selects RX6 yX6_waits yX6_waits ∈ lw_g := List.mem_filter.mpr ⟨List.mem_of_getElem? (i := 99) (by decide +kernel), by decide +kernel⟩
theorem sel_X6_givesLock : Cond.selects RX6 yX6_givesLock yX6_givesLock ∈ lw_g := List.mem_filter.mpr ⟨List.mem_of_getElem? (i := 100) (by decide +kernel), by decide +kernel⟩
theorem sel_X6_passes : Cond.selects RX6 yX6_passes yX6_passes ∈ lw_g := List.mem_filter.mpr ⟨List.mem_of_getElem? (i := 101) (by decide +kernel), by decide +kernel⟩
theorem sel_X6_forks : Cond.selects RX6 yX6_forks yX6_forks ∈ lw_g := List.mem_filter.mpr ⟨List.mem_of_getElem? (i := 102) (by decide +kernel), by decide +kernel⟩
theorem sel_X6_says : Cond.selects RX6 yX6_says yX6_says ∈ lw_g := List.mem_filter.mpr ⟨List.mem_of_getElem? (i := 103) (by decide +kernel), by decide +kernel⟩
theorem sel_X6_smalls : Cond.selects RX6 yX6_smalls yX6_smalls ∈ lw_g := List.mem_filter.mpr ⟨List.mem_of_getElem? (i := 104) (by decide +kernel), by decide +kernel⟩
theorem sel_X6_ends : Cond.selects RX6 yX6_ends yX6_ends ∈ lw_g := List.mem_filter.mpr ⟨List.mem_of_getElem? (i := 105) (by decide +kernel), by decide +kernel⟩
theorem sel_X6_isRow : Cond.selects RX6 yX6_isRow yX6_isRow ∈ lw_g := List.mem_filter.mpr ⟨List.mem_of_getElem? (i := 106) (by decide +kernel), by decide +kernel⟩
theorem sel_X6_payments : Cond.selects RX6 yX6_payments yX6_payments ∈ lw_g := List.mem_filter.mpr ⟨List.mem_of_getElem? (i := 107) (by decide +kernel), by decide +kernel⟩
