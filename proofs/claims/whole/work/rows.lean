section
-- ===== PART A: goes FIRST, ahead of the names: the tables' words, and 'selects' of the private methods out of them =====
/-- a private method of a class that the tables say can be made, by its rows of tables_1 -/
def lw_okq (q : MethodName × Nat) : Prop := (q.1.cls ≠ "java/lang/invoke/MethodHandle" ∧ q.1.cls ≠ "java/lang/invoke/VarHandle") ∧ Cond.instantiable q.1.cls q.2 ∈ tables_1 ∧ Cond.privateMethod q.1 ∈ tables_1 ∧ Cond.instanceMethod q.1 ∈ tables_1
theorem lw_p0 : lw_okq (⟨"ThimbleSwap", "worthOfAll", "()I"⟩, 17) := ⟨⟨by decide +kernel, by decide +kernel⟩, List.mem_of_getElem? (i := 14) (by decide +kernel), List.mem_of_getElem? (i := 81) (by decide +kernel), List.mem_of_getElem? (i := 82) (by decide +kernel)⟩
theorem lw_p1 : lw_okq (⟨"ThimbleSwap", "worthNow", "(I)I"⟩, 17) := ⟨⟨by decide +kernel, by decide +kernel⟩, List.mem_of_getElem? (i := 14) (by decide +kernel), List.mem_of_getElem? (i := 85) (by decide +kernel), List.mem_of_getElem? (i := 86) (by decide +kernel)⟩
theorem lw_p2 : lw_okq (⟨"ThimbleSwap", "layOutOwn", "(I)V"⟩, 17) := ⟨⟨by decide +kernel, by decide +kernel⟩, List.mem_of_getElem? (i := 14) (by decide +kernel), List.mem_of_getElem? (i := 89) (by decide +kernel), List.mem_of_getElem? (i := 90) (by decide +kernel)⟩
theorem lw_p3 : lw_okq (⟨"ThimbleSwap", "layOut", "(III)V"⟩, 17) := ⟨⟨by decide +kernel, by decide +kernel⟩, List.mem_of_getElem? (i := 14) (by decide +kernel), List.mem_of_getElem? (i := 93) (by decide +kernel), List.mem_of_getElem? (i := 94) (by decide +kernel)⟩
theorem lw_p4 : lw_okq (⟨"ThimbleSwap", "worthLaidOut", "(I)I"⟩, 17) := ⟨⟨by decide +kernel, by decide +kernel⟩, List.mem_of_getElem? (i := 14) (by decide +kernel), List.mem_of_getElem? (i := 103) (by decide +kernel), List.mem_of_getElem? (i := 104) (by decide +kernel)⟩
theorem lw_p5 : lw_okq (⟨"ThimbleSwap", "numbersLaidOut", "(I)I"⟩, 17) := ⟨⟨by decide +kernel, by decide +kernel⟩, List.mem_of_getElem? (i := 14) (by decide +kernel), List.mem_of_getElem? (i := 113) (by decide +kernel), List.mem_of_getElem? (i := 114) (by decide +kernel)⟩
theorem lw_p6 : lw_okq (⟨"ThimbleSwap", "statesLaidOut", "(I)I"⟩, 17) := ⟨⟨by decide +kernel, by decide +kernel⟩, List.mem_of_getElem? (i := 14) (by decide +kernel), List.mem_of_getElem? (i := 117) (by decide +kernel), List.mem_of_getElem? (i := 118) (by decide +kernel)⟩
theorem lw_p7 : lw_okq (⟨"java/lang/Throwable", "fillInStackTrace", "(I)Ljava/lang/Throwable;"⟩, 6) := ⟨⟨by decide +kernel, by decide +kernel⟩, List.mem_of_getElem? (i := 175) (by decide +kernel), List.mem_of_getElem? (i := 173) (by decide +kernel), List.mem_of_getElem? (i := 174) (by decide +kernel)⟩
theorem lw_p8 : lw_okq (⟨"ThimbleSwap", "thimblesLent", "()I"⟩, 17) := ⟨⟨by decide +kernel, by decide +kernel⟩, List.mem_of_getElem? (i := 14) (by decide +kernel), List.mem_of_getElem? (i := 205) (by decide +kernel), List.mem_of_getElem? (i := 206) (by decide +kernel)⟩
theorem lw_p9 : lw_okq (⟨"ThimbleSwap", "isLent", "(I)Z"⟩, 17) := ⟨⟨by decide +kernel, by decide +kernel⟩, List.mem_of_getElem? (i := 14) (by decide +kernel), List.mem_of_getElem? (i := 209) (by decide +kernel), List.mem_of_getElem? (i := 210) (by decide +kernel)⟩
theorem lw_p10 : lw_okq (⟨"ThimbleSwap", "digestWithCollector", "(JI)J"⟩, 17) := ⟨⟨by decide +kernel, by decide +kernel⟩, List.mem_of_getElem? (i := 14) (by decide +kernel), List.mem_of_getElem? (i := 213) (by decide +kernel), List.mem_of_getElem? (i := 214) (by decide +kernel)⟩
theorem lw_p11 : lw_okq (⟨"ThimbleSwap", "requireCollector", "(I)V"⟩, 17) := ⟨⟨by decide +kernel, by decide +kernel⟩, List.mem_of_getElem? (i := 14) (by decide +kernel), List.mem_of_getElem? (i := 221) (by decide +kernel), List.mem_of_getElem? (i := 222) (by decide +kernel)⟩
theorem lw_p12 : lw_okq (⟨"ThimbleSwap", "thimblesOf", "(I)I"⟩, 17) := ⟨⟨by decide +kernel, by decide +kernel⟩, List.mem_of_getElem? (i := 14) (by decide +kernel), List.mem_of_getElem? (i := 226) (by decide +kernel), List.mem_of_getElem? (i := 227) (by decide +kernel)⟩
theorem lw_p13 : lw_okq (⟨"ThimbleSwap", "thimblesLentBy", "(I)I"⟩, 17) := ⟨⟨by decide +kernel, by decide +kernel⟩, List.mem_of_getElem? (i := 14) (by decide +kernel), List.mem_of_getElem? (i := 230) (by decide +kernel), List.mem_of_getElem? (i := 231) (by decide +kernel)⟩
theorem lw_p14 : lw_okq (⟨"ThimbleSwap", "differentHallmarks", "(I)I"⟩, 17) := ⟨⟨by decide +kernel, by decide +kernel⟩, List.mem_of_getElem? (i := 14) (by decide +kernel), List.mem_of_getElem? (i := 234) (by decide +kernel), List.mem_of_getElem? (i := 235) (by decide +kernel)⟩
theorem lw_p15 : lw_okq (⟨"ThimbleSwap", "wholeSets", "(I)I"⟩, 17) := ⟨⟨by decide +kernel, by decide +kernel⟩, List.mem_of_getElem? (i := 14) (by decide +kernel), List.mem_of_getElem? (i := 238) (by decide +kernel), List.mem_of_getElem? (i := 239) (by decide +kernel)⟩
def lw_privs_1 : List (MethodName × Nat) := [(⟨"ThimbleSwap", "worthOfAll", "()I"⟩, 17), (⟨"ThimbleSwap", "worthNow", "(I)I"⟩, 17), (⟨"ThimbleSwap", "layOutOwn", "(I)V"⟩, 17), (⟨"ThimbleSwap", "layOut", "(III)V"⟩, 17), (⟨"ThimbleSwap", "worthLaidOut", "(I)I"⟩, 17), (⟨"ThimbleSwap", "numbersLaidOut", "(I)I"⟩, 17), (⟨"ThimbleSwap", "statesLaidOut", "(I)I"⟩, 17), (⟨"java/lang/Throwable", "fillInStackTrace", "(I)Ljava/lang/Throwable;"⟩, 6), (⟨"ThimbleSwap", "thimblesLent", "()I"⟩, 17), (⟨"ThimbleSwap", "isLent", "(I)Z"⟩, 17), (⟨"ThimbleSwap", "digestWithCollector", "(JI)J"⟩, 17), (⟨"ThimbleSwap", "requireCollector", "(I)V"⟩, 17), (⟨"ThimbleSwap", "thimblesOf", "(I)I"⟩, 17), (⟨"ThimbleSwap", "thimblesLentBy", "(I)I"⟩, 17), (⟨"ThimbleSwap", "differentHallmarks", "(I)I"⟩, 17), (⟨"ThimbleSwap", "wholeSets", "(I)I"⟩, 17)]
theorem lw_r1 : ∀ q ∈ lw_privs_1, lw_okq q := List.forall_mem_cons.mpr ⟨lw_p0, List.forall_mem_cons.mpr ⟨lw_p1, List.forall_mem_cons.mpr ⟨lw_p2, List.forall_mem_cons.mpr ⟨lw_p3, List.forall_mem_cons.mpr ⟨lw_p4, List.forall_mem_cons.mpr ⟨lw_p5, List.forall_mem_cons.mpr ⟨lw_p6, List.forall_mem_cons.mpr ⟨lw_p7, List.forall_mem_cons.mpr ⟨lw_p8, List.forall_mem_cons.mpr ⟨lw_p9, List.forall_mem_cons.mpr ⟨lw_p10, List.forall_mem_cons.mpr ⟨lw_p11, List.forall_mem_cons.mpr ⟨lw_p12, List.forall_mem_cons.mpr ⟨lw_p13, List.forall_mem_cons.mpr ⟨lw_p14, List.forall_mem_cons.mpr ⟨lw_p15, fun _ h => absurd h List.not_mem_nil⟩⟩⟩⟩⟩⟩⟩⟩⟩⟩⟩⟩⟩⟩⟩⟩
theorem lw_p16 : lw_okq (⟨"ThimbleSwap", "allGrudgesOf", "(I)I"⟩, 17) := ⟨⟨by decide +kernel, by decide +kernel⟩, List.mem_of_getElem? (i := 14) (by decide +kernel), List.mem_of_getElem? (i := 242) (by decide +kernel), List.mem_of_getElem? (i := 243) (by decide +kernel)⟩
theorem lw_p17 : lw_okq (⟨"ThimbleSwap", "digestWithThimble", "(JI)J"⟩, 17) := ⟨⟨by decide +kernel, by decide +kernel⟩, List.mem_of_getElem? (i := 14) (by decide +kernel), List.mem_of_getElem? (i := 246) (by decide +kernel), List.mem_of_getElem? (i := 247) (by decide +kernel)⟩
theorem lw_p18 : lw_okq (⟨"ThimbleSwap", "requireThimble", "(I)V"⟩, 17) := ⟨⟨by decide +kernel, by decide +kernel⟩, List.mem_of_getElem? (i := 14) (by decide +kernel), List.mem_of_getElem? (i := 254) (by decide +kernel), List.mem_of_getElem? (i := 255) (by decide +kernel)⟩
theorem lw_p19 : lw_okq (⟨"ThimbleSwap", "requireTwoOwners", "(II)V"⟩, 17) := ⟨⟨by decide +kernel, by decide +kernel⟩, List.mem_of_getElem? (i := 14) (by decide +kernel), List.mem_of_getElem? (i := 343) (by decide +kernel), List.mem_of_getElem? (i := 344) (by decide +kernel)⟩
theorem lw_p20 : lw_okq (⟨"ThimbleSwap", "gainOfOwner", "(II)I"⟩, 17) := ⟨⟨by decide +kernel, by decide +kernel⟩, List.mem_of_getElem? (i := 14) (by decide +kernel), List.mem_of_getElem? (i := 348) (by decide +kernel), List.mem_of_getElem? (i := 349) (by decide +kernel)⟩
theorem lw_p21 : lw_okq (⟨"ThimbleSwap", "worthAfter", "(III)I"⟩, 17) := ⟨⟨by decide +kernel, by decide +kernel⟩, List.mem_of_getElem? (i := 14) (by decide +kernel), List.mem_of_getElem? (i := 352) (by decide +kernel), List.mem_of_getElem? (i := 353) (by decide +kernel)⟩
theorem lw_p22 : lw_okq (⟨"ThimbleSwap", "requireAtHome", "(I)V"⟩, 17) := ⟨⟨by decide +kernel, by decide +kernel⟩, List.mem_of_getElem? (i := 14) (by decide +kernel), List.mem_of_getElem? (i := 363) (by decide +kernel), List.mem_of_getElem? (i := 364) (by decide +kernel)⟩
theorem lw_p23 : lw_okq (⟨"ThimbleSwap", "isEnough", "(III)Z"⟩, 17) := ⟨⟨by decide +kernel, by decide +kernel⟩, List.mem_of_getElem? (i := 14) (by decide +kernel), List.mem_of_getElem? (i := 368) (by decide +kernel), List.mem_of_getElem? (i := 369) (by decide +kernel)⟩
theorem lw_p24 : lw_okq (⟨"ThimbleSwap", "changeHands", "(II)V"⟩, 17) := ⟨⟨by decide +kernel, by decide +kernel⟩, List.mem_of_getElem? (i := 14) (by decide +kernel), List.mem_of_getElem? (i := 372) (by decide +kernel), List.mem_of_getElem? (i := 373) (by decide +kernel)⟩
theorem lw_p25 : lw_okq (⟨"ThimbleSwap", "soften", "(II)V"⟩, 17) := ⟨⟨by decide +kernel, by decide +kernel⟩, List.mem_of_getElem? (i := 14) (by decide +kernel), List.mem_of_getElem? (i := 376) (by decide +kernel), List.mem_of_getElem? (i := 377) (by decide +kernel)⟩
theorem lw_p26 : lw_okq (⟨"ThimbleSwap", "resent", "(II)V"⟩, 17) := ⟨⟨by decide +kernel, by decide +kernel⟩, List.mem_of_getElem? (i := 14) (by decide +kernel), List.mem_of_getElem? (i := 380) (by decide +kernel), List.mem_of_getElem? (i := 381) (by decide +kernel)⟩
theorem lw_p27 : lw_okq (⟨"ThimbleSwap", "bestSwapOf", "(II)I"⟩, 17) := ⟨⟨by decide +kernel, by decide +kernel⟩, List.mem_of_getElem? (i := 14) (by decide +kernel), List.mem_of_getElem? (i := 395) (by decide +kernel), List.mem_of_getElem? (i := 396) (by decide +kernel)⟩
theorem lw_p28 : lw_okq (⟨"ThimbleSwap", "isAtHomeWith", "(II)Z"⟩, 17) := ⟨⟨by decide +kernel, by decide +kernel⟩, List.mem_of_getElem? (i := 14) (by decide +kernel), List.mem_of_getElem? (i := 399) (by decide +kernel), List.mem_of_getElem? (i := 400) (by decide +kernel)⟩
theorem lw_p29 : lw_okq (⟨"ThimbleSwap", "bestSwapOfFirstPair", "()I"⟩, 17) := ⟨⟨by decide +kernel, by decide +kernel⟩, List.mem_of_getElem? (i := 14) (by decide +kernel), List.mem_of_getElem? (i := 421) (by decide +kernel), List.mem_of_getElem? (i := 422) (by decide +kernel)⟩
theorem lw_p30 : lw_okq (⟨"ThimbleSwap", "numbersShown", "(I)I"⟩, 17) := ⟨⟨by decide +kernel, by decide +kernel⟩, List.mem_of_getElem? (i := 14) (by decide +kernel), List.mem_of_getElem? (i := 440) (by decide +kernel), List.mem_of_getElem? (i := 441) (by decide +kernel)⟩
theorem lw_p31 : lw_okq (⟨"ThimbleSwap", "numbersFound", "(I)I"⟩, 17) := ⟨⟨by decide +kernel, by decide +kernel⟩, List.mem_of_getElem? (i := 14) (by decide +kernel), List.mem_of_getElem? (i := 451) (by decide +kernel), List.mem_of_getElem? (i := 452) (by decide +kernel)⟩
def lw_privs_2 : List (MethodName × Nat) := [(⟨"ThimbleSwap", "allGrudgesOf", "(I)I"⟩, 17), (⟨"ThimbleSwap", "digestWithThimble", "(JI)J"⟩, 17), (⟨"ThimbleSwap", "requireThimble", "(I)V"⟩, 17), (⟨"ThimbleSwap", "requireTwoOwners", "(II)V"⟩, 17), (⟨"ThimbleSwap", "gainOfOwner", "(II)I"⟩, 17), (⟨"ThimbleSwap", "worthAfter", "(III)I"⟩, 17), (⟨"ThimbleSwap", "requireAtHome", "(I)V"⟩, 17), (⟨"ThimbleSwap", "isEnough", "(III)Z"⟩, 17), (⟨"ThimbleSwap", "changeHands", "(II)V"⟩, 17), (⟨"ThimbleSwap", "soften", "(II)V"⟩, 17), (⟨"ThimbleSwap", "resent", "(II)V"⟩, 17), (⟨"ThimbleSwap", "bestSwapOf", "(II)I"⟩, 17), (⟨"ThimbleSwap", "isAtHomeWith", "(II)Z"⟩, 17), (⟨"ThimbleSwap", "bestSwapOfFirstPair", "()I"⟩, 17), (⟨"ThimbleSwap", "numbersShown", "(I)I"⟩, 17), (⟨"ThimbleSwap", "numbersFound", "(I)I"⟩, 17)]
theorem lw_r2 : ∀ q ∈ lw_privs_2, lw_okq q := List.forall_mem_cons.mpr ⟨lw_p16, List.forall_mem_cons.mpr ⟨lw_p17, List.forall_mem_cons.mpr ⟨lw_p18, List.forall_mem_cons.mpr ⟨lw_p19, List.forall_mem_cons.mpr ⟨lw_p20, List.forall_mem_cons.mpr ⟨lw_p21, List.forall_mem_cons.mpr ⟨lw_p22, List.forall_mem_cons.mpr ⟨lw_p23, List.forall_mem_cons.mpr ⟨lw_p24, List.forall_mem_cons.mpr ⟨lw_p25, List.forall_mem_cons.mpr ⟨lw_p26, List.forall_mem_cons.mpr ⟨lw_p27, List.forall_mem_cons.mpr ⟨lw_p28, List.forall_mem_cons.mpr ⟨lw_p29, List.forall_mem_cons.mpr ⟨lw_p30, List.forall_mem_cons.mpr ⟨lw_p31, fun _ h => absurd h List.not_mem_nil⟩⟩⟩⟩⟩⟩⟩⟩⟩⟩⟩⟩⟩⟩⟩⟩
theorem lw_p32 : lw_okq (⟨"ThimbleSwap", "endWeek", "()I"⟩, 17) := ⟨⟨by decide +kernel, by decide +kernel⟩, List.mem_of_getElem? (i := 14) (by decide +kernel), List.mem_of_getElem? (i := 470) (by decide +kernel), List.mem_of_getElem? (i := 471) (by decide +kernel)⟩
theorem lw_p33 : lw_okq (⟨"ThimbleSwap", "bringHome", "(I)V"⟩, 17) := ⟨⟨by decide +kernel, by decide +kernel⟩, List.mem_of_getElem? (i := 14) (by decide +kernel), List.mem_of_getElem? (i := 474) (by decide +kernel), List.mem_of_getElem? (i := 475) (by decide +kernel)⟩
theorem lw_p34 : lw_okq (⟨"ThimbleSwap", "softenAll", "()V"⟩, 17) := ⟨⟨by decide +kernel, by decide +kernel⟩, List.mem_of_getElem? (i := 14) (by decide +kernel), List.mem_of_getElem? (i := 478) (by decide +kernel), List.mem_of_getElem? (i := 479) (by decide +kernel)⟩
theorem lw_p35 : lw_okq (⟨"ThimbleSwapModel", "fail", "(I)I"⟩, 9) := ⟨⟨by decide +kernel, by decide +kernel⟩, List.mem_of_getElem? (i := 486) (by decide +kernel), List.mem_of_getElem? (i := 528) (by decide +kernel), List.mem_of_getElem? (i := 529) (by decide +kernel)⟩
theorem lw_p36 : lw_okq (⟨"ThimbleSwapModel", "isCollector", "(I)Z"⟩, 9) := ⟨⟨by decide +kernel, by decide +kernel⟩, List.mem_of_getElem? (i := 486) (by decide +kernel), List.mem_of_getElem? (i := 536) (by decide +kernel), List.mem_of_getElem? (i := 537) (by decide +kernel)⟩
theorem lw_p37 : lw_okq (⟨"ThimbleSwapModel", "collectorTold", "(II)I"⟩, 9) := ⟨⟨by decide +kernel, by decide +kernel⟩, List.mem_of_getElem? (i := 486) (by decide +kernel), List.mem_of_getElem? (i := 557) (by decide +kernel), List.mem_of_getElem? (i := 558) (by decide +kernel)⟩
theorem lw_p38 : lw_okq (⟨"ThimbleSwapModel", "th", "(II)I"⟩, 9) := ⟨⟨by decide +kernel, by decide +kernel⟩, List.mem_of_getElem? (i := 486) (by decide +kernel), List.mem_of_getElem? (i := 561) (by decide +kernel), List.mem_of_getElem? (i := 562) (by decide +kernel)⟩
theorem lw_p39 : lw_okq (⟨"ThimbleSwapModel", "isLent", "(I)Z"⟩, 9) := ⟨⟨by decide +kernel, by decide +kernel⟩, List.mem_of_getElem? (i := 486) (by decide +kernel), List.mem_of_getElem? (i := 565) (by decide +kernel), List.mem_of_getElem? (i := 566) (by decide +kernel)⟩
theorem lw_p40 : lw_okq (⟨"ThimbleSwapModel", "hallmarks", "(I)I"⟩, 9) := ⟨⟨by decide +kernel, by decide +kernel⟩, List.mem_of_getElem? (i := 486) (by decide +kernel), List.mem_of_getElem? (i := 569) (by decide +kernel), List.mem_of_getElem? (i := 570) (by decide +kernel)⟩
theorem lw_p41 : lw_okq (⟨"ThimbleSwapModel", "worth", "(I)I"⟩, 9) := ⟨⟨by decide +kernel, by decide +kernel⟩, List.mem_of_getElem? (i := 486) (by decide +kernel), List.mem_of_getElem? (i := 574) (by decide +kernel), List.mem_of_getElem? (i := 575) (by decide +kernel)⟩
theorem lw_p42 : lw_okq (⟨"ThimbleSwapModel", "gather", "(II)I"⟩, 9) := ⟨⟨by decide +kernel, by decide +kernel⟩, List.mem_of_getElem? (i := 486) (by decide +kernel), List.mem_of_getElem? (i := 578) (by decide +kernel), List.mem_of_getElem? (i := 579) (by decide +kernel)⟩
theorem lw_p43 : lw_okq (⟨"ThimbleSwapModel", "states", "()I"⟩, 9) := ⟨⟨by decide +kernel, by decide +kernel⟩, List.mem_of_getElem? (i := 486) (by decide +kernel), List.mem_of_getElem? (i := 583) (by decide +kernel), List.mem_of_getElem? (i := 584) (by decide +kernel)⟩
theorem lw_p44 : lw_okq (⟨"ThimbleSwapModel", "isThimble", "(I)Z"⟩, 9) := ⟨⟨by decide +kernel, by decide +kernel⟩, List.mem_of_getElem? (i := 486) (by decide +kernel), List.mem_of_getElem? (i := 595) (by decide +kernel), List.mem_of_getElem? (i := 596) (by decide +kernel)⟩
theorem lw_p45 : lw_okq (⟨"ThimbleSwapModel", "gain", "(II)I"⟩, 9) := ⟨⟨by decide +kernel, by decide +kernel⟩, List.mem_of_getElem? (i := 486) (by decide +kernel), List.mem_of_getElem? (i := 603) (by decide +kernel), List.mem_of_getElem? (i := 604) (by decide +kernel)⟩
theorem lw_p46 : lw_okq (⟨"ThimbleSwapModel", "exchange", "(II)V"⟩, 9) := ⟨⟨by decide +kernel, by decide +kernel⟩, List.mem_of_getElem? (i := 486) (by decide +kernel), List.mem_of_getElem? (i := 607) (by decide +kernel), List.mem_of_getElem? (i := 608) (by decide +kernel)⟩
theorem lw_p47 : lw_okq (⟨"ThimbleSwapModel", "set", "(III)V"⟩, 9) := ⟨⟨by decide +kernel, by decide +kernel⟩, List.mem_of_getElem? (i := 486) (by decide +kernel), List.mem_of_getElem? (i := 611) (by decide +kernel), List.mem_of_getElem? (i := 612) (by decide +kernel)⟩
def lw_privs_3 : List (MethodName × Nat) := [(⟨"ThimbleSwap", "endWeek", "()I"⟩, 17), (⟨"ThimbleSwap", "bringHome", "(I)V"⟩, 17), (⟨"ThimbleSwap", "softenAll", "()V"⟩, 17), (⟨"ThimbleSwapModel", "fail", "(I)I"⟩, 9), (⟨"ThimbleSwapModel", "isCollector", "(I)Z"⟩, 9), (⟨"ThimbleSwapModel", "collectorTold", "(II)I"⟩, 9), (⟨"ThimbleSwapModel", "th", "(II)I"⟩, 9), (⟨"ThimbleSwapModel", "isLent", "(I)Z"⟩, 9), (⟨"ThimbleSwapModel", "hallmarks", "(I)I"⟩, 9), (⟨"ThimbleSwapModel", "worth", "(I)I"⟩, 9), (⟨"ThimbleSwapModel", "gather", "(II)I"⟩, 9), (⟨"ThimbleSwapModel", "states", "()I"⟩, 9), (⟨"ThimbleSwapModel", "isThimble", "(I)Z"⟩, 9), (⟨"ThimbleSwapModel", "gain", "(II)I"⟩, 9), (⟨"ThimbleSwapModel", "exchange", "(II)V"⟩, 9), (⟨"ThimbleSwapModel", "set", "(III)V"⟩, 9)]
theorem lw_r3 : ∀ q ∈ lw_privs_3, lw_okq q := List.forall_mem_cons.mpr ⟨lw_p32, List.forall_mem_cons.mpr ⟨lw_p33, List.forall_mem_cons.mpr ⟨lw_p34, List.forall_mem_cons.mpr ⟨lw_p35, List.forall_mem_cons.mpr ⟨lw_p36, List.forall_mem_cons.mpr ⟨lw_p37, List.forall_mem_cons.mpr ⟨lw_p38, List.forall_mem_cons.mpr ⟨lw_p39, List.forall_mem_cons.mpr ⟨lw_p40, List.forall_mem_cons.mpr ⟨lw_p41, List.forall_mem_cons.mpr ⟨lw_p42, List.forall_mem_cons.mpr ⟨lw_p43, List.forall_mem_cons.mpr ⟨lw_p44, List.forall_mem_cons.mpr ⟨lw_p45, List.forall_mem_cons.mpr ⟨lw_p46, List.forall_mem_cons.mpr ⟨lw_p47, fun _ h => absurd h List.not_mem_nil⟩⟩⟩⟩⟩⟩⟩⟩⟩⟩⟩⟩⟩⟩⟩⟩
theorem lw_p48 : lw_okq (⟨"ThimbleSwapModel", "swapped", "(II)I"⟩, 9) := ⟨⟨by decide +kernel, by decide +kernel⟩, List.mem_of_getElem? (i := 486) (by decide +kernel), List.mem_of_getElem? (i := 619) (by decide +kernel), List.mem_of_getElem? (i := 620) (by decide +kernel)⟩
theorem lw_p49 : lw_okq (⟨"ThimbleSwapModel", "isEnough", "(II)Z"⟩, 9) := ⟨⟨by decide +kernel, by decide +kernel⟩, List.mem_of_getElem? (i := 486) (by decide +kernel), List.mem_of_getElem? (i := 623) (by decide +kernel), List.mem_of_getElem? (i := 624) (by decide +kernel)⟩
theorem lw_p50 : lw_okq (⟨"ThimbleSwapModel", "weigh", "(III)V"⟩, 9) := ⟨⟨by decide +kernel, by decide +kernel⟩, List.mem_of_getElem? (i := 486) (by decide +kernel), List.mem_of_getElem? (i := 627) (by decide +kernel), List.mem_of_getElem? (i := 628) (by decide +kernel)⟩
theorem lw_p51 : lw_okq (⟨"ThimbleSwapModel", "bestOf", "(II)I"⟩, 9) := ⟨⟨by decide +kernel, by decide +kernel⟩, List.mem_of_getElem? (i := 486) (by decide +kernel), List.mem_of_getElem? (i := 636) (by decide +kernel), List.mem_of_getElem? (i := 637) (by decide +kernel)⟩
theorem lw_p52 : lw_okq (⟨"ThimbleSwapModel", "swapsOnce", "()Z"⟩, 9) := ⟨⟨by decide +kernel, by decide +kernel⟩, List.mem_of_getElem? (i := 486) (by decide +kernel), List.mem_of_getElem? (i := 648) (by decide +kernel), List.mem_of_getElem? (i := 649) (by decide +kernel)⟩
theorem lw_p53 : lw_okq (⟨"ThimbleSwapModel", "bits", "(IZ)I"⟩, 9) := ⟨⟨by decide +kernel, by decide +kernel⟩, List.mem_of_getElem? (i := 486) (by decide +kernel), List.mem_of_getElem? (i := 660) (by decide +kernel), List.mem_of_getElem? (i := 661) (by decide +kernel)⟩
theorem lw_p54 : lw_okq (⟨"ThimbleSwapModel", "weekOn", "()I"⟩, 9) := ⟨⟨by decide +kernel, by decide +kernel⟩, List.mem_of_getElem? (i := 486) (by decide +kernel), List.mem_of_getElem? (i := 676) (by decide +kernel), List.mem_of_getElem? (i := 677) (by decide +kernel)⟩
theorem lw_p55 : lw_okq (⟨"ThimbleSwapModel", "counted", "(I)I"⟩, 9) := ⟨⟨by decide +kernel, by decide +kernel⟩, List.mem_of_getElem? (i := 486) (by decide +kernel), List.mem_of_getElem? (i := 684) (by decide +kernel), List.mem_of_getElem? (i := 685) (by decide +kernel)⟩
theorem lw_p56 : lw_okq (⟨"ThimbleSwapModel", "allWorth", "()I"⟩, 9) := ⟨⟨by decide +kernel, by decide +kernel⟩, List.mem_of_getElem? (i := 486) (by decide +kernel), List.mem_of_getElem? (i := 688) (by decide +kernel), List.mem_of_getElem? (i := 689) (by decide +kernel)⟩
def lw_privs_4 : List (MethodName × Nat) := [(⟨"ThimbleSwapModel", "swapped", "(II)I"⟩, 9), (⟨"ThimbleSwapModel", "isEnough", "(II)Z"⟩, 9), (⟨"ThimbleSwapModel", "weigh", "(III)V"⟩, 9), (⟨"ThimbleSwapModel", "bestOf", "(II)I"⟩, 9), (⟨"ThimbleSwapModel", "swapsOnce", "()Z"⟩, 9), (⟨"ThimbleSwapModel", "bits", "(IZ)I"⟩, 9), (⟨"ThimbleSwapModel", "weekOn", "()I"⟩, 9), (⟨"ThimbleSwapModel", "counted", "(I)I"⟩, 9), (⟨"ThimbleSwapModel", "allWorth", "()I"⟩, 9)]
theorem lw_r4 : ∀ q ∈ lw_privs_4, lw_okq q := List.forall_mem_cons.mpr ⟨lw_p48, List.forall_mem_cons.mpr ⟨lw_p49, List.forall_mem_cons.mpr ⟨lw_p50, List.forall_mem_cons.mpr ⟨lw_p51, List.forall_mem_cons.mpr ⟨lw_p52, List.forall_mem_cons.mpr ⟨lw_p53, List.forall_mem_cons.mpr ⟨lw_p54, List.forall_mem_cons.mpr ⟨lw_p55, List.forall_mem_cons.mpr ⟨lw_p56, fun _ h => absurd h List.not_mem_nil⟩⟩⟩⟩⟩⟩⟩⟩⟩
def lw_privs : List (MethodName × Nat) := lw_privs_1 ++ (lw_privs_2 ++ (lw_privs_3 ++ (lw_privs_4)))
def lw_tbl : List Cond := k2_sels lw_privs ++ tables_1
theorem lw_privs_ok : ∀ q ∈ lw_privs, lw_okq q := by
  show ∀ q ∈ lw_privs_1 ++ (lw_privs_2 ++ (lw_privs_3 ++ (lw_privs_4))), lw_okq q
  exact List.forall_mem_append.mpr ⟨lw_r1, List.forall_mem_append.mpr ⟨lw_r2, List.forall_mem_append.mpr ⟨lw_r3, lw_r4⟩⟩⟩
/-- the streams that the claim lets the run draw from -/
abbrev lw_cs : List Choice := [Jvm.Choice.named "NaN.bits"]
theorem lw_bits : nanBits ∈ lw_cs := by first | decide | exact List.mem_cons_self | simp [lw_cs, nanBits]
/-! an array of arrays: what the tables say of it (turned from the kit's row on arrays of objects) -/
def va_AOA (t : FieldType) (U : State) : Prop := (Cond.arrayOver (.array t)).before #[] U = true
theorem va_AOA.of {t : FieldType} {A : Array Value} {U : State} (h : (Cond.arrayOver (.array t)).before A U = true) : va_AOA t U := h
theorem va_AOA.use {t : FieldType} {A : Array Value} {U : State} (h : va_AOA t U) : (Cond.arrayOver (.array t)).before A U = true := h
theorem va_AOA.moved {t : FieldType} {u U : State} (hvm : u.vm.Alike U.vm) (h : va_AOA t u) : va_AOA t U := arrayOver_alikeB (args' := #[]) (first' := U) (o' := none) (idx' := []) hvm h
/-! ===== BEGIN words of one list among another's, by their places ===== -/
theorem goodIn_r {big : List Cond} (ws : List Cond) (ps : List Nat) (hp : ws = ps.filterMap (fun i => big[i]?)) (h : ws.all goodWord = true) : GoodIn big ws := by
  intro w hw
  have h1 := List.all_eq_true.mp h w hw
  rw [hp] at hw
  obtain ⟨i, -, hi⟩ := List.mem_filterMap.mp hw
  have hm : w ∈ big := by first | exact List.mem_of_getElem? hi | exact List.getElem?_mem hi
  exact ⟨hm, good_of_word h1⟩
theorem goodIn_app {big a b : List Cond} (ha : GoodIn big a) (hb : GoodIn big b) : GoodIn big (a ++ b) := fun w h => (List.mem_append.mp h).elim (ha w) (hb w)
theorem goodIn_ca {big a b : List Cond} {c : Cond} (ha : GoodIn big (c :: a)) (hb : GoodIn big b) : GoodIn big (c :: (a ++ b)) := fun w h => (List.mem_cons.mp h).elim (fun e => ha w (List.mem_cons.mpr (Or.inl e))) (fun h => (List.mem_append.mp h).elim (fun h => ha w (List.mem_cons.mpr (Or.inr h))) (hb w))
theorem goodIn_sub {big ws : List Cond} (hm : ∀ w ∈ ws, w ∈ big) (h : ws.all goodWord = true) : GoodIn big ws := fun w hw => ⟨hm w hw, good_of_word (List.all_eq_true.mp h w hw)⟩
/-! ===== END ===== -/

/-! ===== BEGIN new T[n][m]: the outer array a place, the inner ones among the pooled ===== -/
/-- f, but v at every address of l -/
def vr_up {α : Type} (f : Nat → α) (l : List Nat) (v : α) : Nat → α := fun a => if a ∈ l then v else f a
theorem vr_up_in {α : Type} {f : Nat → α} {l : List Nat} {v : α} {a : Nat} (h : a ∈ l) : vr_up f l v a = v := if_pos h
theorem vr_up_ne {α : Type} {f : Nat → α} {l : List Nat} {v : α} {a : Nat} (h : a ∉ l) : vr_up f l v a = f a := if_neg h
theorem vr_rows {L l : List Nat} {f : Nat → va_E} {e : va_E} (h : ∀ a, a ∈ l → a ∉ L) : va_pl L f ++ l.map (fun a => (a, e)) = va_pl (L ++ l) (vr_up f l e) := by
  unfold va_pl
  rw [List.map_append]
  congr 1
  · apply List.map_congr_left
    intro a ha
    rw [vr_up_ne (fun q => h a q ha)]
  · apply List.map_congr_left
    intro a ha
    rw [vr_up_in ha]
theorem vr_lay {X rows : va_W} {x : Nat × va_E} {pl : va_W} {D : va_G} {cl : List vw_C} {H : Heap} (hP : va_P D cl (((X ++ pl) ++ [x]) ++ rows) H) : va_P D cl ((X ++ [x]) ++ (pl ++ rows)) H := by
  rw [List.append_assoc (X ++ pl)] at hP
  have h := va_P.swap hP
  rw [← List.append_assoc X] at h
  have h2 := va_P.swap h
  rw [List.append_assoc (X ++ [x])] at h2
  exact h2
theorem vr_layD {X rows : va_W} {x : Nat × va_E} {pl : va_W} {A : Nat → Prop} (hD : va_D A (((X ++ pl) ++ [x]) ++ rows)) : va_D A ((X ++ [x]) ++ (pl ++ rows)) := by
  rw [List.append_assoc (X ++ pl)] at hD
  have h := va_D.swap hD
  rw [← List.append_assoc X] at h
  have h2 := va_D.swap h
  rw [List.append_assoc (X ++ [x])] at h2
  exact h2
theorem vr_outer (c : ClassId) (N h0 : Nat) : ∀ i : Nat, Jvm.Free.Multi.outerC c N h0 i = arrV c N (fun j => va_rf (if j < i then some (h0 + 1 + j) else none))
  | 0 => by
    show ({ cls := c, slots := Array.replicate N .null, vm := .none } : Cell) = _
    rw [arrV_new]
    refine congrArg (arrV c N) (funext fun j => ?_)
    simp [va_rf]
  | i + 1 => by
    show (Jvm.Free.Multi.outerC c N h0 i).setSlot i (.ref (h0 + 1 + i)) = _
    rw [vr_outer c N h0 i, arrV_store]
    refine congrArg (arrV c N) (funext fun j => ?_)
    by_cases e : j = i
    · subst e
      simp [updV, va_rf]
    · by_cases h : j < i
      · simp [updV, e, h, Nat.lt_succ_of_lt h]
      · simp [updV, e, h, show ¬ j < i + 1 by omega]
section VGM
variable {p : Program} {l : Launch} {e : Env} {R : Room} {s : State} {m : MethodId} {args : Array Value} {below : List Frame} {meth : Method} {c : Code} {H : Heap} {locs : List Loc} {cells slots : Nat} {Q : State → Prop}
variable {cc : ByteArray} {pc : Nat} {ls : Array Slot} {rest : List Value} {D : va_G} {cl : List vw_C} {A : Nat → Prop} {a : Nat} {tys : List (ClassId × FieldType)} {ws : va_W} {H0 : Heap}
theorem va_mna {X : va_W} {L : List Nat} {f : Nat → va_E} {cc : ByteArray} (hexec : p.tables.exec = Jvm.exec) (hb : c.code = cc) {own : String} {index : Nat} {ty : FieldType} {cy : ClassId} (hown : s.vm.findClass own = some m.cls) (hclink : (Cond.classLink own index ("[" ++ (FieldType.array ty).toString)).before args s = true) (hover : va_AOA ty s) (harr : (Cond.arrayClass ty).before args s = true) (hcy : s.vm.findClass (FieldType.array ty).toString = some cy)
    (hK : va_K D cl tys s) (hP : va_P D cl (X ++ va_pl L f) H) (hD : va_D A (X ++ va_pl L f)) (hS : va_S A H0 H locs) (hA : ∀ q, H0.size ≤ q → A q) {n k : Int32} {N' K' : Nat} {z : vp_A} (hn : ¬ n < 0) (hk : ¬ k < 0) (hN : n.toNatClampNeg = N') (hM : k.toNatClampNeg = K')
    (hb1 : N' * 4 ≤ 536870912) (hb2 : K' * componentBytes ty ≤ 536870912) (hb3 : K' ≤ 536870912) (hdf : fits ty (defaultValue ty) = true) (hdd : (defaultValue ty).isDefault = true) (hcells : cells + (1 + N') ≤ R.cells) (hslots : slots + (N' + N' * K') ≤ R.slots) (hz : ∀ c : ClassId, Jvm.Free.Multi.innerC c K' (defaultValue ty) = vp_cell c z) (hdg : decode cc pc = .ok (.multianewarray index 2, 4))
    (kk : ∀ (q : Nat) (r : Nat → Nat) (cA : ClassId) (H1 : Heap), (∀ i j : Nat, i < N' → j < N' → r i = r j → i = j) → (∀ i : Nat, i < N' → r i ∉ L) → va_K D cl (tys ++ [(cA, .array ty)]) s →
      va_P D cl ((X ++ [(q, .inl (cA, N', .inr (.inr (.inr (.inr (fun i => if i < N' then some (r i) else none))))))]) ++ va_pl (L ++ (List.range N').map r) (vr_up f ((List.range N').map r) (.inl (cy, z)))) H1 → va_D A ((X ++ [(q, .inl (cA, N', .inr (.inr (.inr (.inr (fun i => if i < N' then some (r i) else none))))))]) ++ va_pl (L ++ (List.range N').map r) (vr_up f ((List.range N').map r) (.inl (cy, z)))) → va_S A H0 H1 locs →
      W p l e R s m args below meth c H1 locs (cells + 1 + N') (slots + N' + N' * K') Q (F0 m (pc + 4) ls (.ref q :: rest))) : W p l e R s m args below meth c H locs cells slots Q (F0 m pc ls (.int k :: .int n :: rest)) := by
  subst hN
  subst hM
  intro T hT Xs
  obtain ⟨vm₁, cA, comp, -, fA, fC, hO, -, X', step⟩ := Xs.multianewarray2F hexec hown hclink (va_AOA.use hover) harr (g := F0 m pc ls (.int k :: .int n :: rest)) rfl (by rw [hb]; exact hdg) rfl hn hk hb1 hb2 hb3 hdf hdd hcells hslots
  have ec : some cy = some comp := hcy.symm.trans fC
  cases ec
  generalize hF : Jvm.Free.Multi.fill (T.setVm vm₁) cA cy n.toNatClampNeg k.toNatClampNeg (defaultValue ty) n.toNatClampNeg = F at X' step
  have hTh : (T.setVm vm₁).heap = H := hT
  obtain ⟨f1, f2, -, -⟩ := Jvm.Free.Multi.fill_facts (T.setVm vm₁) cA cy n.toNatClampNeg k.toNatClampNeg (defaultValue ty) n.toNatClampNeg
  rw [hF, hTh] at f1 f2
  have hold : ∀ x : Nat, x < H.size → F.heap[x]? = H[x]? := fun x hx => by
    have := Jvm.Free.Multi.fill_old (T.setVm vm₁) cA cy n.toNatClampNeg k.toNatClampNeg (defaultValue ty) (a := x) (by rw [hTh]; exact hx) n.toNatClampNeg
    rw [hF, hTh] at this
    exact this
  have hrow : ∀ j : Nat, j < n.toNatClampNeg → F.heap[H.size + 1 + j]? = some (vp_cell cy z) := fun j hj => by
    have := Jvm.Free.Multi.fill_inner (T.setVm vm₁) cA cy n.toNatClampNeg k.toNatClampNeg (defaultValue ty) n.toNatClampNeg j hj
    rw [hF, hTh, hz] at this
    exact this
  have hout : Jvm.Free.Multi.outerC cA n.toNatClampNeg H.size n.toNatClampNeg = vp_cell cA (n.toNatClampNeg, .inr (.inr (.inr (.inr (fun i => if i < n.toNatClampNeg then some (H.size + 1 + i) else none))))) := by
    rw [vp_cell_q]
    exact vr_outer cA n.toNatClampNeg H.size n.toNatClampNeg
  rw [hout] at f2
  have hlt : ∀ a, a ∈ L → a < H.size := fun a ha => by
    obtain ⟨k9, hk9⟩ := va_pl_get (X := X) (f := f) ha
    exact (hP k9 _ hk9).lt
  have hnl : ∀ i : Nat, i < n.toNatClampNeg → H.size + 1 + i ∉ L := fun i _ h => by
    have := hlt _ h
    omega
  have hnm : ∀ a, a ∈ (List.range n.toNatClampNeg).map (fun i => H.size + 1 + i) → a ∉ L := fun a ha h => by
    obtain ⟨i, -, rfl⟩ := List.mem_map.mp ha
    have := hlt _ h
    omega
  have hP0 : va_P D cl (X ++ va_pl L f) F.heap := hP.kept (fun k9 x hx => hold x.1 ((hP k9 x hx).lt))
  have hP1 : va_P D cl ((X ++ va_pl L f) ++ [(H.size, .inl (cA, n.toNatClampNeg, .inr (.inr (.inr (.inr (fun i => if i < n.toNatClampNeg then some (H.size + 1 + i) else none))))))]) F.heap := hP0.app (fun k9 x hx => by
    have h0 : k9 < 1 := (List.getElem?_eq_some_iff.mp hx).1
    rw [show k9 = 0 by omega] at hx
    cases hx
    exact f2)
  have hP2 : va_P D cl (((X ++ va_pl L f) ++ [(H.size, .inl (cA, n.toNatClampNeg, .inr (.inr (.inr (.inr (fun i => if i < n.toNatClampNeg then some (H.size + 1 + i) else none))))))]) ++ ((List.range n.toNatClampNeg).map (fun i => H.size + 1 + i)).map (fun a => (a, .inl (cy, z)))) F.heap := hP1.app (fun k9 x hx => by
    obtain ⟨a, ha, rfl⟩ := List.mem_map.mp (List.mem_of_getElem? hx)
    obtain ⟨i, hi, rfl⟩ := List.mem_map.mp ha
    exact hrow i (List.mem_range.mp hi))
  have hD2 : va_D A (((X ++ va_pl L f) ++ [(H.size, .inl (cA, n.toNatClampNeg, .inr (.inr (.inr (.inr (fun i => if i < n.toNatClampNeg then some (H.size + 1 + i) else none))))))]) ++ ((List.range n.toNatClampNeg).map (fun i => H.size + 1 + i)).map (fun a => (a, .inl (cy, z)))) := by
    have hD1 := hD.push (e := .inl (cA, n.toNatClampNeg, .inr (.inr (.inr (.inr (fun i => if i < n.toNatClampNeg then some (H.size + 1 + i) else none)))))) hP rfl (hA _ hS.1)
    generalize hW1 : (X ++ va_pl L f) ++ [(H.size, .inl (cA, n.toNatClampNeg, .inr (.inr (.inr (.inr (fun i => if i < n.toNatClampNeg then some (H.size + 1 + i) else none))))))] = W1 at hD1 hP1 ⊢
    have hle : ∀ (k9 : Nat) (x : Nat × va_E), W1[k9]? = some x → x.1 ≤ H.size := fun k9 x hx => by
      rw [← hW1] at hx
      by_cases hl : k9 < (X ++ va_pl L f).length
      · rw [List.getElem?_append_left hl] at hx
        exact Nat.le_of_lt ((hP k9 x hx).lt)
      · rw [List.getElem?_append_right (by omega)] at hx
        have h0 : k9 - (X ++ va_pl L f).length < 1 := (List.getElem?_eq_some_iff.mp hx).1
        rw [show k9 - (X ++ va_pl L f).length = 0 by omega] at hx
        cases hx
        exact Nat.le_refl _
    have hr : ∀ (k9 : Nat) (x : Nat × va_E), (((List.range n.toNatClampNeg).map (fun i => H.size + 1 + i)).map (fun a => ((a, .inl (cy, z)) : Nat × va_E)))[k9]? = some x → x.1 = H.size + 1 + k9 := fun k9 x hx => by
      rw [List.getElem?_map, List.getElem?_map] at hx
      by_cases h9 : k9 < n.toNatClampNeg
      · rw [List.getElem?_range h9] at hx
        cases hx
        rfl
      · have hn0 : (List.range n.toNatClampNeg)[k9]? = none := List.getElem?_eq_none (by rw [List.length_range]; omega)
        rw [hn0] at hx
        cases hx
    refine ⟨fun i j x y hi hj hxy => ?_, fun k9 x hx => ?_⟩
    · by_cases h1 : i < W1.length <;> by_cases h2 : j < W1.length
      · rw [List.getElem?_append_left h1] at hi
        rw [List.getElem?_append_left h2] at hj
        exact hD1.1 i j x y hi hj hxy
      · rw [List.getElem?_append_left h1] at hi
        rw [List.getElem?_append_right (by omega)] at hj
        have := hle _ _ hi
        have := hr _ _ hj
        omega
      · rw [List.getElem?_append_right (by omega)] at hi
        rw [List.getElem?_append_left h2] at hj
        have := hle _ _ hj
        have := hr _ _ hi
        omega
      · rw [List.getElem?_append_right (by omega)] at hi hj
        have := hr _ _ hi
        have := hr _ _ hj
        omega
    · by_cases h1 : k9 < W1.length
      · rw [List.getElem?_append_left h1] at hx
        exact hD1.2 k9 x hx
      · rw [List.getElem?_append_right (by omega)] at hx
        have := hr _ _ hx
        exact hA _ (by have := hS.1; omega)
  have hAr : ArrOfT s cA (.array ty) := fun N9 z9 => by
    obtain ⟨-, k9, hk9, cm9, hkk9⟩ := (hO 0 0 0).1
    exact ⟨(fun q hq => by cases hq), k9, hk9, cm9, hkk9⟩
  have hK2 : va_K D cl (tys ++ [(cA, .array ty)]) s := ⟨hK.1, fun k9 x hx => by
    by_cases hl : k9 < tys.length
    · rw [List.getElem?_append_left hl] at hx
      exact hK.2 k9 x hx
    · rw [List.getElem?_append_right (by omega)] at hx
      have h0 : k9 - tys.length < 1 := (List.getElem?_eq_some_iff.mp hx).1
      rw [show k9 - tys.length = 0 by omega] at hx
      cases hx
      exact ⟨hAr, fA⟩⟩
  obtain ⟨t, a1, b1⟩ := kk H.size (fun i => H.size + 1 + i) cA F.heap (fun i j _ _ h => by have h9 : H.size + 1 + i = H.size + 1 + j := h; omega) hnl hK2 (by rw [← vr_rows hnm]; exact vr_lay hP2) (by rw [← vr_rows hnm]; exact vr_layD hD2) ⟨by rw [f1]; have := hS.1; omega, fun x h1 h2 => (hold x (Nat.lt_of_lt_of_le h1 hS.1)).trans (hS.2.1 x h1 h2), hS.2.2⟩ F rfl X'
  refine ⟨t, step t ?_, b1⟩
  have e : T.heap.size = H.size := by rw [hT]
  rw [e]
  exact a1
end VGM
/-! ===== END ===== -/
end
section
/-! ===== BEGIN exceptions that leave a method, and their catching by the caller (launches without stack traces) ===== -/
section VXA
/-! The laws vx_back, vx_callV, vx_callS, vx_callSW, vx_throw0, vx_throwS follow proofs of the library, with one case more: JvmDerived/Free/Laws.lean (Back.of_free), Shelf42/LK1.lean (callV, callS), Shelf/KitTraced.lean (throwNew0V, throwNewS). -/
/-- where a method has thrown q: the class by its name, the cell, what was written, the world -/
def vx_T (XC : String → State → State → Prop) (st : State) (q : Addr) (t : State) (mc ms : Nat) (free : Addr → Prop) : Prop :=
  ∃ (E : String) (ce : Cell) (L : List Loc), XC E st t ∧ t.heap[q]? = some ce ∧ ce.vm = .none ∧ st.vm.findClass E = some ce.cls ∧ st.WarmedH t.vm ∧ st.sameButNew ({ t with vm := st.vm } : State) L mc ms ∧ ∀ z ∈ L, free z.base
def vx_Q (Qc : Array Value → State → Outcome → State → Prop) (XC : String → State → State → Prop) (mc ms : Nat) (free : Addr → Prop) : Array Value → State → Outcome → State → Prop := fun a st o t =>
  (Qc a st o t ∧ ∃ L, FrameEnd st o t L mc ms ∧ ∀ q ∈ L, free q.base) ∨ ∃ q, o = .threw q ∧ vx_T XC st q t mc ms free
/-- a callee that returns or throws -/
def vx_Met (l : Launch) (y : MethodName) (ws : List Cond) (rm : Room) (Pc : Array Value → State → Prop) (Qc : Array Value → State → Outcome → State → Prop) (XC : String → State → State → Prop) (mc ms : Nat) (free : Addr → Prop) : Prop :=
  MetFree l y (headSpec ws rm) Pc (fun _ _ _ _ _ => True) (vx_Q Qc XC mc ms free)
def vx_Post (XC : String → State → State → Prop) (mc ms : Nat) (free : Addr → Prop) : Pt → Array Value → Addr → Pt → Prop := fun A a q B =>
  ∃ (g : JFrame) (mk : MethodId) (t : State) (L : List Loc) (E : String) (ce : Cell), B.U.heap = t.heap ∧ B.U.vm = t.vm ∧ XC E (A.U.calling g mk a) t ∧ t.heap[q]? = some ce ∧ ce.vm = .none ∧ A.U.vm.findClass E = some ce.cls ∧ B.locs = A.locs ++ L ∧ (∀ z ∈ L, free z.base) ∧ B.cells = A.cells + mc ∧ B.slots = A.slots + ms
def vx_Back (l : Launch) (R : Room) (p : Program) (e : Env) (below : List Frame) (s : State) (sargs : Array Value) (y : MethodName) (len W9 : Nat)
    (Pre : Pt → Array Value → Prop) (Post : Pt → Array Value → Option Value → Pt → Prop) (PostX : Pt → Array Value → Addr → Pt → Prop) : Prop :=
  ∀ (m : MethodId) (meth : Method) (c : Code) (A : Pt) (g : JFrame) (ig : Instr) (mk : MethodId) (a : Array Value),
    Stand p l e R s m sargs below meth c A.U A.locs A.cells A.slots → g.method = m → g.locals.size = c.maxLocals → decode c.code g.pc = .ok (ig, len) →
    2 * g.monitorRoom + (g.stack.map fun v => v.category).sum ≤ W9 → A.U.methodNamed? y = some mk → Pre A a →
    (∃ (v : Option Value) (B : Pt), Stand p l e R s m sargs below meth c B.U B.locs B.cells B.slots ∧ Post A a v B ∧
      Steps p.tables e below (doInvoke e (A.U.setTop g) [] mk a).1 (B.U.setTop { g with pc := g.pc + len, stack := v.toList ++ g.stack })) ∨
    (∃ (q : Addr) (B : Pt), Stand p l e R s m sargs below meth c B.U B.locs B.cells B.slots ∧ PostX A a q B ∧
      Steps p.tables e below (doInvoke e (A.U.setTop g) [] mk a).1 ((B.U.setTop g).pushFrame (.throwing q)))
section Payer
variable {l : Launch} {R : Room} {p : Program} {e : Env} {below : List Frame} {s : State} {sargs : Array Value} {y : MethodName} {len W9 : Nat}
theorem vx_back {ws : List Cond} {rm : Room} {Pc : Array Value → State → Prop} {Qc : Array Value → State → Outcome → State → Prop} {XC : String → State → State → Prop} {mc ms : Nat} {free : Addr → Prop} {bytes : ByteArray} {maxL : Nat} {ret : Option FieldType}
    (hM : vx_Met l y ws rm Pc Qc XC mc ms free) (hblind : FrameBlind Pc) (hrc : rm.cells = mc) (hrs : rm.slots = ms)
    (hframes : rm.frames + 1 ≤ R.frames) (hlocals : W9 + (maxL + 11) + rm.locals ≤ R.locals)
    (hws : ∀ w ∈ ws, ∀ a' U, s.WarmedH U.vm → w.before a' U = true) (hcode : Cond.code y bytes maxL ret ∈ ws) (hinit : ∀ a' U, s.WarmedH U.vm → (Cond.initialized y.cls).before a' U = true) :
    vx_Back l R p e below s sargs y len W9 (PreOf R mc ms Pc) (PostOf Qc mc ms free) (vx_Post XC mc ms free) := by
  intro m meth c A g ig mk a X hg hsize hdg hW hn hp
  have h1 : (headSpec ws rm).pre.before a A.U = true := atoms_intro fun w hw => hws w hw _ _ X.warmed
  have h2 : (Cond.code y bytes maxL ret).before a A.U = true := hws _ hcode _ _ X.warmed
  have h3 : (Cond.initialized y.cls).before a A.U = true := hinit _ _ X.warmed
  have h4 : A.cells + (headSpec ws rm).room.cells ≤ R.cells := by rw [show (headSpec ws rm).room.cells = mc from hrc]; exact hp.1
  have h5 : A.slots + (headSpec ws rm).room.slots ≤ R.slots := by rw [show (headSpec ws rm).room.slots = ms from hrs]; exact hp.2.1
  have hPc : Pc a (A.U.calling g mk a) := hblind _ _ _ _ hp.2.2
  obtain ⟨U, Ls, c0, s0⟩ := A
  dsimp only [Pt.U, Pt.locs, Pt.cells, Pt.slots] at h1 h2 h3 h4 h5 X hn hPc ⊢
  obtain ⟨methY, cY, hmY, hcY, -, hlY, -, -, -, -⟩ := Cond.code_spec hn h2
  obtain ⟨kY, hkY, -⟩ := className_of_methodNamed hn
  have hinitY : kY.init = .initialized := Cond.initialized_spec (findClass_of_methodNamed hn) hkY h3
  have h : At U g.method c below := by rw [hg]; exact X.here
  have hlocals9 : W9 + (maxL + 11) + (headSpec ws rm).room.locals ≤ R.locals := hlocals
  have happ : (headSpec ws rm).appliesLoose y e.platform (U.calling g mk a) = true :=
    Spec.appliesLoose_calling (g := g) h hdg hn hkY hinitY
      (X.room_calling (g := g) (R' := (headSpec ws rm).room) hsize hmY hcY hframes (by rw [hlY]; omega) h4 h5) h1
  obtain ⟨mid, hmid⟩ := h.above
  have hfr : (U.setTop g).frames = (.java g :: mid) ++ below := by rw [State.frames_setTop' g h.top, hmid]; rfl
  obtain ⟨o, s₂, hsteps, -, hend, hq⟩ := Steps.callFree hM p X.admits X.cas X.clock (acts := []) hfr happ hPc trivial
  have hq' : vx_Q Qc XC mc ms free a (U.calling g mk a) o s₂ := hq
  rw [State.frames_setTop' g h.top] at hend
  obtain ⟨g₀, hg0⟩ := Option.isSome_iff_exists.mp h.top
  obtain ⟨r, hr⟩ := State.topJava?_eq_some.mp hg0
  have hr' : (({ U with heap := s₂.heap, slotsUsed := s₂.slotsUsed } : State).setVm s₂.vm).frames = .java g₀ :: r := hr
  rcases hq' with ⟨hqc, L, hfe, hL⟩ | ⟨q, rfl, E, ce, L, hx, hce, hcv, hcl, hW₂, hsm, hL⟩
  · obtain ⟨⟨v, rfl⟩, hW₂, e2, q2, q3, q4, q5, q6⟩ := id hfe
    have e3 : s₂ = ({ (U.calling g mk a).setFrames s₂.frames with heap := s₂.heap, slotsUsed := s₂.slotsUsed } : State).setVm s₂.vm := by
      have : s₂ = ({ s₂ with vm := (U.calling g mk a).vm } : State).setVm s₂.vm := rfl
      rw [e2] at this
      exact this
    obtain ⟨c₂, i₂, len₂, hc₂, hd₂, hf₂⟩ := hend
    have hW' : U.WarmedH s₂.vm := hW₂
    have hcc : c₂ = c := by
      have h1 : s₂.code? g.method = U.code? g.method := by
        rw [State.code?_eq, State.code?_eq, hW'.alike.method?]
      exact Option.some.inj (hc₂.symm.trans (h1.trans h.code))
    subst hcc
    have hlen : len₂ = len := by rw [hdg] at hd₂; cases hd₂; rfl
    subst hlen
    have hs₂ : s₂ = (({ U with heap := s₂.heap, slotsUsed := s₂.slotsUsed } : State).setVm s₂.vm).setTop { g with pc := g.pc + len₂, stack := v.toList ++ g.stack } := by
      refine e3.trans ?_
      rw [hf₂, State.calling_eq h.top, State.setFrames_setFrames, State.setTop_of_frames _ hr', hr]
      rfl
    have hsame : U.sameButNew ({ U with heap := s₂.heap, slotsUsed := s₂.slotsUsed } : State) L mc ms := by
      refine ⟨?_, q2, q3, q4, q5, q6⟩
      obtain ⟨t, ht, -⟩ := State.frames_cons hr
      show ({ U with heap := s₂.heap, slotsUsed := s₂.slotsUsed } : State) = { U.setFrames U.frames with heap := s₂.heap, slotsUsed := s₂.slotsUsed }
      rw [State.setFrames_self ht]
    subst hg
    refine Or.inl ⟨v, ⟨(({ U with heap := s₂.heap, slotsUsed := s₂.slotsUsed } : State).setVm s₂.vm), Ls ++ L, c0 + mc, s0 + ms⟩,
      ⟨X.admits, X.cas, X.clock, X.frames, X.room, X.hears, X.method, X.code, (X.here.setHeapUsed s₂.heap s₂.slotsUsed).setVm hW'.alike, X.tail, State.WarmedH.trans X.warmed hW', X.limits, X.bytes, X.same.trans (hsame.setVm s.vm)⟩,
      ⟨g, mk, s₂, L, rfl, rfl, hqc, rfl, hL, rfl, rfl⟩, ?_⟩
    show Steps p.tables e below _ ((({ U with heap := s₂.heap, slotsUsed := s₂.slotsUsed } : State).setVm s₂.vm).setTop { g with pc := g.pc + len₂, stack := v.toList ++ g.stack })
    rw [← hs₂]
    exact hsteps
  · obtain ⟨e2, q2, q3, q4, q5, q6⟩ := id hsm
    have e3 : s₂ = ({ (U.calling g mk a).setFrames s₂.frames with heap := s₂.heap, slotsUsed := s₂.slotsUsed } : State).setVm s₂.vm := by
      have : s₂ = ({ s₂ with vm := (U.calling g mk a).vm } : State).setVm s₂.vm := rfl
      rw [e2] at this
      exact this
    have hf₂ : s₂.frames = .throwing q :: .java g :: U.frames.tail := hend
    have hW' : U.WarmedH s₂.vm := hW₂
    have hs₂ : s₂ = ((({ U with heap := s₂.heap, slotsUsed := s₂.slotsUsed } : State).setVm s₂.vm).setTop g).pushFrame (.throwing q) := by
      refine e3.trans ?_
      rw [hf₂, State.calling_eq h.top, State.setFrames_setFrames, State.pushFrame, State.frames_setTop _ hr', State.setTop_of_frames _ hr', State.setFrames_setFrames, hr]
      rfl
    have hsame : U.sameButNew ({ U with heap := s₂.heap, slotsUsed := s₂.slotsUsed } : State) L mc ms := by
      refine ⟨?_, q2, q3, q4, q5, q6⟩
      obtain ⟨t, ht, -⟩ := State.frames_cons hr
      show ({ U with heap := s₂.heap, slotsUsed := s₂.slotsUsed } : State) = { U.setFrames U.frames with heap := s₂.heap, slotsUsed := s₂.slotsUsed }
      rw [State.setFrames_self ht]
    subst hg
    refine Or.inr ⟨q, ⟨(({ U with heap := s₂.heap, slotsUsed := s₂.slotsUsed } : State).setVm s₂.vm), Ls ++ L, c0 + mc, s0 + ms⟩,
      ⟨X.admits, X.cas, X.clock, X.frames, X.room, X.hears, X.method, X.code, (X.here.setHeapUsed s₂.heap s₂.slotsUsed).setVm hW'.alike, X.tail, State.WarmedH.trans X.warmed hW', X.limits, X.bytes, X.same.trans (hsame.setVm s.vm)⟩,
      ⟨g, mk, s₂, L, E, ce, rfl, rfl, hx, hce, hcv, hcl, rfl, hL, rfl, rfl⟩, ?_⟩
    show Steps p.tables e below _ (((({ U with heap := s₂.heap, slotsUsed := s₂.slotsUsed } : State).setVm s₂.vm).setTop g).pushFrame (.throwing q))
    rw [← hs₂]
    exact hsteps
end Payer
section Calls
variable {p : Program} {l : Launch} {e : Env} {R : Room} {s : State} {m : MethodId} {args : Array Value} {below : List Frame} {meth : Method} {c : Code} {T : State} {locs : List Loc} {cells slots : Nat}
theorem vx_callV (X : Stand p l e R s m args below meth c T locs cells slots) (hexec : p.tables.exec = Jvm.exec) {own C : String} {index : Nat} {y : MethodName} {bytes : ByteArray} {maxL : Nat} {ret : Option FieldType}
    (hown : s.vm.findClass own = some m.cls) (hlink : (Cond.methodLink own index y).before args s = true) (hinst : (Cond.instanceMethod y).before args s = true) (hsel : (Cond.selects C y y).before args s = true)
    (hcode : (Cond.code y bytes maxL ret).before args s = true) (hy : y.cls ≠ "java/lang/invoke/MethodHandle" ∧ y.cls ≠ "java/lang/invoke/VarHandle")
    {W9 : Nat} {Pre : Pt → Array Value → Prop} {Post : Pt → Array Value → Option Value → Pt → Prop} {PostX : Pt → Array Value → Addr → Pt → Prop} (hK : vx_Back l R p e below s args y 3 W9 Pre Post PostX)
    {b : Addr} {cellB : Cell} (hcell : T.heap[b]? = some cellB) (hobj : cellB.vm.isStatics = false) (hcls : s.vm.findClass C = some cellB.cls)
    {g : JFrame} (hg : g.method = m) (hsize : g.locals.size = c.maxLocals) {argsL rest : List Value} (hlen : ∀ sig, parseMethodDescriptor y.desc = some sig → argsL.length = sig.parameters.length)
    (hstack : g.stack = argsL.reverse ++ .ref b :: rest) (hW : 2 * g.monitorRoom + (rest.map fun v => v.category).sum ≤ W9) (hdg : decode c.code g.pc = .ok (.invokevirtual index, 3))
    (hpre : ∀ vm₁, s.WarmedH vm₁ → Pre ⟨T.setVm vm₁, locs, cells, slots⟩ (Value.ref b :: argsL).toArray) :
    (∃ (v : Option Value) (vm₁ : Vm) (B : Pt), s.WarmedH vm₁ ∧ Stand p l e R s m args below meth c B.U B.locs B.cells B.slots ∧ Post ⟨T.setVm vm₁, locs, cells, slots⟩ (Value.ref b :: argsL).toArray v B ∧
      ∀ target, Steps p.tables e below (B.U.setTop { g with pc := g.pc + 3, stack := v.toList ++ rest }) target → Steps p.tables e below (T.setTop g) target) ∨
    (∃ (q : Addr) (vm₁ : Vm) (B : Pt), s.WarmedH vm₁ ∧ Stand p l e R s m args below meth c B.U B.locs B.cells B.slots ∧ PostX ⟨T.setVm vm₁, locs, cells, slots⟩ (Value.ref b :: argsL).toArray q B ∧
      Steps p.tables e below (T.setTop g) ((B.U.setTop { g with stack := rest }).pushFrame (.throwing q))) := by
  obtain ⟨mk, methM, hnamed, hmethM, hstM, habM⟩ := Cond.instanceMethod_spec hinst
  obtain ⟨methM', cM, hmethM', -, -, -, -, -, -, hsigM⟩ := Cond.code_spec hnamed hcode
  cases hmethM.symm.trans hmethM'
  obtain ⟨c2, r2, m2, q1, q2, q3, q4, kP, hkP, hkPi⟩ := Cond.selects_spec hsel
  cases hcls.symm.trans q1
  cases (State.methodFound?_of_named hnamed hy).symm.trans q2
  cases hnamed.symm.trans q3
  have hselP : selectMethod e.platform s.vm cellB.cls mk = .method mk := by rw [Launch.admits_selectMethod X.admits]; exact q4
  obtain ⟨vm₁, X₁, hstep₁⟩ := X.invokevirtual hexec hown hlink hnamed hmethM hstM hkP hkPi hy (a := b) (cell := cellB) hcell
    (fun z h => by rw [h] at hobj; cases hobj) hselP hmethM habM hkP hkPi (g := g) hg (argsL := argsL) (rest := rest) (hlen _ hsigM) hstack hdg
  rcases hK m meth c ⟨T.setVm vm₁, locs, cells, slots⟩ { g with stack := rest } (.invokevirtual index) mk (Value.ref b :: argsL).toArray X₁ hg hsize hdg hW (X₁.named hnamed) (hpre vm₁ X₁.warmed) with ⟨v, B, X', hpost, hsteps⟩ | ⟨q, B, X', hpost, hsteps⟩
  · exact Or.inl ⟨v, vm₁, B, X₁.warmed, X', hpost, fun target h => hstep₁ _ fun acts => by rw [doInvoke_state]; exact hsteps.trans h⟩
  · exact Or.inr ⟨q, vm₁, B, X₁.warmed, X', hpost, hstep₁ _ fun acts => by rw [doInvoke_state]; exact hsteps⟩
theorem vx_callS (X : Stand p l e R s m args below meth c T locs cells slots) (hexec : p.tables.exec = Jvm.exec) {own : String} {index : Nat} {y : MethodName} {bytes : ByteArray} {maxL : Nat} {ret : Option FieldType}
    (hown : s.vm.findClass own = some m.cls) (hlink : (Cond.methodLink own index y).before args s = true) (hstat : (Cond.static y).before args s = true) (hinit : (Cond.initialized y.cls).before args s = true)
    (hcode : (Cond.code y bytes maxL ret).before args s = true) (hy : y.cls ≠ "java/lang/invoke/MethodHandle" ∧ y.cls ≠ "java/lang/invoke/VarHandle")
    {W9 : Nat} {Pre : Pt → Array Value → Prop} {Post : Pt → Array Value → Option Value → Pt → Prop} {PostX : Pt → Array Value → Addr → Pt → Prop} (hK : vx_Back l R p e below s args y 3 W9 Pre Post PostX)
    {g : JFrame} (hg : g.method = m) (hsize : g.locals.size = c.maxLocals) {argsL rest : List Value} (hlen : ∀ sig, parseMethodDescriptor y.desc = some sig → argsL.length = sig.parameters.length)
    (hstack : g.stack = argsL.reverse ++ rest) (hW : 2 * g.monitorRoom + (rest.map fun v => v.category).sum ≤ W9) (hdg : decode c.code g.pc = .ok (.invokestatic index, 3))
    (hpre : ∀ vm₁, s.WarmedH vm₁ → Pre ⟨T.setVm vm₁, locs, cells, slots⟩ argsL.toArray) :
    (∃ (v : Option Value) (vm₁ : Vm) (B : Pt), s.WarmedH vm₁ ∧ Stand p l e R s m args below meth c B.U B.locs B.cells B.slots ∧ Post ⟨T.setVm vm₁, locs, cells, slots⟩ argsL.toArray v B ∧
      ∀ target, Steps p.tables e below (B.U.setTop { g with pc := g.pc + 3, stack := v.toList ++ rest }) target → Steps p.tables e below (T.setTop g) target) ∨
    (∃ (q : Addr) (vm₁ : Vm) (B : Pt), s.WarmedH vm₁ ∧ Stand p l e R s m args below meth c B.U B.locs B.cells B.slots ∧ PostX ⟨T.setVm vm₁, locs, cells, slots⟩ argsL.toArray q B ∧
      Steps p.tables e below (T.setTop g) ((B.U.setTop { g with stack := rest }).pushFrame (.throwing q))) := by
  obtain ⟨mk, hnamed⟩ := Cond.code_named hcode
  obtain ⟨methM, cM, hmethM, -, -, -, -, -, -, hsigM⟩ := Cond.code_spec hnamed hcode
  have hstatic : methM.isStatic = true := Cond.static_spec hnamed hmethM hstat
  obtain ⟨kP, hkP, -⟩ := className_of_methodNamed hnamed
  have hinitP : kP.init = .initialized := Cond.initialized_spec (findClass_of_methodNamed hnamed) hkP hinit
  obtain ⟨vm₁, X₁, hstep₁⟩ := X.invokestatic hexec hown hlink hnamed hmethM hstatic hkP hinitP hy (g := g) hg (argsL := argsL) (rest := rest) (hlen _ hsigM) hstack hdg
  rcases hK m meth c ⟨T.setVm vm₁, locs, cells, slots⟩ { g with stack := rest } (.invokestatic index) mk argsL.toArray X₁ hg hsize hdg hW (X₁.named hnamed) (hpre vm₁ X₁.warmed) with ⟨v, B, X', hpost, hsteps⟩ | ⟨q, B, X', hpost, hsteps⟩
  · exact Or.inl ⟨v, vm₁, B, X₁.warmed, X', hpost, fun target h => hstep₁ _ fun acts => by rw [doInvoke_state]; exact hsteps.trans h⟩
  · exact Or.inr ⟨q, vm₁, B, X₁.warmed, X', hpost, hstep₁ _ fun acts => by rw [doInvoke_state]; exact hsteps⟩
end Calls
theorem vx_cls {s : State} {T : State} {vm₁ : Vm} {E : String} {k : ClassId} (hW : s.WarmedH vm₁) (h : (T.setVm vm₁).vm.findClass E = some k) : s.vm.findClass E = some k := by
  have h1 : vm₁.findClass E = some k := h
  rw [hW.alike.findClass] at h1
  exact h1
/-- the method's frame g, with q thrown over it -/
def vx_W (p : Program) (l : Launch) (e : Env) (R : Room) (s : State) (m : MethodId) (args : Array Value) (below : List Frame) (meth : Method) (c : Code) (H : Heap) (locs : List Loc) (cells slots : Nat) (Q : State → Prop) (g : JFrame) (q : Addr) : Prop :=
  ∀ T : State, T.heap = H → Stand p l e R s m args below meth c T locs cells slots → ∃ t, Steps p.tables e below ((T.setTop g).pushFrame (.throwing q)) t ∧ Q t
def vx_Run (p : Program) (l : Launch) (e : Env) (R : Room) (s : State) (m : MethodId) (args : Array Value) (below : List Frame) (meth : Method) (c : Code) (H : Heap) (locs : List Loc) (cells slots mc ms : Nat) (g : JFrame) (rest : List Value) (Qa : State → Outcome → State → Prop) (XC : String → State → State → Prop) (free : Addr → Prop) : Prop :=
  ∀ T : State, T.heap = H → Stand p l e R s m args below meth c T locs cells slots →
    (∃ (v : Option Value) (st₀ t T' : State) (L : List Loc), st₀.heap = H ∧ Stand p l e R s m args below meth c T' (locs ++ L) (cells + mc) (slots + ms) ∧ (∀ q ∈ L, free q.base) ∧ T'.heap = t.heap ∧ T'.vm = t.vm ∧ Qa st₀ (.returned v) t ∧
      Goes p e below T g T' { g with pc := g.pc + 3, stack := v.toList ++ rest }) ∨
    (∃ (q : Addr) (st₀ t T' : State) (L : List Loc) (E : String) (ce : Cell), st₀.heap = H ∧ Stand p l e R s m args below meth c T' (locs ++ L) (cells + mc) (slots + ms) ∧ (∀ z ∈ L, free z.base) ∧ T'.heap = t.heap ∧ T'.vm = t.vm ∧ XC E st₀ t ∧ t.heap[q]? = some ce ∧ ce.vm = .none ∧ s.vm.findClass E = some ce.cls ∧
      Steps p.tables e below (T.setTop g) ((T'.setTop { g with stack := rest }).pushFrame (.throwing q)))
def vx_X {S : Type} (px : S → Prop) (B : String → S → State → Prop) (A : Nat → Prop) : String → State → State → Prop := fun E st t => ∃ u : S, px u ∧ B E u t ∧ va_F A st t
section Runs
variable {p : Program} {l : Launch} {e : Env} {R : Room} {s : State} {m : MethodId} {args : Array Value} {below : List Frame} {meth : Method} {c : Code} {H : Heap} {locs : List Loc} {cells slots : Nat}
variable {y : MethodName} {bytes cc : ByteArray} {maxL nL mc ms n index : Nat} {ret : Option FieldType} {ws : List Cond} {rm : Room} {Pc : Array Value → State → Prop} {Qc : Array Value → State → Outcome → State → Prop} {XC : String → State → State → Prop} {free : Addr → Prop} {Ts : List Cond} {own C : String} {b : Addr} {As rest : List Value} {g : JFrame}
theorem vx_callBack (cb : CallB R s args own index y bytes maxL ret ws rm mc ms n) (hM : vx_Met l y ws rm Pc Qc XC mc ms free) (hbl : FrameBlind Pc) : vx_Back l R p e below s args y 3 8 (PreOf R mc ms Pc) (PostOf Qc mc ms free) (vx_Post XC mc ms free) := by
  obtain ⟨hrc, hrs, hfr, hlo, hws, hcw, -, hini, -⟩ := cb
  exact vx_back (bytes := bytes) (maxL := maxL) (ret := ret) hM hbl hrc hrs hfr hlo hws hcw (fun a' U hW => word_at hW (Or.inl (by first | rfl | simp [Cond.onTables, Cond.keeps, Cond.steady])) hini)
theorem vx_runV (S : CallFix p m c cc nL s args Ts own) (hM : vx_Met l y ws rm Pc Qc XC mc ms free) (cw : CallW R s args own C index y bytes maxL ret ws rm mc ms n) (hp : PreV s H C b Pc As)
    (hg : g.method = m) (hn : As.length = n) (hsize : g.locals.size = nL) (hstack : g.stack = As.reverse ++ .ref b :: rest) (hW : 2 * g.monitorRoom + (rest.map fun v => v.category).sum ≤ 8) (hdg : decode cc g.pc = .ok (.invokevirtual index, 3)) (hf : cells + mc ≤ R.cells ∧ slots + ms ≤ R.slots) :
    vx_Run p l e R s m args below meth c H locs cells slots mc ms g rest (Qc (Value.ref b :: As).toArray) XC free := by
  have hK : vx_Back l R p e below s args y 3 8 (PreOf R mc ms Pc) (PostOf Qc mc ms free) (vx_Post XC mc ms free) := vx_callBack cw.1 hM hp.1
  obtain ⟨⟨-, -, -, -, -, -, hcode, -, hy, hlen, hl⟩, hin, hse⟩ := cw
  obtain ⟨hx, hb, hml, ho, -⟩ := S
  obtain ⟨-, ⟨cellB, hcB, hoB, hclB⟩, hPc⟩ := hp
  intro T hT X
  rcases vx_callV X hx (C := C) (bytes := bytes) (maxL := maxL) (ret := ret) ho hl hin hse hcode hy hK (by rw [hT]; exact hcB) hoB hclB hg (hsize.trans hml.symm) (argsL := As) (rest := rest) (fun sig h => hn.trans (hlen sig h)) hstack hW (by rw [hb]; exact hdg)
    (fun vm₁ hW₁ => ⟨hf.1, hf.2, hPc (T.setVm vm₁) hT hW₁⟩) with ⟨v, vm₁, ⟨U', l2, c2, s2⟩, hW₁, X', ⟨g', mk, t, L, e1, e2, hq, h1, hL, h2, h3⟩, st⟩ | ⟨q, vm₁, ⟨U', l2, c2, s2⟩, hW₁, X', ⟨g', mk, t, L, E, ce, e1, e2, hq, hce, hcv, hcl, h1, hL, h2, h3⟩, st⟩
  · dsimp only [Pt.U, Pt.locs, Pt.cells, Pt.slots] at X' e1 e2 h1 h2 h3 st
    subst h1; subst h2; subst h3
    exact Or.inl ⟨v, (T.setVm vm₁).calling g' mk (Value.ref b :: As).toArray, t, U', L, hT, X', hL, e1, e2, hq, st⟩
  · dsimp only [Pt.U, Pt.locs, Pt.cells, Pt.slots] at X' e1 e2 h1 h2 h3 st hcl
    subst h1; subst h2; subst h3
    exact Or.inr ⟨q, (T.setVm vm₁).calling g' mk (Value.ref b :: As).toArray, t, U', L, E, ce, hT, X', hL, e1, e2, hq, hce, hcv, vx_cls hW₁ hcl, st⟩
theorem vx_runS (S : CallFix p m c cc nL s args Ts own) (hM : vx_Met l y ws rm Pc Qc XC mc ms free) (cw : CallB R s args own index y bytes maxL ret ws rm mc ms n ∧ (Cond.static y).before args s = true) (hp : PreS s H Pc As)
    (hg : g.method = m) (hn : As.length = n) (hsize : g.locals.size = nL) (hstack : g.stack = As.reverse ++ rest) (hW : 2 * g.monitorRoom + (rest.map fun v => v.category).sum ≤ 8) (hdg : decode cc g.pc = .ok (.invokestatic index, 3)) (hf : cells + mc ≤ R.cells ∧ slots + ms ≤ R.slots) :
    vx_Run p l e R s m args below meth c H locs cells slots mc ms g rest (Qc As.toArray) XC free := by
  have hK : vx_Back l R p e below s args y 3 8 (PreOf R mc ms Pc) (PostOf Qc mc ms free) (vx_Post XC mc ms free) := vx_callBack cw.1 hM hp.1
  obtain ⟨⟨-, -, -, -, -, -, hcode, hini, hy, hlen, hl⟩, hstt⟩ := cw
  obtain ⟨hx, hb, hml, ho, -⟩ := S
  intro T hT X
  rcases vx_callS X hx (bytes := bytes) (maxL := maxL) (ret := ret) ho hl hstt hini hcode hy hK hg (hsize.trans hml.symm) (argsL := As) (rest := rest) (fun sig h => hn.trans (hlen sig h)) hstack hW (by rw [hb]; exact hdg)
    (fun vm₁ hW₁ => ⟨hf.1, hf.2, hp.2 (T.setVm vm₁) hT hW₁⟩) with ⟨v, vm₁, ⟨U', l2, c2, s2⟩, hW₁, X', ⟨g', mk, t, L, e1, e2, hq, h1, hL, h2, h3⟩, st⟩ | ⟨q, vm₁, ⟨U', l2, c2, s2⟩, hW₁, X', ⟨g', mk, t, L, E, ce, e1, e2, hq, hce, hcv, hcl, h1, hL, h2, h3⟩, st⟩
  · dsimp only [Pt.U, Pt.locs, Pt.cells, Pt.slots] at X' e1 e2 h1 h2 h3 st
    subst h1; subst h2; subst h3
    exact Or.inl ⟨v, (T.setVm vm₁).calling g' mk As.toArray, t, U', L, hT, X', hL, e1, e2, hq, st⟩
  · dsimp only [Pt.U, Pt.locs, Pt.cells, Pt.slots] at X' e1 e2 h1 h2 h3 st hcl
    subst h1; subst h2; subst h3
    exact Or.inr ⟨q, (T.setVm vm₁).calling g' mk As.toArray, t, U', L, E, ce, hT, X', hL, e1, e2, hq, hce, hcv, vx_cls hW₁ hcl, st⟩
end Runs
section Rows
variable {p : Program} {l : Launch} {e : Env} {R : Room} {s : State} {m : MethodId} {args : Array Value} {below : List Frame} {meth : Method} {c : Code} {H : Heap} {locs : List Loc} {cells slots : Nat} {Q : State → Prop}
variable {mc ms : Nat} {free : Addr → Prop} {A0 A1 : Nat → Prop} {H0 : Heap} {a : Array Value} {pc : Nat} {ls : Array Slot} {st0 rest : List Value}
theorem vx_keep {st₀ t T' : State} {L : List Loc} (h0 : st₀.heap = H) (e1 : T'.heap = t.heap) (hS : va_S A0 H0 H locs) (hA : ∀ q, q < H.size → A1 q → A0 q) (hf : ∀ q, free q → A0 q) (hL : ∀ q ∈ L, free q.base) (hF : va_F A1 st₀ t) :
    H.size ≤ T'.heap.size ∧ (∀ q : Nat, q < H.size → ¬ A1 q → T'.heap[q]? = H[q]?) ∧ va_S A0 H0 T'.heap (locs ++ L) := by
  obtain ⟨hz, hk⟩ := hF
  rw [h0] at hz hk
  exact ⟨by rw [e1]; exact hz, fun q h1 h2 => by rw [e1]; exact hk q h1 h2,
    ⟨Nat.le_trans hS.1 (by rw [e1]; exact hz), fun q h1 h2 => by rw [e1, hk q (Nat.lt_of_lt_of_le h1 hS.1) (fun z => h2 (hA q (Nat.lt_of_lt_of_le h1 hS.1) z))]; exact hS.2.1 q h1 h2, fun q hq => by
      rcases List.mem_append.mp hq with h | h
      · exact hS.2.2 q h
      · exact hf _ (hL q h)⟩⟩
theorem vx_calli {S SX : Type} {post : Int32 → S → Prop} {px : SX → Prop} {B : S → State → Prop} {BX : String → SX → State → Prop} {AX : Nat → Prop} (hr : vx_Run p l e R s m args below meth c H locs cells slots mc ms (F0 m pc ls st0) rest (va_Qi post B A1 a) (vx_X px BX AX) free) (hS : va_S A0 H0 H locs) (hA : ∀ q, q < H.size → A1 q → A0 q) (hf : ∀ q, free q → A0 q) (hAX : ∀ q, q < H.size → AX q → A0 q)
    (kx : ∀ (E : String) (ce : Cell) (q9 : Addr) (u : SX) (t : State) (H1 : Heap) (locs1 : List Loc), t.heap = H1 → s.vm.Alike t.vm → px u → BX E u t → H.size ≤ H1.size → (∀ q : Nat, q < H.size → ¬ AX q → H1[q]? = H[q]?) → va_S A0 H0 H1 locs1 → H1[q9]? = some ce → ce.vm = .none → s.vm.findClass E = some ce.cls → vx_W p l e R s m args below meth c H1 locs1 (cells + mc) (slots + ms) Q (F0 m pc ls rest) q9)
    (kk : ∀ (r : Int32) (u : S) (t : State) (H1 : Heap) (locs1 : List Loc), t.heap = H1 → s.vm.Alike t.vm → post r u → B u t → H.size ≤ H1.size → (∀ q : Nat, q < H.size → ¬ A1 q → H1[q]? = H[q]?) → va_S A0 H0 H1 locs1 → W p l e R s m args below meth c H1 locs1 (cells + mc) (slots + ms) Q (F0 m (pc + 3) ls (.int r :: rest))) : W p l e R s m args below meth c H locs cells slots Q (F0 m pc ls st0) := by
  intro T hT X
  rcases hr T hT X with ⟨v, st₀, t, T', L, h0, X', hL, e1, e2, ⟨⟨r, u, hv, hp, hb⟩, hF⟩, st⟩ | ⟨q, st₀, t, T', L, E, ce, h0, X', hL, e1, e2, ⟨u, hp, hb, hF⟩, hce, hcv, hcl, st⟩
  · cases hv
    obtain ⟨k1, k2, k3⟩ := vx_keep h0 e1 hS hA hf hL hF
    obtain ⟨t2, a1, b1⟩ := kk r u t T'.heap (locs ++ L) e1.symm (by rw [← e2]; exact X'.warmed.alike) hp hb k1 k2 k3 T' rfl X'
    exact ⟨t2, st t2 a1, b1⟩
  · obtain ⟨k1, k2, k3⟩ := vx_keep h0 e1 hS hAX hf hL hF
    obtain ⟨t2, a1, b1⟩ := kx E ce q u t T'.heap (locs ++ L) e1.symm (by rw [← e2]; exact X'.warmed.alike) hp hb k1 k2 k3 (by rw [e1]; exact hce) hcv hcl T' rfl X'
    exact ⟨t2, st.trans a1, b1⟩
theorem vx_calll {S SX : Type} {post : Int64 → S → Prop} {px : SX → Prop} {B : S → State → Prop} {BX : String → SX → State → Prop} {AX : Nat → Prop} (hr : vx_Run p l e R s m args below meth c H locs cells slots mc ms (F0 m pc ls st0) rest (va_Ql post B A1 a) (vx_X px BX AX) free) (hS : va_S A0 H0 H locs) (hA : ∀ q, q < H.size → A1 q → A0 q) (hf : ∀ q, free q → A0 q) (hAX : ∀ q, q < H.size → AX q → A0 q)
    (kx : ∀ (E : String) (ce : Cell) (q9 : Addr) (u : SX) (t : State) (H1 : Heap) (locs1 : List Loc), t.heap = H1 → s.vm.Alike t.vm → px u → BX E u t → H.size ≤ H1.size → (∀ q : Nat, q < H.size → ¬ AX q → H1[q]? = H[q]?) → va_S A0 H0 H1 locs1 → H1[q9]? = some ce → ce.vm = .none → s.vm.findClass E = some ce.cls → vx_W p l e R s m args below meth c H1 locs1 (cells + mc) (slots + ms) Q (F0 m pc ls rest) q9)
    (kk : ∀ (r : Int64) (u : S) (t : State) (H1 : Heap) (locs1 : List Loc), t.heap = H1 → s.vm.Alike t.vm → post r u → B u t → H.size ≤ H1.size → (∀ q : Nat, q < H.size → ¬ A1 q → H1[q]? = H[q]?) → va_S A0 H0 H1 locs1 → W p l e R s m args below meth c H1 locs1 (cells + mc) (slots + ms) Q (F0 m (pc + 3) ls (.long r :: rest))) : W p l e R s m args below meth c H locs cells slots Q (F0 m pc ls st0) := by
  intro T hT X
  rcases hr T hT X with ⟨v, st₀, t, T', L, h0, X', hL, e1, e2, ⟨⟨r, u, hv, hp, hb⟩, hF⟩, st⟩ | ⟨q, st₀, t, T', L, E, ce, h0, X', hL, e1, e2, ⟨u, hp, hb, hF⟩, hce, hcv, hcl, st⟩
  · cases hv
    obtain ⟨k1, k2, k3⟩ := vx_keep h0 e1 hS hA hf hL hF
    obtain ⟨t2, a1, b1⟩ := kk r u t T'.heap (locs ++ L) e1.symm (by rw [← e2]; exact X'.warmed.alike) hp hb k1 k2 k3 T' rfl X'
    exact ⟨t2, st t2 a1, b1⟩
  · obtain ⟨k1, k2, k3⟩ := vx_keep h0 e1 hS hAX hf hL hF
    obtain ⟨t2, a1, b1⟩ := kx E ce q u t T'.heap (locs ++ L) e1.symm (by rw [← e2]; exact X'.warmed.alike) hp hb k1 k2 k3 (by rw [e1]; exact hce) hcv hcl T' rfl X'
    exact ⟨t2, st.trans a1, b1⟩
theorem vx_callf {S SX : Type} {post : UInt32 → S → Prop} {px : SX → Prop} {B : S → State → Prop} {BX : String → SX → State → Prop} {AX : Nat → Prop} (hr : vx_Run p l e R s m args below meth c H locs cells slots mc ms (F0 m pc ls st0) rest (va_Qf post B A1 a) (vx_X px BX AX) free) (hS : va_S A0 H0 H locs) (hA : ∀ q, q < H.size → A1 q → A0 q) (hf : ∀ q, free q → A0 q) (hAX : ∀ q, q < H.size → AX q → A0 q)
    (kx : ∀ (E : String) (ce : Cell) (q9 : Addr) (u : SX) (t : State) (H1 : Heap) (locs1 : List Loc), t.heap = H1 → s.vm.Alike t.vm → px u → BX E u t → H.size ≤ H1.size → (∀ q : Nat, q < H.size → ¬ AX q → H1[q]? = H[q]?) → va_S A0 H0 H1 locs1 → H1[q9]? = some ce → ce.vm = .none → s.vm.findClass E = some ce.cls → vx_W p l e R s m args below meth c H1 locs1 (cells + mc) (slots + ms) Q (F0 m pc ls rest) q9)
    (kk : ∀ (r : UInt32) (u : S) (t : State) (H1 : Heap) (locs1 : List Loc), t.heap = H1 → s.vm.Alike t.vm → post r u → B u t → H.size ≤ H1.size → (∀ q : Nat, q < H.size → ¬ A1 q → H1[q]? = H[q]?) → va_S A0 H0 H1 locs1 → W p l e R s m args below meth c H1 locs1 (cells + mc) (slots + ms) Q (F0 m (pc + 3) ls (.float r :: rest))) : W p l e R s m args below meth c H locs cells slots Q (F0 m pc ls st0) := by
  intro T hT X
  rcases hr T hT X with ⟨v, st₀, t, T', L, h0, X', hL, e1, e2, ⟨⟨r, u, hv, hp, hb⟩, hF⟩, st⟩ | ⟨q, st₀, t, T', L, E, ce, h0, X', hL, e1, e2, ⟨u, hp, hb, hF⟩, hce, hcv, hcl, st⟩
  · cases hv
    obtain ⟨k1, k2, k3⟩ := vx_keep h0 e1 hS hA hf hL hF
    obtain ⟨t2, a1, b1⟩ := kk r u t T'.heap (locs ++ L) e1.symm (by rw [← e2]; exact X'.warmed.alike) hp hb k1 k2 k3 T' rfl X'
    exact ⟨t2, st t2 a1, b1⟩
  · obtain ⟨k1, k2, k3⟩ := vx_keep h0 e1 hS hAX hf hL hF
    obtain ⟨t2, a1, b1⟩ := kx E ce q u t T'.heap (locs ++ L) e1.symm (by rw [← e2]; exact X'.warmed.alike) hp hb k1 k2 k3 (by rw [e1]; exact hce) hcv hcl T' rfl X'
    exact ⟨t2, st.trans a1, b1⟩
theorem vx_calld {S SX : Type} {post : UInt64 → S → Prop} {px : SX → Prop} {B : S → State → Prop} {BX : String → SX → State → Prop} {AX : Nat → Prop} (hr : vx_Run p l e R s m args below meth c H locs cells slots mc ms (F0 m pc ls st0) rest (va_Qd post B A1 a) (vx_X px BX AX) free) (hS : va_S A0 H0 H locs) (hA : ∀ q, q < H.size → A1 q → A0 q) (hf : ∀ q, free q → A0 q) (hAX : ∀ q, q < H.size → AX q → A0 q)
    (kx : ∀ (E : String) (ce : Cell) (q9 : Addr) (u : SX) (t : State) (H1 : Heap) (locs1 : List Loc), t.heap = H1 → s.vm.Alike t.vm → px u → BX E u t → H.size ≤ H1.size → (∀ q : Nat, q < H.size → ¬ AX q → H1[q]? = H[q]?) → va_S A0 H0 H1 locs1 → H1[q9]? = some ce → ce.vm = .none → s.vm.findClass E = some ce.cls → vx_W p l e R s m args below meth c H1 locs1 (cells + mc) (slots + ms) Q (F0 m pc ls rest) q9)
    (kk : ∀ (r : UInt64) (u : S) (t : State) (H1 : Heap) (locs1 : List Loc), t.heap = H1 → s.vm.Alike t.vm → post r u → B u t → H.size ≤ H1.size → (∀ q : Nat, q < H.size → ¬ A1 q → H1[q]? = H[q]?) → va_S A0 H0 H1 locs1 → W p l e R s m args below meth c H1 locs1 (cells + mc) (slots + ms) Q (F0 m (pc + 3) ls (.double r :: rest))) : W p l e R s m args below meth c H locs cells slots Q (F0 m pc ls st0) := by
  intro T hT X
  rcases hr T hT X with ⟨v, st₀, t, T', L, h0, X', hL, e1, e2, ⟨⟨r, u, hv, hp, hb⟩, hF⟩, st⟩ | ⟨q, st₀, t, T', L, E, ce, h0, X', hL, e1, e2, ⟨u, hp, hb, hF⟩, hce, hcv, hcl, st⟩
  · cases hv
    obtain ⟨k1, k2, k3⟩ := vx_keep h0 e1 hS hA hf hL hF
    obtain ⟨t2, a1, b1⟩ := kk r u t T'.heap (locs ++ L) e1.symm (by rw [← e2]; exact X'.warmed.alike) hp hb k1 k2 k3 T' rfl X'
    exact ⟨t2, st t2 a1, b1⟩
  · obtain ⟨k1, k2, k3⟩ := vx_keep h0 e1 hS hAX hf hL hF
    obtain ⟨t2, a1, b1⟩ := kx E ce q u t T'.heap (locs ++ L) e1.symm (by rw [← e2]; exact X'.warmed.alike) hp hb k1 k2 k3 (by rw [e1]; exact hce) hcv hcl T' rfl X'
    exact ⟨t2, st.trans a1, b1⟩
theorem vx_callv {S SX : Type} {post : S → Prop} {px : SX → Prop} {B : S → State → Prop} {BX : String → SX → State → Prop} {AX : Nat → Prop} (hr : vx_Run p l e R s m args below meth c H locs cells slots mc ms (F0 m pc ls st0) rest (va_Qv post B A1 a) (vx_X px BX AX) free) (hS : va_S A0 H0 H locs) (hA : ∀ q, q < H.size → A1 q → A0 q) (hf : ∀ q, free q → A0 q) (hAX : ∀ q, q < H.size → AX q → A0 q)
    (kx : ∀ (E : String) (ce : Cell) (q9 : Addr) (u : SX) (t : State) (H1 : Heap) (locs1 : List Loc), t.heap = H1 → s.vm.Alike t.vm → px u → BX E u t → H.size ≤ H1.size → (∀ q : Nat, q < H.size → ¬ AX q → H1[q]? = H[q]?) → va_S A0 H0 H1 locs1 → H1[q9]? = some ce → ce.vm = .none → s.vm.findClass E = some ce.cls → vx_W p l e R s m args below meth c H1 locs1 (cells + mc) (slots + ms) Q (F0 m pc ls rest) q9)
    (kk : ∀ (u : S) (t : State) (H1 : Heap) (locs1 : List Loc), t.heap = H1 → s.vm.Alike t.vm → post u → B u t → H.size ≤ H1.size → (∀ q : Nat, q < H.size → ¬ A1 q → H1[q]? = H[q]?) → va_S A0 H0 H1 locs1 → W p l e R s m args below meth c H1 locs1 (cells + mc) (slots + ms) Q (F0 m (pc + 3) ls (rest))) : W p l e R s m args below meth c H locs cells slots Q (F0 m pc ls st0) := by
  intro T hT X
  rcases hr T hT X with ⟨v, st₀, t, T', L, h0, X', hL, e1, e2, ⟨⟨u, hv, hp, hb⟩, hF⟩, st⟩ | ⟨q, st₀, t, T', L, E, ce, h0, X', hL, e1, e2, ⟨u, hp, hb, hF⟩, hce, hcv, hcl, st⟩
  · cases hv
    obtain ⟨k1, k2, k3⟩ := vx_keep h0 e1 hS hA hf hL hF
    obtain ⟨t2, a1, b1⟩ := kk u t T'.heap (locs ++ L) e1.symm (by rw [← e2]; exact X'.warmed.alike) hp hb k1 k2 k3 T' rfl X'
    exact ⟨t2, st t2 a1, b1⟩
  · obtain ⟨k1, k2, k3⟩ := vx_keep h0 e1 hS hAX hf hL hF
    obtain ⟨t2, a1, b1⟩ := kx E ce q u t T'.heap (locs ++ L) e1.symm (by rw [← e2]; exact X'.warmed.alike) hp hb k1 k2 k3 (by rw [e1]; exact hce) hcv hcl T' rfl X'
    exact ⟨t2, st.trans a1, b1⟩
/-- caught by the row x of this method's table; the rows ahead don't take it -/
theorem vx_catch {own name : String} {E : String} {ce : Cell} {q : Addr} (hown : s.vm.findClass own = some m.cls) (pre : List ExceptionTableEntry) (x : ExceptionTableEntry) (suf : List ExceptionTableEntry) (hsplit : c.exceptionTable.toList = pre ++ x :: suf)
    (hpass : ∀ z ∈ pre, covers z pc = false ∨ (z.catchType ≠ 0 ∧ ∃ nm : String, (Cond.classLink own z.catchType nm).before args s = true ∧ va_Nc E nm s)) (hx : covers x pc = true) (h0 : x.catchType ≠ 0)
    (hlink : (Cond.classLink own x.catchType name).before args s = true) (hcast : (Cond.castable E name).before args s = true) (hcell : H[q]? = some ce) (hv : ce.vm = .none) (hcl : s.vm.findClass E = some ce.cls)
    (kk : W p l e R s m args below meth c H locs cells slots Q (F0 m x.handlerPc ls [.ref q])) : vx_W p l e R s m args below meth c H locs cells slots Q (F0 m pc ls rest) q := by
  intro T hT X
  have hpl : e.platform.magicAccessors = ({} : Platform).magicAccessors := by rw [X.admits.platform]
  obtain ⟨c3, c4, hc3, hc4, hasg⟩ := Cond.castable_spec hcast
  cases Option.some.inj (hc3.symm.trans hcl)
  obtain ⟨c5, hc5, hcl5⟩ := Cond.classLink_spec hown hlink e.platform hpl
  cases Option.some.inj (hc4.symm.trans hc5)
  obtain ⟨vm', X', st⟩ := X.thenCaughtThrough q (g := F0 m pc ls rest) rfl (Steps.refl _) (by rw [hT]; exact hcell) (by rw [hv]; rfl) (by obtain ⟨k9, h9, -⟩ := Vm.findClass_spec hcl; exact ⟨k9, h9⟩) pre x suf hsplit
    (fun z hz => by
      rcases hpass z hz with h | ⟨hz0, nm, hl1, hn1⟩
      · exact Or.inl h
      · obtain ⟨c6, hc6, hcl6⟩ := Cond.classLink_spec hown hl1 e.platform hpl
        obtain ⟨a8, b8, h1, h2, h3⟩ := hn1
        cases Option.some.inj (h1.symm.trans hcl)
        cases Option.some.inj (h2.symm.trans hc6)
        exact Or.inr ⟨hz0, _, hcl6, h3⟩) hx (Or.inr ⟨h0, c4, hcl5, hasg⟩)
  obtain ⟨t, a1, b1⟩ := kk (T.setVm vm') hT X'
  exact ⟨t, st.trans a1, b1⟩
end Rows
section Ends
variable {p : Program} {l : Launch} {e : Env} {R : Room} {s : State} {m : MethodId} {args : Array Value} {below : List Frame} {meth : Method} {c : Code} {H : Heap} {locs : List Loc} {cells slots : Nat} {Q : State → Prop}
variable {mc ms : Nat} {free : Addr → Prop} {A0 A1 : Nat → Prop} {H0 : Heap} {a : Array Value} {ls : Array Slot} {st0 rest : List Value}
variable {Qc : Array Value → State → Outcome → State → Prop} {XC : String → State → State → Prop}
/-- what a body that may throw owes at its end -/
def vx_MQ (below : List Frame) (Qc : Array Value → State → Outcome → State → Prop) (XC : String → State → State → Prop) (a : Array Value) (s : State) (mc ms : Nat) (free : Addr → Prop) : State → Prop := fun t =>
  ∃ o, t.status = .running ∧ Ended t below o ∧ vx_Q Qc XC mc ms free a s o t
theorem vx_ret {g : JFrame} {mc ms : Nat} (k : W p l e R s m args below meth c H locs cells slots (MQ below Qc args s mc ms free) g) : W p l e R s m args below meth c H locs cells slots (vx_MQ below Qc XC args s mc ms free) g := by
  intro T hT X
  obtain ⟨t, a1, o, b1, b2, b3, b4⟩ := k T hT X
  exact ⟨t, a1, o, b1, b2, Or.inl ⟨b3, b4⟩⟩
/-- not caught here: it goes on to the caller -/
theorem vx_widen {g : JFrame} {q : Addr} {k n : Nat} (h1 : cells ≤ k) (h2 : slots ≤ n) (kk : vx_W p l e R s m args below meth c H locs k n Q g q) : vx_W p l e R s m args below meth c H locs cells slots Q g q := fun T hT X => kk T hT (stand_widen X h1 h2)
theorem vx_out {pc : Nat} {E : String} {ce : Cell} {q : Addr} {mc ms : Nat} (hout : ∀ x ∈ c.exceptionTable.toList, covers x pc = false) (hlocks : meth.locks = false) (hcell : H[q]? = some ce) (hv : ce.vm = .none) (hcl : s.vm.findClass E = some ce.cls)
    (hx : ∀ t : State, t.heap = H → s.vm.Alike t.vm → XC E s t) (hf : ∀ z ∈ locs, free z.base) (hc : cells ≤ mc) (hs : slots ≤ ms) :
    vx_W p l e R s m args below meth c H locs cells slots (vx_MQ below Qc XC args s mc ms free) (F0 m pc ls rest) q := by
  intro T hT X
  obtain ⟨st1, hrun, hend, hW, hsm⟩ := X.leaveThrown q (g := F0 m pc ls rest) rfl rfl rfl hout hlocks
  have hcell9 : (T.setFrames (.throwing q :: below)).heap[q]? = some ce := by
    show T.heap[q]? = some ce
    rw [hT]; exact hcell
  exact ⟨_, st1, .threw q, hrun, hend, Or.inr ⟨q, rfl, E, ce, locs, hx _ hT hW.alike, hcell9, hv, hcl, hW, hsm.mono hc hs, hf⟩⟩
theorem vx_frame {U : State} {k n : Nat} (h : s.sameButNew ({ U with vm := s.vm } : State) locs k n) : s.heap.size ≤ U.heap.size ∧ ∀ q : Nat, q < s.heap.size → (∀ z ∈ locs, z.base ≠ q) → U.heap[q]? = s.heap[q]? := by
  obtain ⟨-, h2, -, -, -, h6⟩ := h
  refine ⟨h2, fun q hq hz => ?_⟩
  obtain ⟨c9, e1, e2, e3, e4⟩ := h6 q _ (Array.getElem?_eq_getElem hq)
  have hs : c9.slots = (s.heap[q]).slots := Array.ext_getElem? fun i => e4 i fun hm => hz _ hm rfl
  have h9 : c9 = s.heap[q] := by
    rw [hs] at e2
    exact e2
  have e5 : U.heap[q]? = some c9 := e1
  rw [e5, h9, Array.getElem?_eq_getElem hq]
/-- the words of a throw but the four that speak of the heap -/
def vx_no (w : Cond) : Bool := decide (w ≠ .isRef (.static Bundle.tN "UNASSIGNED_STACK" Bundle.steD)) && decide (w ≠ .isRef (.static Bundle.tN "SUPPRESSED_SENTINEL" Bundle.listD)) && decide (w ≠ .laysStatic Bundle.tN "UNASSIGNED_STACK" Bundle.steD) && decide (w ≠ .laysStatic Bundle.tN "SUPPRESSED_SENTINEL" Bundle.listD)
def vx_at0 (own : String) (ic : Nat) (X : String) (names : List String) : List Cond := (Bundle.ownAtoms0 own ic X names).filter vx_no
def vx_atS (own : String) (ic : Nat) (X : String) (names : List String) : List Cond := (Bundle.ownAtoms own ic X names).filter vx_no
/-- a word that the tables alone decide, or a good one -/
def vx_ot (w : Cond) : Bool := w.onTables || goodWord w
theorem vx_ot_at {args a' : Array Value} {s U : State} {w : Cond} (hW : s.WarmedH U.vm) (hvm : s.vm = U.vm) (hg : vx_ot w = true) (h : w.before args s = true) : w.before a' U = true := by
  simp only [vx_ot, Bool.or_eq_true] at hg
  rcases hg with hg | hg
  · exact va_tabs hg hvm h
  · exact word_at hW (good_of_word hg) h
/-- a list's words: the good ones out of the method's own list, the others by premises of their own -/
theorem vx_hat {args : Array Value} {s : State} {L B : List Cond} (h1 : ∀ w ∈ L.filter goodWord, w.before args s = true) (h2 : ∀ w ∈ L.filter (fun w => !goodWord w), w ∈ B) (h3 : ∀ w ∈ B, w.before args s = true) : ∀ w ∈ L, w.before args s = true := by
  intro w hw
  by_cases g : goodWord w = true
  · exact h1 w (List.mem_filter.mpr ⟨hw, g⟩)
  · refine h3 w (h2 w (List.mem_filter.mpr ⟨hw, ?_⟩))
    show (!goodWord w) = true
    cases hgw : goodWord w
    · rfl
    · exact absurd hgw g
theorem vx_c {args : Array Value} {s : State} {w : Cond} {B : List Cond} (h : w.before args s = true) (t : ∀ w ∈ B, w.before args s = true) : ∀ w' ∈ w :: B, w'.before args s = true := fun w' h' => (List.mem_cons.mp h').elim (fun e => by rw [e]; exact h) (t w')
theorem vx_n {args : Array Value} {s : State} : ∀ w ∈ ([] : List Cond), w.before args s = true := fun _ h => nomatch h
theorem vx_own {args : Array Value} {s : State} {L : List Cond} (h1 : ∀ w ∈ L.filter vx_no, w.before args s = true)
    (hU : (Cond.isRef (.static Bundle.tN "UNASSIGNED_STACK" Bundle.steD)).before args s = true) (hN : (Cond.isRef (.static Bundle.tN "SUPPRESSED_SENTINEL" Bundle.listD)).before args s = true)
    (lU : (Cond.laysStatic Bundle.tN "UNASSIGNED_STACK" Bundle.steD).before args s = true) (lN : (Cond.laysStatic Bundle.tN "SUPPRESSED_SENTINEL" Bundle.listD).before args s = true) : ∀ w ∈ L, w.before args s = true := by
  intro w hw
  by_cases e1 : w = .isRef (.static Bundle.tN "UNASSIGNED_STACK" Bundle.steD)
  · rw [e1]; exact hU
  · by_cases e2 : w = .isRef (.static Bundle.tN "SUPPRESSED_SENTINEL" Bundle.listD)
    · rw [e2]; exact hN
    · by_cases e3 : w = .laysStatic Bundle.tN "UNASSIGNED_STACK" Bundle.steD
      · rw [e3]; exact lU
      · by_cases e4 : w = .laysStatic Bundle.tN "SUPPRESSED_SENTINEL" Bundle.listD
        · rw [e4]; exact lN
        · exact h1 w (List.mem_filter.mpr ⟨hw, by unfold vx_no; rw [decide_eq_true e1, decide_eq_true e2, decide_eq_true e3, decide_eq_true e4]; rfl⟩)
/-- where a static field lies, its class's statics cell in H -/
def vx_L (C n d : String) (A : Nat → Prop) (U : State) (H : Heap) : Prop := ∃ (c : ClassId) (k : Class) (i : Nat) (f : Field) (a : Nat) (cell : Cell), U.vm.findClass C = some c ∧ U.fieldFound? C n d = some (c, k, i, f) ∧ f.isStatic = true ∧ k.statics = some a ∧ H[a]? = some cell ∧ cell.vm.isStatics = true ∧ cell.cls = c ∧ f.slot < cell.slots.size ∧ k.staticTypes[f.slot]? = some f.type ∧ ¬ A a
theorem vx_L.moved {C n d : String} {A : Nat → Prop} {u U : State} {H : Heap} (hvm : u.vm.Alike U.vm) (h : vx_L C n d A u H) : vx_L C n d A U H := by
  obtain ⟨c, k, i, f, a, cell, h1, h2, h3, h4, h5, h6, h7, h8, h9, h10⟩ := h
  obtain ⟨k', hi', he⟩ := State.fieldFound?_setVm hvm h2
  exact ⟨c, k', i, f, a, cell, by rw [hvm.findClass]; exact h1, hi', h3, by rw [he]; exact h4, h5, h6, h7, h8, by rw [he]; exact h9, h10⟩
theorem vx_L.kept {C n d : String} {A : Nat → Prop} {U : State} {H H1 : Heap} (h : vx_L C n d A U H) (hq : ∀ a : Nat, a < H.size → ¬ A a → H1[a]? = H[a]?) : vx_L C n d A U H1 := by
  obtain ⟨c, k, i, f, a, cell, h1, h2, h3, h4, h5, h6, h7, h8, h9, h10⟩ := h
  exact ⟨c, k, i, f, a, cell, h1, h2, h3, h4, by rw [hq a (Array.getElem?_eq_some_iff.mp h5).1 h10]; exact h5, h6, h7, h8, h9, h10⟩
theorem vx_L.narrow {C n d : String} {A B : Nat → Prop} {U : State} {H : Heap} (h : vx_L C n d A U H) (hAB : ∀ q, B q → A q) : vx_L C n d B U H := by
  obtain ⟨c, k, i, f, a, cell, h1, h2, h3, h4, h5, h6, h7, h8, h9, h10⟩ := h
  exact ⟨c, k, i, f, a, cell, h1, h2, h3, h4, h5, h6, h7, h8, h9, fun z => h10 (hAB _ z)⟩
theorem vx_L.word {C n d : String} {A : Nat → Prop} {s : State} {args : Array Value} (h : vx_L C n d A s s.heap) : (Cond.laysStatic C n d).before args s = true := by
  obtain ⟨c, k, i, f, a, cell, h1, h2, h3, h4, h5, h6, h7, h8, h9, -⟩ := h
  show (Cond.laysStatic C n d).holds args s none s [] = true
  exact Cond.laysStatic_of h1 h2 h3 h4 h5 h6 h7 h8 h9
/-- .. and what it holds: null or some reference -/
def vx_Zq (C n d : String) (A : Nat → Prop) (U : State) (H : Heap) : Prop := va_Zq C n d A U H ∧ vx_L C n d A U H
theorem vx_Zq.moved {C n d : String} {A : Nat → Prop} {u U : State} {H : Heap} (hvm : u.vm.Alike U.vm) (h : vx_Zq C n d A u H) : vx_Zq C n d A U H := ⟨va_Zq.moved hvm h.1, vx_L.moved hvm h.2⟩
theorem vx_Zq.kept {C n d : String} {A : Nat → Prop} {U : State} {H H1 : Heap} (h : vx_Zq C n d A U H) (hq : ∀ a : Nat, a < H.size → ¬ A a → H1[a]? = H[a]?) : vx_Zq C n d A U H1 := ⟨va_Zq.kept h.1 hq, vx_L.kept h.2 hq⟩
theorem vx_Zq.narrow {C n d : String} {A B : Nat → Prop} {U : State} {H : Heap} (h : vx_Zq C n d A U H) (hAB : ∀ q, B q → A q) : vx_Zq C n d B U H := ⟨va_Zq.narrow h.1 hAB, vx_L.narrow h.2 hAB⟩
theorem vx_Zqof {args : Array Value} {s : State} {C n d : String} {A : Nat → Prop} (hl : (Cond.laysStatic C n d).before args s = true) (hini : (Cond.initialized C).before args s = true) (h : (Cond.isRef (.static C n d)).before args s = true) (hA : ∀ a : Nat, a < s.heap.size → ¬ A a) : vx_Zq C n d A s s.heap := by
  refine ⟨va_Zqof hl hini h hA, ?_⟩
  obtain ⟨c, k, i, f, a, cell, h1, h2, h3, h4, h5, h6, h7, h8, h9⟩ := Cond.laysStatic_spec hl
  exact ⟨c, k, i, f, a, cell, h1, h2, h3, h4, h5, h6, h7, h8, h9, hA a (Array.getElem?_eq_some_iff.mp h5).1⟩
theorem vx_isRef {C n d : String} {v : Value} {A : Nat → Prop} {s : State} {args : Array Value} (h : va_Z C n d v A s s.heap) (hv : v.isRef = true) : (Cond.isRef (.static C n d)).before args s = true := by
  obtain ⟨cf, kf, fi, f, a, cell, h1, h2, h3, h4, h5, h6, h7, -⟩ := h
  have he : (Term.static C n d).eval args s none [] s = some v := by
    simp [Term.eval, State.fieldNamed?, h1, h2, h4, h5, h6, h7]
  simp only [Cond.before, Cond.holds, Cond.value, he]
  cases v <;> simp_all [Value.isRef]
theorem vx_isRefq {C n d : String} {A : Nat → Prop} {s : State} {args : Array Value} (h : va_Zq C n d A s s.heap) : (Cond.isRef (.static C n d)).before args s = true := by
  rcases h with h | ⟨t, h⟩
  · exact vx_isRef h rfl
  · exact vx_isRef h rfl
/-- the same frame, seen from here: as if the method were called anew in this heap -/
theorem vx_rebase {T : State} (X : Stand p l e R s m args below meth c T locs cells slots) {R' : Room} (hf : R'.frames ≤ R.frames) (hl : R'.locals ≤ R.locals) (hc : cells + R'.cells ≤ R.cells) (hs : slots + R'.slots ≤ R.slots) :
    Stand p l e R' ((T.setVm s.vm).setFrames (.invoking m args :: below)) m args below meth c T [] 0 0 := by
  have htop : (T.setVm s.vm).topJava?.isSome := X.here.top
  have hF : ((T.setVm s.vm).setFrames (.invoking m args :: below)).frames = .invoking m args :: below := State.frames_setFrames _ (State.cur_lt_of_top htop)
  obtain ⟨g₀, hg0⟩ := Option.isSome_iff_exists.mp htop
  obtain ⟨r, hr⟩ := State.topJava?_eq_some.mp hg0
  have hl9 : e.platform.stackLimits (T.setVm s.vm).me = e.platform.stackLimits s.me := X.limits
  have hb9 : (T.setVm s.vm).me.stackBytes = s.me.stackBytes := X.bytes
  refine ⟨X.admits, X.cas, X.clock, hF, ?_, X.hears, X.method, X.code, X.here, X.tail, X.warmed, ?_, ?_, ?_⟩
  · have h := X.room
    have hU : ((T.setVm s.vm).setFrames (.invoking m args :: below)).localsInUse = s.localsInUse := by
      rw [State.localsInUse_invoking hF (meth := meth) (c := c) X.method X.code, State.localsInUse_invoking X.frames X.method X.code]
    simp only [State.hasRoom, Bool.and_eq_true, decide_eq_true_eq] at h ⊢
    obtain ⟨⟨⟨⟨h1, h2, h3, h4, h5, h6⟩, h7⟩, h8⟩, h9⟩ := h
    rw [X.frames, List.length_cons] at h2 h3
    have q1 := X.heapSize
    have q2 := X.used
    simp only [hF, hU, List.length_cons, State.stackLimits_setFrames, State.stackBytes_setFrames, hl9, hb9]
    refine ⟨⟨⟨⟨by omega, by omega, by omega, by omega, by omega, h6⟩, ?_⟩, ?_⟩, X.book⟩
    · show T.heap.size + R'.cells ≤ e.platform.maxCells
      omega
    · show T.slotsUsed + R'.slots ≤ e.platform.maxSlots
      omega
  · rw [State.stackLimits_setFrames]; rfl
  · rw [State.stackBytes_setFrames]; rfl
  · refine ⟨?_, Nat.le_refl _, Nat.le_refl _, ?_, ?_, fun a c9 h9 => ⟨c9, h9, rfl, rfl, fun _ _ => rfl⟩⟩
    · obtain ⟨t, ht, -⟩ := State.frames_cons hr
      show T.setVm s.vm = { ((T.setVm s.vm).setFrames (.invoking m args :: below)).setFrames (T.setVm s.vm).frames with heap := T.heap, slotsUsed := T.slotsUsed }
      rw [State.setFrames_setFrames, State.setFrames_self ht]
      rfl
    · show T.slotsUsed = T.slotsUsed + ((T.heap.toList.drop T.heap.size).map (·.slots.size)).sum
      rw [List.drop_eq_nil_of_le (Nat.le_of_eq Array.length_toList)]
      rfl
    · show ((T.heap.toList.drop T.heap.size).map (·.slots.size)).sum ≤ 0
      rw [List.drop_eq_nil_of_le (Nat.le_of_eq Array.length_toList)]
      exact Nat.le_refl _
/-- 'throw new E()': new; dup; invokespecial; athrow -/
theorem vx_throw0 {cc : ByteArray} {pc : Nat} (hexec : p.tables.exec = Jvm.exec) (hb : c.code = cc) (hl : l.stackTraces = false) {own cls : String} {names : List String} {ik ic mc ms : Nat} {A : Nat → Prop}
    (hown : s.vm.findClass own = some m.cls) (hcls : Bundle.fit cls = true) (hnames : ∀ n ∈ names, Bundle.fit n = true)
    (hk : (Cond.classLink own ik cls).before args s = true) (hini : (Cond.initialized cls).before args s = true) (hat : ∀ w ∈ vx_at0 own ic cls names, w.before args s = true)
    (hgood : ∀ w ∈ Cond.classLink own ik cls :: Cond.initialized cls :: vx_at0 own ic cls names, vx_ot w = true)
    (hU : vx_Zq Bundle.tN "UNASSIGNED_STACK" Bundle.steD A s s.heap) (hN : vx_Zq Bundle.tN "SUPPRESSED_SENTINEL" Bundle.listD A s s.heap) (hS : va_S A s.heap H locs) (hsize : ls.size = c.maxLocals)
    (d0 : decode cc pc = .ok (.new ik, 3)) (d3 : decode cc (pc + 3) = .ok (.dup, 1)) (d4 : decode cc (pc + 4) = .ok (.invokespecial ic, 3)) (d7 : decode cc (pc + 7) = .ok (.athrow, 1))
    (hout : ∀ x ∈ c.exceptionTable.toList, covers x (pc + 7) = false)
    (hRframes : names.length + 3 < R.frames) (hRlocals : (rest.map fun v => v.category).sum + (13 * (names.length + 1) + 42) ≤ R.locals) (hRcells : cells + 1 ≤ R.cells) (hRslots : slots + 6 ≤ R.slots) (hlocks : meth.locks = false)
    (hx : ∀ t : State, s.vm.Alike t.vm → H.size ≤ t.heap.size → (∀ q : Nat, q < H.size → t.heap[q]? = H[q]?) → XC cls s t)
    (hf : ∀ z ∈ locs, free z.base) (hc : cells + 1 ≤ mc) (hs : slots + 6 ≤ ms) :
    W p l e R s m args below meth c H locs cells slots (vx_MQ below Qc XC args s mc ms free) (F0 m pc ls rest) := by
  intro T hT X
  have htr : e.platform.stackTraces = false := (show e.platform.stackTraces = l.stackTraces by rw [X.admits.platform]).trans hl
  have Y := vx_rebase X (R' := { frames := R.frames, locals := R.locals, cells := 1, slots := 6 }) (Nat.le_refl _) (Nat.le_refl _) hRcells hRslots
  obtain ⟨s', hA⟩ : ∃ z, z = (T.setVm s.vm).setFrames (.invoking m args :: below) := ⟨_, rfl⟩
  rw [← hA] at Y
  have hvm : s'.vm = s.vm := by rw [hA]; rfl
  have hhp : s'.heap = H := by rw [hA]; exact hT
  have hW0 : s.WarmedH s'.vm := by rw [hvm]; exact State.WarmedH.refl s
  have hat' : ∀ w ∈ vx_at0 own ic cls names, w.before args s' = true := fun w hw => vx_ot_at hW0 hvm.symm (hgood w (List.mem_cons_of_mem _ (List.mem_cons_of_mem _ hw))) (hat w hw)
  have hk' : (Cond.classLink own ik cls).before args s' = true := vx_ot_at hW0 hvm.symm (hgood _ List.mem_cons_self) hk
  have hini' : (Cond.initialized cls).before args s' = true := vx_ot_at hW0 hvm.symm (hgood _ (List.mem_cons_of_mem _ List.mem_cons_self)) hini
  have hU' : vx_Zq Bundle.tN "UNASSIGNED_STACK" Bundle.steD A s' s'.heap := by rw [hhp]; exact vx_Zq.moved hW0.alike (hU.kept hS.2.1)
  have hN' : vx_Zq Bundle.tN "SUPPRESSED_SENTINEL" Bundle.listD A s' s'.heap := by rw [hhp]; exact vx_Zq.moved hW0.alike (hN.kept hS.2.1)
  have h : ∀ w ∈ Bundle.ownAtoms0 own ic cls names, w.before args s' = true := vx_own hat' (vx_isRefq hU'.1) (vx_isRefq hN'.1) hU'.2.word hN'.2.word
  have hown' : s'.vm.findClass own = some m.cls := by rw [hvm]; exact hown
  have hins : (Cond.instantiable cls 6).before args s' = true := h _ (by simp [Bundle.ownAtoms0])
  obtain ⟨vm₁, cX, kX, hfX, hkX, -, -, X₁, st1⟩ := Y.newCold hexec (own := own) (C := cls) (index := ik) (n := 6) hown' hk' hins hini'
    (g := F0 m pc ls rest) rfl (by rw [hb]; exact d0) (Nat.le_refl _) (Nat.le_refl _)
  generalize hT1 : (T.setVm vm₁).pushCell { cls := cX, slots := kX.instanceTypes.map defaultValue, vm := .none } = T1 at X₁ st1
  have hcat : (Value.ref T.heap.size).category = 1 := rfl
  have hcellA : T1.heap[T.heap.size]? = some (freshCell cX kX) := by rw [← hT1]; exact State.heap_pushCell_size _ _
  have d3' : decode c.code (pc + 3) = .ok (.dup, 1) := by rw [hb]; exact d3
  obtain ⟨U, hsteps, hrun, hend, hW, hsame, ce, hce, hO⟩ := X₁.ctorThrow0 hexec htr (own := own) (cls := cls) (names := names) (ic := ic) hown' hcls hnames h (fun x hx => nomatch hx) hfX hkX hcellA (by rw [hhp, hT]; exact Nat.le_refl _)
    (g := { method := m, pc := pc + 4, locals := ls, stack := .ref T.heap.size :: .ref T.heap.size :: rest, locked := none }) rfl hsize rfl rfl (rest := rest) rfl
    (by rw [hb]; exact d4) (by rw [hb]; exact d7) hout hRframes (by simp only [List.map_cons, List.sum_cons, hcat]; omega) hlocks
  obtain ⟨f1, f2⟩ := vx_frame hsame
  rw [hhp] at f1 f2
  have hWs : s.WarmedH U.vm := State.WarmedH.trans hW0 hW
  have hcl : s.vm.findClass cls = some ce.cls := by
    have h9 := hO.cls
    rw [hvm] at h9
    exact h9
  have hall : s.sameButNew ({ U with vm := s.vm } : State) locs mc ms := by
    subst hA
    obtain ⟨e1, e2⟩ := hsame
    rw [State.setFrames_setFrames] at e1
    have h2 : (T.setVm s.vm).sameButNew ({ U with vm := s.vm } : State) [] (0 + 1) (0 + 6) := ⟨e1, e2⟩
    have h3 := X.same.trans h2
    rw [List.append_nil] at h3
    exact h3.mono hc hs
  refine ⟨U, ?_, .threw T.heap.size, hrun, hend, Or.inr ⟨T.heap.size, rfl, cls, ce, locs, hx U hWs.alike f1 (fun q hq => f2 q hq (fun z hz => nomatch hz)), hce, hO.vm, hcl, hWs, hall, hf⟩⟩
  refine st1 _ ?_
  show Steps p.tables e below (T1.setTop { method := m, pc := pc + 3, locals := ls, stack := .ref T.heap.size :: rest, locked := none }) _
  jvm_step X₁.here [X₁.here.top, hexec, d3', Value.category]
  exact hsteps
/-- 'throw new E("text")': new; dup; ldc; invokespecial; athrow -/
theorem vx_throwS {cc : ByteArray} {pc : Nat} (hexec : p.tables.exec = Jvm.exec) (hb : c.code = cc) (hl : l.stackTraces = false) {own cls text : String} {names : List String} {ik is ic mc ms sa : Nat} {A : Nat → Prop}
    (hown : s.vm.findClass own = some m.cls) (hcls : Bundle.fit cls = true) (hnames : ∀ n ∈ names, Bundle.fit n = true)
    (hk : (Cond.classLink own ik cls).before args s = true) (hini : (Cond.initialized cls).before args s = true) (hstr : vk_R own is text sa s) (hat : ∀ w ∈ vx_atS own ic cls names, w.before args s = true)
    (hgood : ∀ w ∈ Cond.classLink own ik cls :: Cond.initialized cls :: vx_atS own ic cls names, vx_ot w = true)
    (hU : vx_Zq Bundle.tN "UNASSIGNED_STACK" Bundle.steD A s s.heap) (hN : vx_Zq Bundle.tN "SUPPRESSED_SENTINEL" Bundle.listD A s s.heap) (hS : va_S A s.heap H locs) (hsize : ls.size = c.maxLocals)
    (d0 : decode cc pc = .ok (.new ik, 3)) (d3 : decode cc (pc + 3) = .ok (.dup, 1)) (d4 : decode cc (pc + 4) = .ok (.ldc is, 2)) (d6 : decode cc (pc + 6) = .ok (.invokespecial ic, 3)) (d9 : decode cc (pc + 9) = .ok (.athrow, 1))
    (hout : ∀ x ∈ c.exceptionTable.toList, covers x (pc + 9) = false)
    (hRframes : names.length + 3 < R.frames) (hRlocals : (rest.map fun v => v.category).sum + (13 * (names.length + 1) + 43) ≤ R.locals) (hRcells : cells + 1 ≤ R.cells) (hRslots : slots + 6 ≤ R.slots) (hlocks : meth.locks = false)
    (hx : ∀ t : State, s.vm.Alike t.vm → H.size ≤ t.heap.size → (∀ q : Nat, q < H.size → t.heap[q]? = H[q]?) → XC cls s t)
    (hf : ∀ z ∈ locs, free z.base) (hc : cells + 1 ≤ mc) (hs : slots + 6 ≤ ms) :
    W p l e R s m args below meth c H locs cells slots (vx_MQ below Qc XC args s mc ms free) (F0 m pc ls rest) := by
  intro T hT X
  have htr : e.platform.stackTraces = false := (show e.platform.stackTraces = l.stackTraces by rw [X.admits.platform]).trans hl
  have Y := vx_rebase X (R' := { frames := R.frames, locals := R.locals, cells := 1, slots := 6 }) (Nat.le_refl _) (Nat.le_refl _) hRcells hRslots
  obtain ⟨s', hA⟩ : ∃ z, z = (T.setVm s.vm).setFrames (.invoking m args :: below) := ⟨_, rfl⟩
  rw [← hA] at Y
  have hvm : s'.vm = s.vm := by rw [hA]; rfl
  have hhp : s'.heap = H := by rw [hA]; exact hT
  have hW0 : s.WarmedH s'.vm := by rw [hvm]; exact State.WarmedH.refl s
  have hat' : ∀ w ∈ vx_atS own ic cls names, w.before args s' = true := fun w hw => vx_ot_at hW0 hvm.symm (hgood w (List.mem_cons_of_mem _ (List.mem_cons_of_mem _ hw))) (hat w hw)
  have hk' : (Cond.classLink own ik cls).before args s' = true := vx_ot_at hW0 hvm.symm (hgood _ List.mem_cons_self) hk
  have hini' : (Cond.initialized cls).before args s' = true := vx_ot_at hW0 hvm.symm (hgood _ (List.mem_cons_of_mem _ List.mem_cons_self)) hini
  have hU' : vx_Zq Bundle.tN "UNASSIGNED_STACK" Bundle.steD A s' s'.heap := by rw [hhp]; exact vx_Zq.moved hW0.alike (hU.kept hS.2.1)
  have hN' : vx_Zq Bundle.tN "SUPPRESSED_SENTINEL" Bundle.listD A s' s'.heap := by rw [hhp]; exact vx_Zq.moved hW0.alike (hN.kept hS.2.1)
  have h : ∀ w ∈ Bundle.ownAtoms own ic cls names, w.before args s' = true := vx_own hat' (vx_isRefq hU'.1) (vx_isRefq hN'.1) hU'.2.word hN'.2.word
  have hown' : s'.vm.findClass own = some m.cls := by rw [hvm]; exact hown
  have hins : (Cond.instantiable cls 6).before args s' = true := h _ (by simp [Bundle.ownAtoms])
  obtain ⟨vm₁, cX, kX, hfX, hkX, -, -, X₁, st1⟩ := Y.newCold hexec (own := own) (C := cls) (index := ik) (n := 6) hown' hk' hins hini'
    (g := F0 m pc ls rest) rfl (by rw [hb]; exact d0) (Nat.le_refl _) (Nat.le_refl _)
  generalize hT1 : (T.setVm vm₁).pushCell { cls := cX, slots := kX.instanceTypes.map defaultValue, vm := .none } = T1 at X₁ st1
  have hcat : (Value.ref T.heap.size).category = 1 := rfl
  have hcellA : T1.heap[T.heap.size]? = some (freshCell cX kX) := by rw [← hT1]; exact State.heap_pushCell_size _ _
  have d3' : decode c.code (pc + 3) = .ok (.dup, 1) := by rw [hb]; exact d3
  have d4' : decode c.code (pc + 4) = .ok (.ldc is, 2) := by rw [hb]; exact d4
  have hstr' : vk_R own is text sa s' := vk_R.warm hW0 hstr
  obtain ⟨U, hsteps, hrun, hend, hW, hsame, ce, hce, hO⟩ := X₁.ctorThrowS hexec htr (own := own) (cls := cls) (names := names) (ic := ic) hown' hcls hnames h (fun x hx => nomatch hx) hfX hkX hcellA (by rw [hhp, hT]; exact Nat.le_refl _) (msg := .ref sa) rfl
    (g := { method := m, pc := pc + 6, locals := ls, stack := .ref sa :: .ref T.heap.size :: .ref T.heap.size :: rest, locked := none }) rfl hsize rfl rfl (rest := rest) rfl
    (by rw [hb]; exact d6) (by rw [hb]; exact d9) hout hRframes (by simp only [List.map_cons, List.sum_cons, hcat]; omega) hlocks
  obtain ⟨f1, f2⟩ := vx_frame hsame
  rw [hhp] at f1 f2
  have hWs : s.WarmedH U.vm := State.WarmedH.trans hW0 hW
  have hcl : s.vm.findClass cls = some ce.cls := by
    have h9 := hO.cls
    rw [hvm] at h9
    exact h9
  have hall : s.sameButNew ({ U with vm := s.vm } : State) locs mc ms := by
    subst hA
    obtain ⟨e1, e2⟩ := hsame
    rw [State.setFrames_setFrames] at e1
    have h2 : (T.setVm s.vm).sameButNew ({ U with vm := s.vm } : State) [] (0 + 1) (0 + 6) := ⟨e1, e2⟩
    have h3 := X.same.trans h2
    rw [List.append_nil] at h3
    exact h3.mono hc hs
  refine ⟨U, ?_, .threw T.heap.size, hrun, hend, Or.inr ⟨T.heap.size, rfl, cls, ce, locs, hx U hWs.alike f1 (fun q hq => f2 q hq (fun z hz => nomatch hz)), hce, hO.vm, hcl, hWs, hall, hf⟩⟩
  refine st1 _ ?_
  show Steps p.tables e below (T1.setTop { method := m, pc := pc + 3, locals := ls, stack := .ref T.heap.size :: rest, locked := none }) _
  jvm_step X₁.here [X₁.here.top, hexec, d3', Value.category]
  exact X₁.ldcString hexec (own := own) (text := text) (index := is) (a := sa) hown' hstr'.1 hstr'.2
    (g := { method := m, pc := pc + 4, locals := ls, stack := .ref T.heap.size :: .ref T.heap.size :: rest, locked := none }) rfl d4' _ hsteps
/-- 'throw new E("text")', the text by a wide index -/
theorem vx_throwSW {cc : ByteArray} {pc : Nat} (hexec : p.tables.exec = Jvm.exec) (hb : c.code = cc) (hl : l.stackTraces = false) {own cls text : String} {names : List String} {ik is ic mc ms sa : Nat} {A : Nat → Prop}
    (hown : s.vm.findClass own = some m.cls) (hcls : Bundle.fit cls = true) (hnames : ∀ n ∈ names, Bundle.fit n = true)
    (hk : (Cond.classLink own ik cls).before args s = true) (hini : (Cond.initialized cls).before args s = true) (hstr : vk_R own is text sa s) (hat : ∀ w ∈ vx_atS own ic cls names, w.before args s = true)
    (hgood : ∀ w ∈ Cond.classLink own ik cls :: Cond.initialized cls :: vx_atS own ic cls names, vx_ot w = true)
    (hU : vx_Zq Bundle.tN "UNASSIGNED_STACK" Bundle.steD A s s.heap) (hN : vx_Zq Bundle.tN "SUPPRESSED_SENTINEL" Bundle.listD A s s.heap) (hS : va_S A s.heap H locs) (hsize : ls.size = c.maxLocals)
    (d0 : decode cc pc = .ok (.new ik, 3)) (d3 : decode cc (pc + 3) = .ok (.dup, 1)) (d4 : decode cc (pc + 4) = .ok (.ldc_w is, 3)) (d7 : decode cc (pc + 7) = .ok (.invokespecial ic, 3)) (d10 : decode cc (pc + 10) = .ok (.athrow, 1))
    (hout : ∀ x ∈ c.exceptionTable.toList, covers x (pc + 10) = false)
    (hRframes : names.length + 3 < R.frames) (hRlocals : (rest.map fun v => v.category).sum + (13 * (names.length + 1) + 43) ≤ R.locals) (hRcells : cells + 1 ≤ R.cells) (hRslots : slots + 6 ≤ R.slots) (hlocks : meth.locks = false)
    (hx : ∀ t : State, s.vm.Alike t.vm → H.size ≤ t.heap.size → (∀ q : Nat, q < H.size → t.heap[q]? = H[q]?) → XC cls s t)
    (hf : ∀ z ∈ locs, free z.base) (hc : cells + 1 ≤ mc) (hs : slots + 6 ≤ ms) :
    W p l e R s m args below meth c H locs cells slots (vx_MQ below Qc XC args s mc ms free) (F0 m pc ls rest) := by
  intro T hT X
  have htr : e.platform.stackTraces = false := (show e.platform.stackTraces = l.stackTraces by rw [X.admits.platform]).trans hl
  have Y := vx_rebase X (R' := { frames := R.frames, locals := R.locals, cells := 1, slots := 6 }) (Nat.le_refl _) (Nat.le_refl _) hRcells hRslots
  obtain ⟨s', hA⟩ : ∃ z, z = (T.setVm s.vm).setFrames (.invoking m args :: below) := ⟨_, rfl⟩
  rw [← hA] at Y
  have hvm : s'.vm = s.vm := by rw [hA]; rfl
  have hhp : s'.heap = H := by rw [hA]; exact hT
  have hW0 : s.WarmedH s'.vm := by rw [hvm]; exact State.WarmedH.refl s
  have hat' : ∀ w ∈ vx_atS own ic cls names, w.before args s' = true := fun w hw => vx_ot_at hW0 hvm.symm (hgood w (List.mem_cons_of_mem _ (List.mem_cons_of_mem _ hw))) (hat w hw)
  have hk' : (Cond.classLink own ik cls).before args s' = true := vx_ot_at hW0 hvm.symm (hgood _ List.mem_cons_self) hk
  have hini' : (Cond.initialized cls).before args s' = true := vx_ot_at hW0 hvm.symm (hgood _ (List.mem_cons_of_mem _ List.mem_cons_self)) hini
  have hU' : vx_Zq Bundle.tN "UNASSIGNED_STACK" Bundle.steD A s' s'.heap := by rw [hhp]; exact vx_Zq.moved hW0.alike (hU.kept hS.2.1)
  have hN' : vx_Zq Bundle.tN "SUPPRESSED_SENTINEL" Bundle.listD A s' s'.heap := by rw [hhp]; exact vx_Zq.moved hW0.alike (hN.kept hS.2.1)
  have h : ∀ w ∈ Bundle.ownAtoms own ic cls names, w.before args s' = true := vx_own hat' (vx_isRefq hU'.1) (vx_isRefq hN'.1) hU'.2.word hN'.2.word
  have hown' : s'.vm.findClass own = some m.cls := by rw [hvm]; exact hown
  have hins : (Cond.instantiable cls 6).before args s' = true := h _ (by simp [Bundle.ownAtoms])
  obtain ⟨vm₁, cX, kX, hfX, hkX, -, -, X₁, st1⟩ := Y.newCold hexec (own := own) (C := cls) (index := ik) (n := 6) hown' hk' hins hini'
    (g := F0 m pc ls rest) rfl (by rw [hb]; exact d0) (Nat.le_refl _) (Nat.le_refl _)
  generalize hT1 : (T.setVm vm₁).pushCell { cls := cX, slots := kX.instanceTypes.map defaultValue, vm := .none } = T1 at X₁ st1
  have hcat : (Value.ref T.heap.size).category = 1 := rfl
  have hcellA : T1.heap[T.heap.size]? = some (freshCell cX kX) := by rw [← hT1]; exact State.heap_pushCell_size _ _
  have d3' : decode c.code (pc + 3) = .ok (.dup, 1) := by rw [hb]; exact d3
  have d4' : decode c.code (pc + 4) = .ok (.ldc_w is, 3) := by rw [hb]; exact d4
  have hstr' : vk_R own is text sa s' := vk_R.warm hW0 hstr
  obtain ⟨U, hsteps, hrun, hend, hW, hsame, ce, hce, hO⟩ := X₁.ctorThrowS hexec htr (own := own) (cls := cls) (names := names) (ic := ic) hown' hcls hnames h (fun x hx => nomatch hx) hfX hkX hcellA (by rw [hhp, hT]; exact Nat.le_refl _) (msg := .ref sa) rfl
    (g := { method := m, pc := pc + 7, locals := ls, stack := .ref sa :: .ref T.heap.size :: .ref T.heap.size :: rest, locked := none }) rfl hsize rfl rfl (rest := rest) rfl
    (by rw [hb]; exact d7) (by rw [hb]; exact d10) hout hRframes (by simp only [List.map_cons, List.sum_cons, hcat]; omega) hlocks
  obtain ⟨f1, f2⟩ := vx_frame hsame
  rw [hhp] at f1 f2
  have hWs : s.WarmedH U.vm := State.WarmedH.trans hW0 hW
  have hcl : s.vm.findClass cls = some ce.cls := by
    have h9 := hO.cls
    rw [hvm] at h9
    exact h9
  have hall : s.sameButNew ({ U with vm := s.vm } : State) locs mc ms := by
    subst hA
    obtain ⟨e1, e2⟩ := hsame
    rw [State.setFrames_setFrames] at e1
    have h2 : (T.setVm s.vm).sameButNew ({ U with vm := s.vm } : State) [] (0 + 1) (0 + 6) := ⟨e1, e2⟩
    have h3 := X.same.trans h2
    rw [List.append_nil] at h3
    exact h3.mono hc hs
  refine ⟨U, ?_, .threw T.heap.size, hrun, hend, Or.inr ⟨T.heap.size, rfl, cls, ce, locs, hx U hWs.alike f1 (fun q hq => f2 q hq (fun z hz => nomatch hz)), hce, hO.vm, hcl, hWs, hall, hf⟩⟩
  refine st1 _ ?_
  show Steps p.tables e below (T1.setTop { method := m, pc := pc + 3, locals := ls, stack := .ref T.heap.size :: rest, locked := none }) _
  jvm_step X₁.here [X₁.here.top, hexec, d3', Value.category]
  exact X₁.ldcStringW hexec (own := own) (text := text) (index := is) (a := sa) hown' hstr'.1 hstr'.2
    (g := { method := m, pc := pc + 4, locals := ls, stack := .ref T.heap.size :: .ref T.heap.size :: rest, locked := none }) rfl d4' _ hsteps
end Ends
section Bodies
variable {l : Launch}
theorem vx_ofW {y : MethodName} {ws ws' : List Cond} {rm : Room} {Pc : Array Value → State → Prop} {Qc : Array Value → State → Outcome → State → Prop} {XC : String → State → State → Prop} {mc ms : Nat} {free : Addr → Prop} {cc : ByteArray} {maxL : Nat} {ret : Option FieldType}
    (hy : plainName y.cls = true) (hw : ws = Cond.code y cc maxL ret :: ws')
    (body : ∀ p e s m args below meth c s₁, BodyLoose p l y (headSpec ws rm) cc maxL ret e s m args below meth c s₁ → c.maxLocals = maxL → (∀ x ∈ c.exceptionTable.toList, False) → Pc args s →
      W p l e (headSpec ws rm).room s m args below meth c s.heap [] 0 0 (vx_MQ below Qc XC args s mc ms free) (entryFrame m args maxL)) : vx_Met l y ws rm Pc Qc XC mc ms free := by
  refine MetFree.of_bodyS (code := cc) (maxLocals := maxL) (ret := ret) hy ?_ ?_
  · intro args s m h hn
    obtain ⟨meth, c, h1, h2, h3, h4, h5, h6, -, -⟩ := Cond.code_spec hn (atoms_spec (ws := ws) h _ (by rw [hw]; exact List.mem_cons_self))
    exact ⟨meth, c, h1, h2, h3, h4, h5, h6⟩
  · intro p e s m args below meth c s₁ B hml hP _
    have hh0 : s₁.heap = s.heap := by rw [B.state]; rfl
    have ht : ∀ x ∈ c.exceptionTable.toList, False := by
      obtain ⟨meth9, c9, h1, h2, -, -, -, -, h7, -⟩ := Cond.code_spec B.named (atoms_spec (ws := ws) B.pre _ (by rw [hw]; exact List.mem_cons_self))
      cases Option.some.inj (h1.symm.trans B.method)
      cases Option.some.inj (h2.symm.trans (Stand.of_body B).code)
      intro x hx
      rw [Array.isEmpty_iff.mp h7] at hx
      cases hx
    obtain ⟨t, a1, o, b1, b2, b3⟩ := body p e s m args below meth c s₁ B hml ht hP s₁ hh0 (Stand.of_body B)
    exact ⟨t, o, a1, b1, b2, b3⟩
/-- the table of a body with handlers -/
theorem vx_table {p : Program} {x y : MethodName} {S : Spec} {cc bytes : ByteArray} {maxL maxL' : Nat} {ret ret' : Option FieldType} {e : Env} {s s₁ : State} {m : MethodId} {args : Array Value} {below : List Frame} {meth : Method} {c : Code} {hh : List (Nat × Nat × Nat × Nat)}
    (B : BodyLoose p l y S cc maxL ret e s m args below meth c s₁) (h : (Cond.codeWith y bytes maxL' ret' hh).before args s = true) : c.exceptionTable.toList = tableOf hh := by
  obtain ⟨m9, meth9, c9, hn9, h1, h2, -, -, h6, -⟩ := Cond.codeWith_spec h
  cases Option.some.inj (hn9.symm.trans B.named)
  cases Option.some.inj (h1.symm.trans B.method)
  cases Option.some.inj (h2.symm.trans (Stand.of_body B).code)
  rw [← h6, table_eq]
end Bodies
end VXA
/-! ===== END ===== -/
/-! ===== BEGIN a static call of a method with an exception table ===== -/
section VXS
variable {p : Program} {l : Launch} {e : Env} {R : Room} {s : State} {m : MethodId} {args : Array Value} {below : List Frame} {meth : Method} {c : Code} {T : State} {H : Heap} {locs : List Loc} {cells slots : Nat}
abbrev vx_CSW (R : Room) (s : State) (args : Array Value) (own : String) (index : Nat) (y : MethodName) (bytes : ByteArray) (maxL : Nat) (ret : Option FieldType) (hh : List (Nat × Nat × Nat × Nat)) (ws : List Cond) (rm : Room) (mc ms n : Nat) : Prop :=
  (rm.cells = mc ∧ rm.slots = ms ∧ rm.frames + 1 ≤ R.frames ∧ 8 + (maxL + 11) + rm.locals ≤ R.locals ∧ (∀ w ∈ ws, ∀ (a' : Array Value) (U : State), s.WarmedH U.vm → w.before a' U = true) ∧ Cond.codeWith y bytes maxL ret hh ∈ ws) ∧
  (Cond.codeWith y bytes maxL ret hh).before args s = true ∧ (Cond.initialized y.cls).before args s = true ∧ (y.cls ≠ "java/lang/invoke/MethodHandle" ∧ y.cls ≠ "java/lang/invoke/VarHandle") ∧
  (∀ sig, parseMethodDescriptor y.desc = some sig → n = sig.parameters.length) ∧ (Cond.methodLink own index y).before args s = true ∧ (Cond.static y).before args s = true
theorem vx_cwSW {own : String} {index maxL mc ms : Nat} {y : MethodName} {bytes : ByteArray} {ret : Option FieldType} {hh : List (Nat × Nat × Nat × Nat)} {Ts ws ws' : List Cond} {rm : Room} (n : Nat) (ht : ∀ w ∈ Ts, w.before args s = true) (hT : GoodIn Ts (va_wsS own index y ws)) (hw : ws = Cond.codeWith y bytes maxL ret hh :: ws') (hrc : rm.cells = mc) (hrs : rm.slots = ms)
    (hd : y.cls ≠ "java/lang/invoke/MethodHandle" ∧ y.cls ≠ "java/lang/invoke/VarHandle" ∧ (parseMethodDescriptor y.desc).map (fun d => d.parameters.length) = some n) (hR : rm.frames + 1 ≤ R.frames ∧ 8 + (maxL + 11) + rm.locals ≤ R.locals) :
    vx_CSW R s args own index y bytes maxL ret hh ws rm mc ms n := by
  have ok : ∀ w ∈ va_wsS own index y ws, w.before args s = true := fun w h => ht w (hT w h).1
  have hG : GoodIn Ts ws := fun w h => hT w (by unfold va_wsS; exact List.mem_append_right _ h)
  have hc : Cond.codeWith y bytes maxL ret hh ∈ ws := by rw [hw]; exact List.mem_cons_self
  refine ⟨⟨hrc, hrs, hR.1, hR.2, pay_in ht hG, hc⟩, ht _ (hG _ hc).1, ok _ (by simp [va_wsS]), ⟨hd.1, hd.2.1⟩, fun sig h => ?_, ok _ (by simp [va_wsS]), ok _ (by simp [va_wsS])⟩
  have h2 := hd.2.2
  rw [h] at h2
  exact (Option.some.inj h2).symm
theorem vx_callSW (X : Stand p l e R s m args below meth c T locs cells slots) (hexec : p.tables.exec = Jvm.exec) {own : String} {index : Nat} {y : MethodName} {bytes : ByteArray} {maxL : Nat} {ret : Option FieldType} {hh : List (Nat × Nat × Nat × Nat)}
    (hown : s.vm.findClass own = some m.cls) (hlink : (Cond.methodLink own index y).before args s = true) (hstat : (Cond.static y).before args s = true) (hinit : (Cond.initialized y.cls).before args s = true)
    (hcode : (Cond.codeWith y bytes maxL ret hh).before args s = true) (hy : y.cls ≠ "java/lang/invoke/MethodHandle" ∧ y.cls ≠ "java/lang/invoke/VarHandle")
    {W9 : Nat} {Pre : Pt → Array Value → Prop} {Post : Pt → Array Value → Option Value → Pt → Prop} (hK : Back l R p e below s args y 3 W9 Pre Post)
    {g : JFrame} (hg : g.method = m) (hsize : g.locals.size = c.maxLocals) {argsL rest : List Value} (hlen : ∀ sig, parseMethodDescriptor y.desc = some sig → argsL.length = sig.parameters.length)
    (hstack : g.stack = argsL.reverse ++ rest) (hW : 2 * g.monitorRoom + (rest.map fun v => v.category).sum ≤ W9) (hdg : decode c.code g.pc = .ok (.invokestatic index, 3))
    (hpre : ∀ vm₁, s.WarmedH vm₁ → Pre ⟨T.setVm vm₁, locs, cells, slots⟩ argsL.toArray) :
    ∃ (v : Option Value) (vm₁ : Vm) (B : Pt), s.WarmedH vm₁ ∧ Stand p l e R s m args below meth c B.U B.locs B.cells B.slots ∧ Post ⟨T.setVm vm₁, locs, cells, slots⟩ argsL.toArray v B ∧
      ∀ target, Steps p.tables e below (B.U.setTop { g with pc := g.pc + 3, stack := v.toList ++ rest }) target → Steps p.tables e below (T.setTop g) target := by
  obtain ⟨mk, methM, cM, hnamed, hmethM, -, -, -, -, -, -, hsigM⟩ := Cond.codeWith_spec hcode
  have hstatic : methM.isStatic = true := Cond.static_spec hnamed hmethM hstat
  obtain ⟨kP, hkP, -⟩ := className_of_methodNamed hnamed
  have hinitP : kP.init = .initialized := Cond.initialized_spec (findClass_of_methodNamed hnamed) hkP hinit
  obtain ⟨vm₁, X₁, hstep₁⟩ := X.invokestatic hexec hown hlink hnamed hmethM hstatic hkP hinitP hy (g := g) hg (argsL := argsL) (rest := rest) (hlen _ hsigM) hstack hdg
  obtain ⟨v, B, X', hpost, hsteps⟩ := hK m meth c ⟨T.setVm vm₁, locs, cells, slots⟩ { g with stack := rest } (.invokestatic index) mk argsL.toArray X₁ hg hsize hdg hW (X₁.named hnamed) (hpre vm₁ X₁.warmed)
  exact ⟨v, vm₁, B, X₁.warmed, X', hpost, fun target h => hstep₁ _ fun acts => by rw [doInvoke_state]; exact hsteps.trans h⟩
theorem vx_runSW {y : MethodName} {bytes cc : ByteArray} {maxL nL mc ms n index : Nat} {ret : Option FieldType} {hh : List (Nat × Nat × Nat × Nat)} {ws : List Cond} {rm : Room} {Pc : Array Value → State → Prop} {Qc : Array Value → State → Outcome → State → Prop} {free : Addr → Prop} {Ts : List Cond} {own : String} {As rest : List Value} {g : JFrame}
    (S : CallFix p m c cc nL s args Ts own) (hM : Met l y ws rm Pc Qc mc ms free) (cw : vx_CSW R s args own index y bytes maxL ret hh ws rm mc ms n) (hp : PreS s H Pc As)
    (hg : g.method = m) (hn : As.length = n) (hsize : g.locals.size = nL) (hstack : g.stack = As.reverse ++ rest) (hW : 2 * g.monitorRoom + (rest.map fun v => v.category).sum ≤ 8) (hdg : decode cc g.pc = .ok (.invokestatic index, 3)) (hf : cells + mc ≤ R.cells ∧ slots + ms ≤ R.slots) :
    va_Run p l e R s m args below meth c H locs cells slots mc ms g rest (Qc As.toArray) (free) := by
  obtain ⟨⟨hrc, hrs, hfr, hlo, hws, hcw⟩, hcode, hini, hy, hlen, hl, hstt⟩ := cw
  have hK : Back l R p e below s args y 3 8 (PreOf R mc ms Pc) (PostOf Qc mc ms free) := va_backW (hh := hh) (bytes := bytes) (maxL := maxL) (ret := ret) hM hp.1 hrc hrs hfr hlo hws hcw (fun a' U hW => word_at hW (Or.inl (by first | rfl | simp [Cond.onTables, Cond.keeps, Cond.steady])) hini)
  obtain ⟨hx, hb, hml, ho, -⟩ := S
  intro T hT X
  obtain ⟨v, vm₁, ⟨U', l2, c2, s2⟩, hW₁, X', ⟨g', mk, t, L, e1, e2, hq, h1, hL, h2, h3⟩, st⟩ := vx_callSW X hx (hh := hh) (bytes := bytes) (maxL := maxL) (ret := ret) ho hl hstt hini hcode hy hK hg (hsize.trans hml.symm) (argsL := As) (rest := rest) (fun sig h => hn.trans (hlen sig h)) hstack hW (by rw [hb]; exact hdg)
    (fun vm₁ hW₁ => ⟨hf.1, hf.2, hp.2 (T.setVm vm₁) hT hW₁⟩)
  dsimp only [Pt.U, Pt.locs, Pt.cells, Pt.slots] at X' e1 e2 h1 h2 h3 st
  subst h1; subst h2; subst h3
  exact ⟨v, (T.setVm vm₁).calling g' mk As.toArray, t, U', L, hT, X', hL, e1, e2, hq, st⟩
/-- not caught here, past rows that name other classes: it goes on to the caller -/
theorem vx_outP {p : Program} {l : Launch} {e : Env} {R : Room} {s : State} {m : MethodId} {args : Array Value} {below : List Frame} {meth : Method} {c : Code} {H : Heap} {locs : List Loc} {cells slots : Nat} {free : Addr → Prop} {ls : Array Slot} {rest : List Value} {Qc : Array Value → State → Outcome → State → Prop} {XC : String → State → State → Prop}
    {pc : Nat} {own E : String} {ce : Cell} {q : Addr} {mc ms : Nat} (hown : s.vm.findClass own = some m.cls) (hlocks : meth.locks = false)
    (hpass : ∀ z ∈ c.exceptionTable.toList, covers z pc = false ∨ (z.catchType ≠ 0 ∧ ∃ nm : String, (Cond.classLink own z.catchType nm).before args s = true ∧ va_Nc E nm s)) (hcell : H[q]? = some ce) (hv : ce.vm = .none) (hcl : s.vm.findClass E = some ce.cls)
    (hx : ∀ t : State, t.heap = H → s.vm.Alike t.vm → XC E s t) (hf : ∀ z ∈ locs, free z.base) (hc : cells ≤ mc) (hs : slots ≤ ms) :
    vx_W p l e R s m args below meth c H locs cells slots (vx_MQ below Qc XC args s mc ms free) (F0 m pc ls rest) q := by
  intro T hT X
  have hpl : e.platform.magicAccessors = ({} : Platform).magicAccessors := by rw [X.admits.platform]
  obtain ⟨vm', hW', X', st⟩ := X.outThrough hlocks q (g := F0 m pc ls rest) rfl rfl rfl (cell := ce) (by rw [hT]; exact hcell) (by rw [hv]; rfl)
    (by obtain ⟨k9, h9, -⟩ := Vm.findClass_spec hcl; exact ⟨k9, h9⟩) (fun z hz => by
      rcases hpass z hz with h | ⟨hz0, nm, hl1, hn1⟩
      · exact Or.inl h
      · obtain ⟨c6, hc6, hcl6⟩ := Cond.classLink_spec hown hl1 e.platform hpl
        obtain ⟨a8, b8, h1, h2, h3⟩ := hn1
        cases Option.some.inj (h1.symm.trans hcl)
        cases Option.some.inj (h2.symm.trans hc6)
        exact Or.inr ⟨hz0, _, hcl6, h3⟩)
  obtain ⟨g₀, hfr⟩ := X'.frames_eq
  have hcell9 : ((T.setVm vm').setFrames (.throwing q :: below)).heap[q]? = some ce := by
    show T.heap[q]? = some ce
    rw [hT]; exact hcell
  have hend : Ended ((T.setVm vm').setFrames (.throwing q :: below)) below (.threw q) := State.frames_setFrames _ (State.cur_lt_of_frames hfr)
  refine ⟨(T.setVm vm').setFrames (.throwing q :: below), ?_, .threw q, X'.here.running, hend, Or.inr ⟨q, rfl, E, ce, locs, hx _ hT (X'.ends _).1.alike, hcell9, hv, hcl, (X'.ends _).1, (X'.ends _).2.mono hc hs, hf⟩⟩
  rw [X.pushThrowing_eq]
  exact st
/-- a thing of a world lies in the heap -/
theorem vx_lt {D : va_G} {cl : List vw_C} {ws : va_W} {H1 : Heap} (h : va_P D cl ws H1) {k : Nat} {q : Nat × va_E} (hk : ws[k]? = some q) : q.1 < H1.size := (h k q hk).lt
end VXS
/-! ===== END ===== -/
/-! ===== BEGIN methods with a table of their own: called by a name, returning or throwing ===== -/
section VXH
/-! vx_backW, vx_callVX, vx_callSX, vx_callVW, vx_runVW, vx_runVX, vx_runSX, vx_ofWH follow the same proofs as their sisters above (Free/Laws.lean, Shelf42/LK1.lean); vx_outP calls Shelf42/NT130.lean (outThrough). -/
section
variable {l : Launch} {R : Room} {p : Program} {e : Env} {below : List Frame} {s : State} {sargs : Array Value} {y : MethodName} {len W9 : Nat}
theorem vx_backW {ws : List Cond} {rm : Room} {Pc : Array Value → State → Prop} {Qc : Array Value → State → Outcome → State → Prop} {XC : String → State → State → Prop} {mc ms : Nat} {free : Addr → Prop} {bytes : ByteArray} {maxL : Nat} {ret : Option FieldType} {hh : List (Nat × Nat × Nat × Nat)}
    (hM : vx_Met l y ws rm Pc Qc XC mc ms free) (hblind : FrameBlind Pc) (hrc : rm.cells = mc) (hrs : rm.slots = ms)
    (hframes : rm.frames + 1 ≤ R.frames) (hlocals : W9 + (maxL + 11) + rm.locals ≤ R.locals)
    (hws : ∀ w ∈ ws, ∀ a' U, s.WarmedH U.vm → w.before a' U = true) (hcode : Cond.codeWith y bytes maxL ret hh ∈ ws) (hinit : ∀ a' U, s.WarmedH U.vm → (Cond.initialized y.cls).before a' U = true) :
    vx_Back l R p e below s sargs y len W9 (PreOf R mc ms Pc) (PostOf Qc mc ms free) (vx_Post XC mc ms free) := by
  intro m meth c A g ig mk a X hg hsize hdg hW hn hp
  have h1 : (headSpec ws rm).pre.before a A.U = true := atoms_intro fun w hw => hws w hw _ _ X.warmed
  have h2 : (Cond.codeWith y bytes maxL ret hh).before a A.U = true := hws _ hcode _ _ X.warmed
  have h3 : (Cond.initialized y.cls).before a A.U = true := hinit _ _ X.warmed
  have h4 : A.cells + (headSpec ws rm).room.cells ≤ R.cells := by rw [show (headSpec ws rm).room.cells = mc from hrc]; exact hp.1
  have h5 : A.slots + (headSpec ws rm).room.slots ≤ R.slots := by rw [show (headSpec ws rm).room.slots = ms from hrs]; exact hp.2.1
  have hPc : Pc a (A.U.calling g mk a) := hblind _ _ _ _ hp.2.2
  obtain ⟨U, Ls, c0, s0⟩ := A
  dsimp only [Pt.U, Pt.locs, Pt.cells, Pt.slots] at h1 h2 h3 h4 h5 X hn hPc ⊢
  obtain ⟨m9, methY, cY, hn9, hmY, hcY, -, hlY, -⟩ := Cond.codeWith_spec h2
  cases Option.some.inj (hn9.symm.trans hn)
  obtain ⟨kY, hkY, -⟩ := className_of_methodNamed hn
  have hinitY : kY.init = .initialized := Cond.initialized_spec (findClass_of_methodNamed hn) hkY h3
  have h : At U g.method c below := by rw [hg]; exact X.here
  have hlocals9 : W9 + (maxL + 11) + (headSpec ws rm).room.locals ≤ R.locals := hlocals
  have happ : (headSpec ws rm).appliesLoose y e.platform (U.calling g mk a) = true :=
    Spec.appliesLoose_calling (g := g) h hdg hn hkY hinitY
      (X.room_calling (g := g) (R' := (headSpec ws rm).room) hsize hmY hcY hframes (by rw [hlY]; omega) h4 h5) h1
  obtain ⟨mid, hmid⟩ := h.above
  have hfr : (U.setTop g).frames = (.java g :: mid) ++ below := by rw [State.frames_setTop' g h.top, hmid]; rfl
  obtain ⟨o, s₂, hsteps, -, hend, hq⟩ := Steps.callFree hM p X.admits X.cas X.clock (acts := []) hfr happ hPc trivial
  have hq' : vx_Q Qc XC mc ms free a (U.calling g mk a) o s₂ := hq
  rw [State.frames_setTop' g h.top] at hend
  obtain ⟨g₀, hg0⟩ := Option.isSome_iff_exists.mp h.top
  obtain ⟨r, hr⟩ := State.topJava?_eq_some.mp hg0
  have hr' : (({ U with heap := s₂.heap, slotsUsed := s₂.slotsUsed } : State).setVm s₂.vm).frames = .java g₀ :: r := hr
  rcases hq' with ⟨hqc, L, hfe, hL⟩ | ⟨q, rfl, E, ce, L, hx, hce, hcv, hcl, hW₂, hsm, hL⟩
  · obtain ⟨⟨v, rfl⟩, hW₂, e2, q2, q3, q4, q5, q6⟩ := id hfe
    have e3 : s₂ = ({ (U.calling g mk a).setFrames s₂.frames with heap := s₂.heap, slotsUsed := s₂.slotsUsed } : State).setVm s₂.vm := by
      have : s₂ = ({ s₂ with vm := (U.calling g mk a).vm } : State).setVm s₂.vm := rfl
      rw [e2] at this
      exact this
    obtain ⟨c₂, i₂, len₂, hc₂, hd₂, hf₂⟩ := hend
    have hW' : U.WarmedH s₂.vm := hW₂
    have hcc : c₂ = c := by
      have h1 : s₂.code? g.method = U.code? g.method := by
        rw [State.code?_eq, State.code?_eq, hW'.alike.method?]
      exact Option.some.inj (hc₂.symm.trans (h1.trans h.code))
    subst hcc
    have hlen : len₂ = len := by rw [hdg] at hd₂; cases hd₂; rfl
    subst hlen
    have hs₂ : s₂ = (({ U with heap := s₂.heap, slotsUsed := s₂.slotsUsed } : State).setVm s₂.vm).setTop { g with pc := g.pc + len₂, stack := v.toList ++ g.stack } := by
      refine e3.trans ?_
      rw [hf₂, State.calling_eq h.top, State.setFrames_setFrames, State.setTop_of_frames _ hr', hr]
      rfl
    have hsame : U.sameButNew ({ U with heap := s₂.heap, slotsUsed := s₂.slotsUsed } : State) L mc ms := by
      refine ⟨?_, q2, q3, q4, q5, q6⟩
      obtain ⟨t, ht, -⟩ := State.frames_cons hr
      show ({ U with heap := s₂.heap, slotsUsed := s₂.slotsUsed } : State) = { U.setFrames U.frames with heap := s₂.heap, slotsUsed := s₂.slotsUsed }
      rw [State.setFrames_self ht]
    subst hg
    refine Or.inl ⟨v, ⟨(({ U with heap := s₂.heap, slotsUsed := s₂.slotsUsed } : State).setVm s₂.vm), Ls ++ L, c0 + mc, s0 + ms⟩,
      ⟨X.admits, X.cas, X.clock, X.frames, X.room, X.hears, X.method, X.code, (X.here.setHeapUsed s₂.heap s₂.slotsUsed).setVm hW'.alike, X.tail, State.WarmedH.trans X.warmed hW', X.limits, X.bytes, X.same.trans (hsame.setVm s.vm)⟩,
      ⟨g, mk, s₂, L, rfl, rfl, hqc, rfl, hL, rfl, rfl⟩, ?_⟩
    show Steps p.tables e below _ ((({ U with heap := s₂.heap, slotsUsed := s₂.slotsUsed } : State).setVm s₂.vm).setTop { g with pc := g.pc + len₂, stack := v.toList ++ g.stack })
    rw [← hs₂]
    exact hsteps
  · obtain ⟨e2, q2, q3, q4, q5, q6⟩ := id hsm
    have e3 : s₂ = ({ (U.calling g mk a).setFrames s₂.frames with heap := s₂.heap, slotsUsed := s₂.slotsUsed } : State).setVm s₂.vm := by
      have : s₂ = ({ s₂ with vm := (U.calling g mk a).vm } : State).setVm s₂.vm := rfl
      rw [e2] at this
      exact this
    have hf₂ : s₂.frames = .throwing q :: .java g :: U.frames.tail := hend
    have hW' : U.WarmedH s₂.vm := hW₂
    have hs₂ : s₂ = ((({ U with heap := s₂.heap, slotsUsed := s₂.slotsUsed } : State).setVm s₂.vm).setTop g).pushFrame (.throwing q) := by
      refine e3.trans ?_
      rw [hf₂, State.calling_eq h.top, State.setFrames_setFrames, State.pushFrame, State.frames_setTop _ hr', State.setTop_of_frames _ hr', State.setFrames_setFrames, hr]
      rfl
    have hsame : U.sameButNew ({ U with heap := s₂.heap, slotsUsed := s₂.slotsUsed } : State) L mc ms := by
      refine ⟨?_, q2, q3, q4, q5, q6⟩
      obtain ⟨t, ht, -⟩ := State.frames_cons hr
      show ({ U with heap := s₂.heap, slotsUsed := s₂.slotsUsed } : State) = { U.setFrames U.frames with heap := s₂.heap, slotsUsed := s₂.slotsUsed }
      rw [State.setFrames_self ht]
    subst hg
    refine Or.inr ⟨q, ⟨(({ U with heap := s₂.heap, slotsUsed := s₂.slotsUsed } : State).setVm s₂.vm), Ls ++ L, c0 + mc, s0 + ms⟩,
      ⟨X.admits, X.cas, X.clock, X.frames, X.room, X.hears, X.method, X.code, (X.here.setHeapUsed s₂.heap s₂.slotsUsed).setVm hW'.alike, X.tail, State.WarmedH.trans X.warmed hW', X.limits, X.bytes, X.same.trans (hsame.setVm s.vm)⟩,
      ⟨g, mk, s₂, L, E, ce, rfl, rfl, hx, hce, hcv, hcl, rfl, hL, rfl, rfl⟩, ?_⟩
    show Steps p.tables e below _ (((({ U with heap := s₂.heap, slotsUsed := s₂.slotsUsed } : State).setVm s₂.vm).setTop g).pushFrame (.throwing q))
    rw [← hs₂]
    exact hsteps
end
variable {p : Program} {l : Launch} {e : Env} {R : Room} {s : State} {m : MethodId} {args : Array Value} {below : List Frame} {meth : Method} {c : Code} {T : State} {H : Heap} {locs : List Loc} {cells slots : Nat}
theorem vx_callVX (X : Stand p l e R s m args below meth c T locs cells slots) (hexec : p.tables.exec = Jvm.exec) {own C : String} {index : Nat} {y : MethodName} {bytes : ByteArray} {maxL : Nat} {ret : Option FieldType} {hh : List (Nat × Nat × Nat × Nat)}
    (hown : s.vm.findClass own = some m.cls) (hlink : (Cond.methodLink own index y).before args s = true) (hinst : (Cond.instanceMethod y).before args s = true) (hsel : (Cond.selects C y y).before args s = true)
    (hcode : (Cond.codeWith y bytes maxL ret hh).before args s = true) (hy : y.cls ≠ "java/lang/invoke/MethodHandle" ∧ y.cls ≠ "java/lang/invoke/VarHandle")
    {W9 : Nat} {Pre : Pt → Array Value → Prop} {Post : Pt → Array Value → Option Value → Pt → Prop} {PostX : Pt → Array Value → Addr → Pt → Prop} (hK : vx_Back l R p e below s args y 3 W9 Pre Post PostX)
    {b : Addr} {cellB : Cell} (hcell : T.heap[b]? = some cellB) (hobj : cellB.vm.isStatics = false) (hcls : s.vm.findClass C = some cellB.cls)
    {g : JFrame} (hg : g.method = m) (hsize : g.locals.size = c.maxLocals) {argsL rest : List Value} (hlen : ∀ sig, parseMethodDescriptor y.desc = some sig → argsL.length = sig.parameters.length)
    (hstack : g.stack = argsL.reverse ++ .ref b :: rest) (hW : 2 * g.monitorRoom + (rest.map fun v => v.category).sum ≤ W9) (hdg : decode c.code g.pc = .ok (.invokevirtual index, 3))
    (hpre : ∀ vm₁, s.WarmedH vm₁ → Pre ⟨T.setVm vm₁, locs, cells, slots⟩ (Value.ref b :: argsL).toArray) :
    (∃ (v : Option Value) (vm₁ : Vm) (B : Pt), s.WarmedH vm₁ ∧ Stand p l e R s m args below meth c B.U B.locs B.cells B.slots ∧ Post ⟨T.setVm vm₁, locs, cells, slots⟩ (Value.ref b :: argsL).toArray v B ∧
      ∀ target, Steps p.tables e below (B.U.setTop { g with pc := g.pc + 3, stack := v.toList ++ rest }) target → Steps p.tables e below (T.setTop g) target) ∨
    (∃ (q : Addr) (vm₁ : Vm) (B : Pt), s.WarmedH vm₁ ∧ Stand p l e R s m args below meth c B.U B.locs B.cells B.slots ∧ PostX ⟨T.setVm vm₁, locs, cells, slots⟩ (Value.ref b :: argsL).toArray q B ∧
      Steps p.tables e below (T.setTop g) ((B.U.setTop { g with stack := rest }).pushFrame (.throwing q))) := by
  obtain ⟨mk, methM, hnamed, hmethM, hstM, habM⟩ := Cond.instanceMethod_spec hinst
  obtain ⟨m8, methM', cM, hn8, hmethM', -, -, -, -, -, -, hsigM⟩ := Cond.codeWith_spec hcode
  cases Option.some.inj (hn8.symm.trans hnamed)
  cases hmethM.symm.trans hmethM'
  obtain ⟨c2, r2, m2, q1, q2, q3, q4, kP, hkP, hkPi⟩ := Cond.selects_spec hsel
  cases hcls.symm.trans q1
  cases (State.methodFound?_of_named hnamed hy).symm.trans q2
  cases hnamed.symm.trans q3
  have hselP : selectMethod e.platform s.vm cellB.cls mk = .method mk := by rw [Launch.admits_selectMethod X.admits]; exact q4
  obtain ⟨vm₁, X₁, hstep₁⟩ := X.invokevirtual hexec hown hlink hnamed hmethM hstM hkP hkPi hy (a := b) (cell := cellB) hcell
    (fun z h => by rw [h] at hobj; cases hobj) hselP hmethM habM hkP hkPi (g := g) hg (argsL := argsL) (rest := rest) (hlen _ hsigM) hstack hdg
  rcases hK m meth c ⟨T.setVm vm₁, locs, cells, slots⟩ { g with stack := rest } (.invokevirtual index) mk (Value.ref b :: argsL).toArray X₁ hg hsize hdg hW (X₁.named hnamed) (hpre vm₁ X₁.warmed) with ⟨v, B, X', hpost, hsteps⟩ | ⟨q, B, X', hpost, hsteps⟩
  · exact Or.inl ⟨v, vm₁, B, X₁.warmed, X', hpost, fun target h => hstep₁ _ fun acts => by rw [doInvoke_state]; exact hsteps.trans h⟩
  · exact Or.inr ⟨q, vm₁, B, X₁.warmed, X', hpost, hstep₁ _ fun acts => by rw [doInvoke_state]; exact hsteps⟩
theorem vx_callSX (X : Stand p l e R s m args below meth c T locs cells slots) (hexec : p.tables.exec = Jvm.exec) {own : String} {index : Nat} {y : MethodName} {bytes : ByteArray} {maxL : Nat} {ret : Option FieldType} {hh : List (Nat × Nat × Nat × Nat)}
    (hown : s.vm.findClass own = some m.cls) (hlink : (Cond.methodLink own index y).before args s = true) (hstat : (Cond.static y).before args s = true) (hinit : (Cond.initialized y.cls).before args s = true)
    (hcode : (Cond.codeWith y bytes maxL ret hh).before args s = true) (hy : y.cls ≠ "java/lang/invoke/MethodHandle" ∧ y.cls ≠ "java/lang/invoke/VarHandle")
    {W9 : Nat} {Pre : Pt → Array Value → Prop} {Post : Pt → Array Value → Option Value → Pt → Prop} {PostX : Pt → Array Value → Addr → Pt → Prop} (hK : vx_Back l R p e below s args y 3 W9 Pre Post PostX)
    {g : JFrame} (hg : g.method = m) (hsize : g.locals.size = c.maxLocals) {argsL rest : List Value} (hlen : ∀ sig, parseMethodDescriptor y.desc = some sig → argsL.length = sig.parameters.length)
    (hstack : g.stack = argsL.reverse ++ rest) (hW : 2 * g.monitorRoom + (rest.map fun v => v.category).sum ≤ W9) (hdg : decode c.code g.pc = .ok (.invokestatic index, 3))
    (hpre : ∀ vm₁, s.WarmedH vm₁ → Pre ⟨T.setVm vm₁, locs, cells, slots⟩ argsL.toArray) :
    (∃ (v : Option Value) (vm₁ : Vm) (B : Pt), s.WarmedH vm₁ ∧ Stand p l e R s m args below meth c B.U B.locs B.cells B.slots ∧ Post ⟨T.setVm vm₁, locs, cells, slots⟩ argsL.toArray v B ∧
      ∀ target, Steps p.tables e below (B.U.setTop { g with pc := g.pc + 3, stack := v.toList ++ rest }) target → Steps p.tables e below (T.setTop g) target) ∨
    (∃ (q : Addr) (vm₁ : Vm) (B : Pt), s.WarmedH vm₁ ∧ Stand p l e R s m args below meth c B.U B.locs B.cells B.slots ∧ PostX ⟨T.setVm vm₁, locs, cells, slots⟩ argsL.toArray q B ∧
      Steps p.tables e below (T.setTop g) ((B.U.setTop { g with stack := rest }).pushFrame (.throwing q))) := by
  obtain ⟨mk, methM, cM, hnamed, hmethM, -, -, -, -, -, -, hsigM⟩ := Cond.codeWith_spec hcode
  have hstatic : methM.isStatic = true := Cond.static_spec hnamed hmethM hstat
  obtain ⟨kP, hkP, -⟩ := className_of_methodNamed hnamed
  have hinitP : kP.init = .initialized := Cond.initialized_spec (findClass_of_methodNamed hnamed) hkP hinit
  obtain ⟨vm₁, X₁, hstep₁⟩ := X.invokestatic hexec hown hlink hnamed hmethM hstatic hkP hinitP hy (g := g) hg (argsL := argsL) (rest := rest) (hlen _ hsigM) hstack hdg
  rcases hK m meth c ⟨T.setVm vm₁, locs, cells, slots⟩ { g with stack := rest } (.invokestatic index) mk argsL.toArray X₁ hg hsize hdg hW (X₁.named hnamed) (hpre vm₁ X₁.warmed) with ⟨v, B, X', hpost, hsteps⟩ | ⟨q, B, X', hpost, hsteps⟩
  · exact Or.inl ⟨v, vm₁, B, X₁.warmed, X', hpost, fun target h => hstep₁ _ fun acts => by rw [doInvoke_state]; exact hsteps.trans h⟩
  · exact Or.inr ⟨q, vm₁, B, X₁.warmed, X', hpost, hstep₁ _ fun acts => by rw [doInvoke_state]; exact hsteps⟩
theorem vx_callVW (X : Stand p l e R s m args below meth c T locs cells slots) (hexec : p.tables.exec = Jvm.exec) {own C : String} {index : Nat} {y : MethodName} {bytes : ByteArray} {maxL : Nat} {ret : Option FieldType} {hh : List (Nat × Nat × Nat × Nat)}
    (hown : s.vm.findClass own = some m.cls) (hlink : (Cond.methodLink own index y).before args s = true) (hinst : (Cond.instanceMethod y).before args s = true) (hsel : (Cond.selects C y y).before args s = true)
    (hcode : (Cond.codeWith y bytes maxL ret hh).before args s = true) (hy : y.cls ≠ "java/lang/invoke/MethodHandle" ∧ y.cls ≠ "java/lang/invoke/VarHandle")
    {W9 : Nat} {Pre : Pt → Array Value → Prop} {Post : Pt → Array Value → Option Value → Pt → Prop} (hK : Back l R p e below s args y 3 W9 Pre Post)
    {b : Addr} {cellB : Cell} (hcell : T.heap[b]? = some cellB) (hobj : cellB.vm.isStatics = false) (hcls : s.vm.findClass C = some cellB.cls)
    {g : JFrame} (hg : g.method = m) (hsize : g.locals.size = c.maxLocals) {argsL rest : List Value} (hlen : ∀ sig, parseMethodDescriptor y.desc = some sig → argsL.length = sig.parameters.length)
    (hstack : g.stack = argsL.reverse ++ .ref b :: rest) (hW : 2 * g.monitorRoom + (rest.map fun v => v.category).sum ≤ W9) (hdg : decode c.code g.pc = .ok (.invokevirtual index, 3))
    (hpre : ∀ vm₁, s.WarmedH vm₁ → Pre ⟨T.setVm vm₁, locs, cells, slots⟩ (Value.ref b :: argsL).toArray) :
    ∃ (v : Option Value) (vm₁ : Vm) (B : Pt), s.WarmedH vm₁ ∧ Stand p l e R s m args below meth c B.U B.locs B.cells B.slots ∧ Post ⟨T.setVm vm₁, locs, cells, slots⟩ (Value.ref b :: argsL).toArray v B ∧
      ∀ target, Steps p.tables e below (B.U.setTop { g with pc := g.pc + 3, stack := v.toList ++ rest }) target → Steps p.tables e below (T.setTop g) target := by
  obtain ⟨mk, methM, hnamed, hmethM, hstM, habM⟩ := Cond.instanceMethod_spec hinst
  obtain ⟨m8, methM', cM, hn8, hmethM', -, -, -, -, -, -, hsigM⟩ := Cond.codeWith_spec hcode
  cases Option.some.inj (hn8.symm.trans hnamed)
  cases hmethM.symm.trans hmethM'
  obtain ⟨c2, r2, m2, q1, q2, q3, q4, kP, hkP, hkPi⟩ := Cond.selects_spec hsel
  cases hcls.symm.trans q1
  cases (State.methodFound?_of_named hnamed hy).symm.trans q2
  cases hnamed.symm.trans q3
  have hselP : selectMethod e.platform s.vm cellB.cls mk = .method mk := by rw [Launch.admits_selectMethod X.admits]; exact q4
  obtain ⟨vm₁, X₁, hstep₁⟩ := X.invokevirtual hexec hown hlink hnamed hmethM hstM hkP hkPi hy (a := b) (cell := cellB) hcell
    (fun z h => by rw [h] at hobj; cases hobj) hselP hmethM habM hkP hkPi (g := g) hg (argsL := argsL) (rest := rest) (hlen _ hsigM) hstack hdg
  obtain ⟨v, B, X', hpost, hsteps⟩ := hK m meth c ⟨T.setVm vm₁, locs, cells, slots⟩ { g with stack := rest } (.invokevirtual index) mk (Value.ref b :: argsL).toArray X₁ hg hsize hdg hW (X₁.named hnamed) (hpre vm₁ X₁.warmed)
  exact ⟨v, vm₁, B, X₁.warmed, X', hpost, fun target h => hstep₁ _ fun acts => by rw [doInvoke_state]; exact hsteps.trans h⟩
abbrev vx_CVW (R : Room) (s : State) (args : Array Value) (own C : String) (index : Nat) (y : MethodName) (bytes : ByteArray) (maxL : Nat) (ret : Option FieldType) (hh : List (Nat × Nat × Nat × Nat)) (ws : List Cond) (rm : Room) (mc ms n : Nat) : Prop :=
  (rm.cells = mc ∧ rm.slots = ms ∧ rm.frames + 1 ≤ R.frames ∧ 8 + (maxL + 11) + rm.locals ≤ R.locals ∧ (∀ w ∈ ws, ∀ (a' : Array Value) (U : State), s.WarmedH U.vm → w.before a' U = true) ∧ Cond.codeWith y bytes maxL ret hh ∈ ws) ∧
  (Cond.codeWith y bytes maxL ret hh).before args s = true ∧ (Cond.initialized y.cls).before args s = true ∧ (y.cls ≠ "java/lang/invoke/MethodHandle" ∧ y.cls ≠ "java/lang/invoke/VarHandle") ∧
  (∀ sig, parseMethodDescriptor y.desc = some sig → n = sig.parameters.length) ∧ (Cond.methodLink own index y).before args s = true ∧ (Cond.instanceMethod y).before args s = true ∧ (Cond.selects C y y).before args s = true
theorem vx_cwVW {own C : String} {index maxL mc ms : Nat} {y : MethodName} {bytes : ByteArray} {ret : Option FieldType} {hh : List (Nat × Nat × Nat × Nat)} {Ts ws ws' : List Cond} {rm : Room} (n : Nat) (ht : ∀ w ∈ Ts, w.before args s = true) (hT : GoodIn Ts (wsV own index C y ws)) (hw : ws = Cond.codeWith y bytes maxL ret hh :: ws') (hrc : rm.cells = mc) (hrs : rm.slots = ms)
    (hd : y.cls = C ∧ y.cls ≠ "java/lang/invoke/MethodHandle" ∧ y.cls ≠ "java/lang/invoke/VarHandle" ∧ (parseMethodDescriptor y.desc).map (fun d => d.parameters.length) = some n) (hR : rm.frames + 1 ≤ R.frames ∧ 8 + (maxL + 11) + rm.locals ≤ R.locals) :
    vx_CVW R s args own C index y bytes maxL ret hh ws rm mc ms n := by
  obtain ⟨hC, hd⟩ := hd
  subst hC
  have ok : ∀ w ∈ wsV own index y.cls y ws, w.before args s = true := fun w h => ht w (hT w h).1
  have hG : GoodIn Ts ws := fun w h => hT w (by unfold wsV; exact List.mem_append_right _ h)
  have hc : Cond.codeWith y bytes maxL ret hh ∈ ws := by rw [hw]; exact List.mem_cons_self
  refine ⟨⟨hrc, hrs, hR.1, hR.2, pay_in ht hG, hc⟩, ht _ (hG _ hc).1, ok _ (by simp [wsV]), ⟨hd.1, hd.2.1⟩, fun sig h => ?_, ok _ (by simp [wsV]), ok _ (by simp [wsV]), ok _ (by simp [wsV])⟩
  have h2 := hd.2.2
  rw [h] at h2
  exact (Option.some.inj h2).symm
theorem vx_runVW {y : MethodName} {bytes cc : ByteArray} {maxL nL mc ms n index : Nat} {ret : Option FieldType} {hh : List (Nat × Nat × Nat × Nat)} {ws : List Cond} {rm : Room} {Pc : Array Value → State → Prop} {Qc : Array Value → State → Outcome → State → Prop} {free : Addr → Prop} {Ts : List Cond} {own C : String} {b : Addr} {As rest : List Value} {g : JFrame}
    (S : CallFix p m c cc nL s args Ts own) (hM : Met l y ws rm Pc Qc mc ms free) (cw : vx_CVW R s args own C index y bytes maxL ret hh ws rm mc ms n) (hp : PreV s H C b Pc As)
    (hg : g.method = m) (hn : As.length = n) (hsize : g.locals.size = nL) (hstack : g.stack = As.reverse ++ .ref b :: rest) (hW : 2 * g.monitorRoom + (rest.map fun v => v.category).sum ≤ 8) (hdg : decode cc g.pc = .ok (.invokevirtual index, 3)) (hf : cells + mc ≤ R.cells ∧ slots + ms ≤ R.slots) :
    va_Run p l e R s m args below meth c H locs cells slots mc ms g rest (Qc (Value.ref b :: As).toArray) free := by
  obtain ⟨⟨hrc, hrs, hfr, hlo, hws, hcw⟩, hcode, hini, hy, hlen, hl, hin, hse⟩ := cw
  have hK : Back l R p e below s args y 3 8 (PreOf R mc ms Pc) (PostOf Qc mc ms free) := va_backW (hh := hh) (bytes := bytes) (maxL := maxL) (ret := ret) hM hp.1 hrc hrs hfr hlo hws hcw (fun a' U hW => word_at hW (Or.inl (by first | rfl | simp [Cond.onTables, Cond.keeps, Cond.steady])) hini)
  obtain ⟨hx, hb, hml, ho, -⟩ := S
  obtain ⟨-, ⟨cellB, hcB, hoB, hclB⟩, hPc⟩ := hp
  intro T hT X
  obtain ⟨v, vm₁, ⟨U', l2, c2, s2⟩, hW₁, X', ⟨g', mk, t, L, e1, e2, hq, h1, hL, h2, h3⟩, st⟩ := vx_callVW X hx (C := C) (hh := hh) (bytes := bytes) (maxL := maxL) (ret := ret) ho hl hin hse hcode hy hK (by rw [hT]; exact hcB) hoB hclB hg (hsize.trans hml.symm) (argsL := As) (rest := rest) (fun sig h => hn.trans (hlen sig h)) hstack hW (by rw [hb]; exact hdg)
    (fun vm₁ hW₁ => ⟨hf.1, hf.2, hPc (T.setVm vm₁) hT hW₁⟩)
  dsimp only [Pt.U, Pt.locs, Pt.cells, Pt.slots] at X' e1 e2 h1 h2 h3 st
  subst h1; subst h2; subst h3
  exact ⟨v, (T.setVm vm₁).calling g' mk (Value.ref b :: As).toArray, t, U', L, hT, X', hL, e1, e2, hq, st⟩
section
variable {y : MethodName} {bytes cc : ByteArray} {maxL nL mc ms n index : Nat} {ret : Option FieldType} {ws : List Cond} {rm : Room} {Pc : Array Value → State → Prop} {Qc : Array Value → State → Outcome → State → Prop} {XC : String → State → State → Prop} {free : Addr → Prop} {Ts : List Cond} {own C : String} {b : Addr} {As rest : List Value} {g : JFrame}
theorem vx_runVX {hh : List (Nat × Nat × Nat × Nat)} (S : CallFix p m c cc nL s args Ts own) (hM : vx_Met l y ws rm Pc Qc XC mc ms free) (cw : vx_CVW R s args own C index y bytes maxL ret hh ws rm mc ms n) (hp : PreV s H C b Pc As)
    (hg : g.method = m) (hn : As.length = n) (hsize : g.locals.size = nL) (hstack : g.stack = As.reverse ++ .ref b :: rest) (hW : 2 * g.monitorRoom + (rest.map fun v => v.category).sum ≤ 8) (hdg : decode cc g.pc = .ok (.invokevirtual index, 3)) (hf : cells + mc ≤ R.cells ∧ slots + ms ≤ R.slots) :
    vx_Run p l e R s m args below meth c H locs cells slots mc ms g rest (Qc (Value.ref b :: As).toArray) XC free := by
  obtain ⟨⟨hrc, hrs, hfr, hlo, hws, hcw⟩, hcode, hini, hy, hlen, hl, hin, hse⟩ := cw
  have hK : vx_Back l R p e below s args y 3 8 (PreOf R mc ms Pc) (PostOf Qc mc ms free) (vx_Post XC mc ms free) := vx_backW (hh := hh) (bytes := bytes) (maxL := maxL) (ret := ret) hM hp.1 hrc hrs hfr hlo hws hcw (fun a' U hW => word_at hW (Or.inl (by first | rfl | simp [Cond.onTables, Cond.keeps, Cond.steady])) hini)
  obtain ⟨hx, hb, hml, ho, -⟩ := S
  obtain ⟨-, ⟨cellB, hcB, hoB, hclB⟩, hPc⟩ := hp
  intro T hT X
  rcases vx_callVX X hx (C := C) (hh := hh) (bytes := bytes) (maxL := maxL) (ret := ret) ho hl hin hse hcode hy hK (by rw [hT]; exact hcB) hoB hclB hg (hsize.trans hml.symm) (argsL := As) (rest := rest) (fun sig h => hn.trans (hlen sig h)) hstack hW (by rw [hb]; exact hdg)
    (fun vm₁ hW₁ => ⟨hf.1, hf.2, hPc (T.setVm vm₁) hT hW₁⟩) with ⟨v, vm₁, ⟨U', l2, c2, s2⟩, hW₁, X', ⟨g', mk, t, L, e1, e2, hq, h1, hL, h2, h3⟩, st⟩ | ⟨q, vm₁, ⟨U', l2, c2, s2⟩, hW₁, X', ⟨g', mk, t, L, E, ce, e1, e2, hq, hce, hcv, hcl, h1, hL, h2, h3⟩, st⟩
  · dsimp only [Pt.U, Pt.locs, Pt.cells, Pt.slots] at X' e1 e2 h1 h2 h3 st
    subst h1; subst h2; subst h3
    exact Or.inl ⟨v, (T.setVm vm₁).calling g' mk (Value.ref b :: As).toArray, t, U', L, hT, X', hL, e1, e2, hq, st⟩
  · dsimp only [Pt.U, Pt.locs, Pt.cells, Pt.slots] at X' e1 e2 h1 h2 h3 st hcl
    subst h1; subst h2; subst h3
    exact Or.inr ⟨q, (T.setVm vm₁).calling g' mk (Value.ref b :: As).toArray, t, U', L, E, ce, hT, X', hL, e1, e2, hq, hce, hcv, vx_cls hW₁ hcl, st⟩
theorem vx_runSX {hh : List (Nat × Nat × Nat × Nat)} (S : CallFix p m c cc nL s args Ts own) (hM : vx_Met l y ws rm Pc Qc XC mc ms free) (cw : vx_CSW R s args own index y bytes maxL ret hh ws rm mc ms n) (hp : PreS s H Pc As)
    (hg : g.method = m) (hn : As.length = n) (hsize : g.locals.size = nL) (hstack : g.stack = As.reverse ++ rest) (hW : 2 * g.monitorRoom + (rest.map fun v => v.category).sum ≤ 8) (hdg : decode cc g.pc = .ok (.invokestatic index, 3)) (hf : cells + mc ≤ R.cells ∧ slots + ms ≤ R.slots) :
    vx_Run p l e R s m args below meth c H locs cells slots mc ms g rest (Qc As.toArray) XC free := by
  obtain ⟨⟨hrc, hrs, hfr, hlo, hws, hcw⟩, hcode, hini, hy, hlen, hl, hstt⟩ := cw
  have hK : vx_Back l R p e below s args y 3 8 (PreOf R mc ms Pc) (PostOf Qc mc ms free) (vx_Post XC mc ms free) := vx_backW (hh := hh) (bytes := bytes) (maxL := maxL) (ret := ret) hM hp.1 hrc hrs hfr hlo hws hcw (fun a' U hW => word_at hW (Or.inl (by first | rfl | simp [Cond.onTables, Cond.keeps, Cond.steady])) hini)
  obtain ⟨hx, hb, hml, ho, -⟩ := S
  intro T hT X
  rcases vx_callSX X hx (hh := hh) (bytes := bytes) (maxL := maxL) (ret := ret) ho hl hstt hini hcode hy hK hg (hsize.trans hml.symm) (argsL := As) (rest := rest) (fun sig h => hn.trans (hlen sig h)) hstack hW (by rw [hb]; exact hdg)
    (fun vm₁ hW₁ => ⟨hf.1, hf.2, hp.2 (T.setVm vm₁) hT hW₁⟩) with ⟨v, vm₁, ⟨U', l2, c2, s2⟩, hW₁, X', ⟨g', mk, t, L, e1, e2, hq, h1, hL, h2, h3⟩, st⟩ | ⟨q, vm₁, ⟨U', l2, c2, s2⟩, hW₁, X', ⟨g', mk, t, L, E, ce, e1, e2, hq, hce, hcv, hcl, h1, hL, h2, h3⟩, st⟩
  · dsimp only [Pt.U, Pt.locs, Pt.cells, Pt.slots] at X' e1 e2 h1 h2 h3 st
    subst h1; subst h2; subst h3
    exact Or.inl ⟨v, (T.setVm vm₁).calling g' mk As.toArray, t, U', L, hT, X', hL, e1, e2, hq, st⟩
  · dsimp only [Pt.U, Pt.locs, Pt.cells, Pt.slots] at X' e1 e2 h1 h2 h3 st hcl
    subst h1; subst h2; subst h3
    exact Or.inr ⟨q, (T.setVm vm₁).calling g' mk As.toArray, t, U', L, E, ce, hT, X', hL, e1, e2, hq, hce, hcv, vx_cls hW₁ hcl, st⟩
end
end VXH
theorem vx_ofWH {l : Launch} {y : MethodName} {ws ws' : List Cond} {rm : Room} {Pc : Array Value → State → Prop} {Qc : Array Value → State → Outcome → State → Prop} {XC : String → State → State → Prop} {mc ms : Nat} {free : Addr → Prop} {cc : ByteArray} {maxL : Nat} {ret : Option FieldType} {hh : List (Nat × Nat × Nat × Nat)}
    (hy : plainName y.cls = true) (hw : ws = Cond.codeWith y cc maxL ret hh :: ws')
    (body : ∀ p e s m args below meth c s₁, BodyLoose p l y (headSpec ws rm) cc maxL ret e s m args below meth c s₁ → c.maxLocals = maxL → Pc args s →
      W p l e (headSpec ws rm).room s m args below meth c s.heap [] 0 0 (vx_MQ below Qc XC args s mc ms free) (entryFrame m args maxL)) : vx_Met l y ws rm Pc Qc XC mc ms free := by
  refine MetFree.of_bodyS (code := cc) (maxLocals := maxL) (ret := ret) hy ?_ ?_
  · intro args s m h hn
    obtain ⟨m9, meth, c, hn9, h1, h2, h3, h4, -, h5, h6, -⟩ := Cond.codeWith_spec (atoms_spec (ws := ws) h _ (by rw [hw]; exact List.mem_cons_self))
    cases hn.symm.trans hn9
    exact ⟨meth, c, h1, h2, h3, h4, h5, h6⟩
  · intro p e s m args below meth c s₁ B hml hP _
    have hh0 : s₁.heap = s.heap := by rw [B.state]; rfl
    obtain ⟨t, a1, o, b1, b2, b3⟩ := body p e s m args below meth c s₁ B hml hP s₁ hh0 (Stand.of_body B)
    exact ⟨t, o, a1, b1, b2, b3⟩
/-! ===== END ===== -/
end
section
/-! ===== BEGIN printed: names, fields, word lists, decode rows ===== -/
def RX0 : String := "ThimbleSwap"
def TX0 : u_T := fun k => match k with
  | 0 => ("ThimbleSwap", "week", "I", false)
  | 1 => ("ThimbleSwap", "collectors", "I", false)
  | 2 => ("ThimbleSwap", "thimbles", "I", false)
  | 3 => ("ThimbleSwap", "swapsAgreed", "I", false)
  | 4 => ("ThimbleSwap", "swapsRefused", "I", false)
  | 5 => ("ThimbleSwap", "setOf", "[I", true)
  | 6 => ("ThimbleSwap", "numberOf", "[I", true)
  | 7 => ("ThimbleSwap", "hallmarkOf", "[I", true)
  | 8 => ("ThimbleSwap", "stateOf", "[I", true)
  | 9 => ("ThimbleSwap", "ownerOf", "[I", true)
  | 10 => ("ThimbleSwap", "lentTill", "[I", true)
  | 11 => ("ThimbleSwap", "lentFor", "[I", true)
  | 12 => ("ThimbleSwap", "likings", "[[I", true)
  | 13 => ("ThimbleSwap", "grudges", "[[I", true)
  | 14 => ("ThimbleSwap", "swapsOf", "[I", true)
  | 15 => ("ThimbleSwap", "greatestStates", "[I", true)
  | _ => ("ThimbleSwap", "hallmarksLaidOut", "I", false)
def tyX0 : Nat → FieldType := fun k => match k with
  | 0 => .int
  | 1 => .int
  | 2 => .int
  | 3 => .int
  | 4 => .int
  | 5 => .array .int
  | 6 => .array .int
  | 7 => .array .int
  | 8 => .array .int
  | 9 => .array .int
  | 10 => .array .int
  | 11 => .array .int
  | 12 => .array (.array .int)
  | 13 => .array (.array .int)
  | 14 => .array .int
  | 15 => .array .int
  | _ => .int
abbrev wsX00 : List Cond := u_ws RX0 TX0 17
theorem nmX0 : ∀ a, a < 17 → ∀ b, b < 17 → a ≠ b → (TX0 a).2.1 ≠ (TX0 b).2.1 := by decide +kernel
theorem tyX0_ok : ∀ k, k < 17 → parseFieldDescriptor (TX0 k).2.2.1 = some (tyX0 k) := by decide +kernel
abbrev cX0_init : ByteArray := prog_1_method_1_code
def yX0_init : MethodName := ⟨RX0, "<init>", "()V"⟩
abbrev cX0_join : ByteArray := prog_1_method_2_code
def yX0_join : MethodName := ⟨RX0, "join", "()I"⟩
abbrev cX0_find : ByteArray := prog_1_method_3_code
def yX0_find : MethodName := ⟨RX0, "find", "(IIIII)I"⟩
abbrev cX0_like : ByteArray := prog_1_method_4_code
def yX0_like : MethodName := ⟨RX0, "like", "(III)I"⟩
abbrev cX0_collector : ByteArray := prog_1_method_5_code
def yX0_collector : MethodName := ⟨RX0, "collector", "(II)I"⟩
abbrev cX0_grudge : ByteArray := prog_1_method_6_code
def yX0_grudge : MethodName := ⟨RX0, "grudge", "(II)I"⟩
abbrev cX0_thimble : ByteArray := prog_1_method_7_code
def yX0_thimble : MethodName := ⟨RX0, "thimble", "(II)I"⟩
abbrev cX0_gains : ByteArray := prog_1_method_8_code
def yX0_gains : MethodName := ⟨RX0, "gains", "(II)I"⟩
abbrev cX0_swap : ByteArray := prog_1_method_9_code
def yX0_swap : MethodName := ⟨RX0, "swap", "(II)I"⟩
abbrev cX0_best : ByteArray := prog_1_method_10_code
def yX0_best : MethodName := ⟨RX0, "best", "(II)I"⟩
abbrev cX0_ring : ByteArray := prog_1_method_11_code
def yX0_ring : MethodName := ⟨RX0, "ring", "(III)I"⟩
abbrev cX0_fair : ByteArray := prog_1_method_12_code
def yX0_fair : MethodName := ⟨RX0, "fair", "(I)I"⟩
abbrev cX0_lend : ByteArray := prog_1_method_13_code
def yX0_lend : MethodName := ⟨RX0, "lend", "(II)I"⟩
abbrev cX0_shows : ByteArray := prog_1_method_14_code
def yX0_shows : MethodName := ⟨RX0, "shows", "(I)I"⟩
abbrev cX0_lacks : ByteArray := prog_1_method_15_code
def yX0_lacks : MethodName := ⟨RX0, "lacks", "(I)I"⟩
abbrev cX0_finest : ByteArray := prog_1_method_16_code
def yX0_finest : MethodName := ⟨RX0, "finest", "(I)I"⟩
abbrev cX0_pass : ByteArray := prog_1_method_17_code
def yX0_pass : MethodName := ⟨RX0, "pass", "(I)I"⟩
abbrev cX0_count : ByteArray := prog_1_method_18_code
def yX0_count : MethodName := ⟨RX0, "count", "(I)I"⟩
abbrev cX0_mean : ByteArray := prog_1_method_19_code
def yX0_mean : MethodName := ⟨RX0, "mean", "()D"⟩
abbrev cX0_digest : ByteArray := prog_1_method_20_code
def yX0_digest : MethodName := ⟨RX0, "digest", "()J"⟩
abbrev cX0_digestWithCollector : ByteArray := prog_1_method_21_code
def yX0_digestWithCollector : MethodName := ⟨RX0, "digestWithCollector", "(JI)J"⟩
abbrev cX0_digestWithThimble : ByteArray := prog_1_method_22_code
def yX0_digestWithThimble : MethodName := ⟨RX0, "digestWithThimble", "(JI)J"⟩
abbrev cX0_isBelow : ByteArray := prog_1_method_23_code
def yX0_isBelow : MethodName := ⟨RX0, "isBelow", "(II)Z"⟩
abbrev cX0_requireCollector : ByteArray := prog_1_method_24_code
def yX0_requireCollector : MethodName := ⟨RX0, "requireCollector", "(I)V"⟩
abbrev cX0_requireThimble : ByteArray := prog_1_method_25_code
def yX0_requireThimble : MethodName := ⟨RX0, "requireThimble", "(I)V"⟩
abbrev cX0_requireSet : ByteArray := prog_1_method_26_code
def yX0_requireSet : MethodName := ⟨RX0, "requireSet", "(I)V"⟩
abbrev cX0_requireRow : ByteArray := prog_1_method_27_code
def yX0_requireRow : MethodName := ⟨RX0, "requireRow", "(II)V"⟩
abbrev cX0_requireTwoOwners : ByteArray := prog_1_method_28_code
def yX0_requireTwoOwners : MethodName := ⟨RX0, "requireTwoOwners", "(II)V"⟩
abbrev cX0_requireAtHome : ByteArray := prog_1_method_29_code
def yX0_requireAtHome : MethodName := ⟨RX0, "requireAtHome", "(I)V"⟩
abbrev cX0_layOutOwn : ByteArray := prog_1_method_30_code
def yX0_layOutOwn : MethodName := ⟨RX0, "layOutOwn", "(I)V"⟩
abbrev cX0_layOut : ByteArray := prog_1_method_31_code
def yX0_layOut : MethodName := ⟨RX0, "layOut", "(III)V"⟩
abbrev cX0_numbersLaidOut : ByteArray := prog_1_method_32_code
def yX0_numbersLaidOut : MethodName := ⟨RX0, "numbersLaidOut", "(I)I"⟩
abbrev cX0_statesLaidOut : ByteArray := prog_1_method_33_code
def yX0_statesLaidOut : MethodName := ⟨RX0, "statesLaidOut", "(I)I"⟩
abbrev cX0_worthLaidOut : ByteArray := prog_1_method_34_code
def yX0_worthLaidOut : MethodName := ⟨RX0, "worthLaidOut", "(I)I"⟩
abbrev cX0_worthNow : ByteArray := prog_1_method_35_code
def yX0_worthNow : MethodName := ⟨RX0, "worthNow", "(I)I"⟩
abbrev cX0_worthAfter : ByteArray := prog_1_method_36_code
def yX0_worthAfter : MethodName := ⟨RX0, "worthAfter", "(III)I"⟩
abbrev cX0_worthOfAll : ByteArray := prog_1_method_37_code
def yX0_worthOfAll : MethodName := ⟨RX0, "worthOfAll", "()I"⟩
abbrev cX0_differentHallmarks : ByteArray := prog_1_method_38_code
def yX0_differentHallmarks : MethodName := ⟨RX0, "differentHallmarks", "(I)I"⟩
abbrev cX0_wholeSets : ByteArray := prog_1_method_39_code
def yX0_wholeSets : MethodName := ⟨RX0, "wholeSets", "(I)I"⟩
abbrev cX0_gainOfOwner : ByteArray := prog_1_method_40_code
def yX0_gainOfOwner : MethodName := ⟨RX0, "gainOfOwner", "(II)I"⟩
abbrev cX0_isEnough : ByteArray := prog_1_method_41_code
def yX0_isEnough : MethodName := ⟨RX0, "isEnough", "(III)Z"⟩
abbrev cX0_oneIfAbove0 : ByteArray := prog_1_method_42_code
def yX0_oneIfAbove0 : MethodName := ⟨RX0, "oneIfAbove0", "(I)I"⟩
abbrev cX0_bestSwapOf : ByteArray := prog_1_method_43_code
def yX0_bestSwapOf : MethodName := ⟨RX0, "bestSwapOf", "(II)I"⟩
abbrev cX0_bestSwapOfFirstPair : ByteArray := prog_1_method_44_code
def yX0_bestSwapOfFirstPair : MethodName := ⟨RX0, "bestSwapOfFirstPair", "()I"⟩
abbrev cX0_changeHands : ByteArray := prog_1_method_45_code
def yX0_changeHands : MethodName := ⟨RX0, "changeHands", "(II)V"⟩
abbrev cX0_soften : ByteArray := prog_1_method_46_code
def yX0_soften : MethodName := ⟨RX0, "soften", "(II)V"⟩
abbrev cX0_resent : ByteArray := prog_1_method_47_code
def yX0_resent : MethodName := ⟨RX0, "resent", "(II)V"⟩
abbrev cX0_allGrudgesOf : ByteArray := prog_1_method_48_code
def yX0_allGrudgesOf : MethodName := ⟨RX0, "allGrudgesOf", "(I)I"⟩
abbrev cX0_isLent : ByteArray := prog_1_method_49_code
def yX0_isLent : MethodName := ⟨RX0, "isLent", "(I)Z"⟩
abbrev cX0_isAtHomeWith : ByteArray := prog_1_method_50_code
def yX0_isAtHomeWith : MethodName := ⟨RX0, "isAtHomeWith", "(II)Z"⟩
abbrev cX0_thimblesOf : ByteArray := prog_1_method_51_code
def yX0_thimblesOf : MethodName := ⟨RX0, "thimblesOf", "(I)I"⟩
abbrev cX0_thimblesLentBy : ByteArray := prog_1_method_52_code
def yX0_thimblesLentBy : MethodName := ⟨RX0, "thimblesLentBy", "(I)I"⟩
abbrev cX0_thimblesLent : ByteArray := prog_1_method_53_code
def yX0_thimblesLent : MethodName := ⟨RX0, "thimblesLent", "()I"⟩
abbrev cX0_numbersFound : ByteArray := prog_1_method_54_code
def yX0_numbersFound : MethodName := ⟨RX0, "numbersFound", "(I)I"⟩
abbrev cX0_numbersShown : ByteArray := prog_1_method_55_code
def yX0_numbersShown : MethodName := ⟨RX0, "numbersShown", "(I)I"⟩
abbrev cX0_endWeek : ByteArray := prog_1_method_56_code
def yX0_endWeek : MethodName := ⟨RX0, "endWeek", "()I"⟩
abbrev cX0_bringHome : ByteArray := prog_1_method_57_code
def yX0_bringHome : MethodName := ⟨RX0, "bringHome", "(I)V"⟩
abbrev cX0_softenAll : ByteArray := prog_1_method_58_code
def yX0_softenAll : MethodName := ⟨RX0, "softenAll", "()V"⟩
def RX1 : String := "ThimbleSwapModel"
def TX1 : u_T := fun k => match k with
  | 0 => ("ThimbleSwapModel", "thrown", "I", false)
  | 1 => ("ThimbleSwapModel", "collectors", "I", false)
  | 2 => ("ThimbleSwapModel", "thimbles", "I", false)
  | 3 => ("ThimbleSwapModel", "table", "[I", true)
  | 4 => ("ThimbleSwapModel", "likes", "[I", true)
  | 5 => ("ThimbleSwapModel", "grudges", "[I", true)
  | 6 => ("ThimbleSwapModel", "swaps", "[I", true)
  | 7 => ("ThimbleSwapModel", "numbers", "[I", true)
  | _ => ("ThimbleSwapModel", "greatest", "[I", true)
def tyX1 : Nat → FieldType := fun k => match k with
  | 0 => .int
  | 1 => .int
  | 2 => .int
  | 3 => .array .int
  | 4 => .array .int
  | 5 => .array .int
  | 6 => .array .int
  | 7 => .array .int
  | _ => .array .int
abbrev wsX10 : List Cond := u_ws RX1 TX1 9
theorem nmX1 : ∀ a, a < 9 → ∀ b, b < 9 → a ≠ b → (TX1 a).2.1 ≠ (TX1 b).2.1 := by decide +kernel
theorem tyX1_ok : ∀ k, k < 9 → parseFieldDescriptor (TX1 k).2.2.1 = some (tyX1 k) := by decide +kernel
abbrev cX1_init : ByteArray := prog_3_method_1_code
def yX1_init : MethodName := ⟨RX1, "<init>", "()V"⟩
abbrev cX1_thrown : ByteArray := prog_3_method_2_code
def yX1_thrown : MethodName := ⟨RX1, "thrown", "()I"⟩
abbrev cX1_fail : ByteArray := prog_3_method_3_code
def yX1_fail : MethodName := ⟨RX1, "fail", "(I)I"⟩
abbrev cX1_isIn : ByteArray := prog_3_method_4_code
def yX1_isIn : MethodName := ⟨RX1, "isIn", "(III)Z"⟩
abbrev cX1_isCollector : ByteArray := prog_3_method_5_code
def yX1_isCollector : MethodName := ⟨RX1, "isCollector", "(I)Z"⟩
abbrev cX1_isThimble : ByteArray := prog_3_method_6_code
def yX1_isThimble : MethodName := ⟨RX1, "isThimble", "(I)Z"⟩
abbrev cX1_isSet : ByteArray := prog_3_method_7_code
def yX1_isSet : MethodName := ⟨RX1, "isSet", "(I)Z"⟩
abbrev cX1_th : ByteArray := prog_3_method_8_code
def yX1_th : MethodName := ⟨RX1, "th", "(II)I"⟩
abbrev cX1_set : ByteArray := prog_3_method_9_code
def yX1_set : MethodName := ⟨RX1, "set", "(III)V"⟩
abbrev cX1_isLent : ByteArray := prog_3_method_10_code
def yX1_isLent : MethodName := ⟨RX1, "isLent", "(I)Z"⟩
abbrev cX1_join : ByteArray := prog_3_method_11_code
def yX1_join : MethodName := ⟨RX1, "join", "()I"⟩
abbrev cX1_find : ByteArray := prog_3_method_12_code
def yX1_find : MethodName := ⟨RX1, "find", "(IIIII)I"⟩
abbrev cX1_like : ByteArray := prog_3_method_13_code
def yX1_like : MethodName := ⟨RX1, "like", "(III)I"⟩
abbrev cX1_gather : ByteArray := prog_3_method_14_code
def yX1_gather : MethodName := ⟨RX1, "gather", "(II)I"⟩
abbrev cX1_states : ByteArray := prog_3_method_15_code
def yX1_states : MethodName := ⟨RX1, "states", "()I"⟩
abbrev cX1_hallmarks : ByteArray := prog_3_method_16_code
def yX1_hallmarks : MethodName := ⟨RX1, "hallmarks", "(I)I"⟩
abbrev cX1_worth : ByteArray := prog_3_method_17_code
def yX1_worth : MethodName := ⟨RX1, "worth", "(I)I"⟩
abbrev cX1_collectorTold : ByteArray := prog_3_method_18_code
def yX1_collectorTold : MethodName := ⟨RX1, "collectorTold", "(II)I"⟩
abbrev cX1_collector : ByteArray := prog_3_method_19_code
def yX1_collector : MethodName := ⟨RX1, "collector", "(II)I"⟩
abbrev cX1_grudge : ByteArray := prog_3_method_20_code
def yX1_grudge : MethodName := ⟨RX1, "grudge", "(II)I"⟩
abbrev cX1_thimble : ByteArray := prog_3_method_21_code
def yX1_thimble : MethodName := ⟨RX1, "thimble", "(II)I"⟩
abbrev cX1_exchange : ByteArray := prog_3_method_22_code
def yX1_exchange : MethodName := ⟨RX1, "exchange", "(II)V"⟩
abbrev cX1_gain : ByteArray := prog_3_method_23_code
def yX1_gain : MethodName := ⟨RX1, "gain", "(II)I"⟩
abbrev cX1_gains : ByteArray := prog_3_method_24_code
def yX1_gains : MethodName := ⟨RX1, "gains", "(II)I"⟩
abbrev cX1_isEnough : ByteArray := prog_3_method_25_code
def yX1_isEnough : MethodName := ⟨RX1, "isEnough", "(II)Z"⟩
abbrev cX1_weigh : ByteArray := prog_3_method_26_code
def yX1_weigh : MethodName := ⟨RX1, "weigh", "(III)V"⟩
abbrev cX1_swapped : ByteArray := prog_3_method_27_code
def yX1_swapped : MethodName := ⟨RX1, "swapped", "(II)I"⟩
abbrev cX1_swap : ByteArray := prog_3_method_28_code
def yX1_swap : MethodName := ⟨RX1, "swap", "(II)I"⟩
abbrev cX1_bestOf : ByteArray := prog_3_method_29_code
def yX1_bestOf : MethodName := ⟨RX1, "bestOf", "(II)I"⟩
abbrev cX1_best : ByteArray := prog_3_method_30_code
def yX1_best : MethodName := ⟨RX1, "best", "(II)I"⟩
abbrev cX1_ring : ByteArray := prog_3_method_31_code
def yX1_ring : MethodName := ⟨RX1, "ring", "(III)I"⟩
abbrev cX1_swapsOnce : ByteArray := prog_3_method_32_code
def yX1_swapsOnce : MethodName := ⟨RX1, "swapsOnce", "()Z"⟩
abbrev cX1_fair : ByteArray := prog_3_method_33_code
def yX1_fair : MethodName := ⟨RX1, "fair", "(I)I"⟩
abbrev cX1_lend : ByteArray := prog_3_method_34_code
def yX1_lend : MethodName := ⟨RX1, "lend", "(II)I"⟩
abbrev cX1_bits : ByteArray := prog_3_method_35_code
def yX1_bits : MethodName := ⟨RX1, "bits", "(IZ)I"⟩
abbrev cX1_shows : ByteArray := prog_3_method_36_code
def yX1_shows : MethodName := ⟨RX1, "shows", "(I)I"⟩
abbrev cX1_lacks : ByteArray := prog_3_method_37_code
def yX1_lacks : MethodName := ⟨RX1, "lacks", "(I)I"⟩
abbrev cX1_finest : ByteArray := prog_3_method_38_code
def yX1_finest : MethodName := ⟨RX1, "finest", "(I)I"⟩
abbrev cX1_weekOn : ByteArray := prog_3_method_39_code
def yX1_weekOn : MethodName := ⟨RX1, "weekOn", "()I"⟩
abbrev cX1_pass : ByteArray := prog_3_method_40_code
def yX1_pass : MethodName := ⟨RX1, "pass", "(I)I"⟩
abbrev cX1_allWorth : ByteArray := prog_3_method_41_code
def yX1_allWorth : MethodName := ⟨RX1, "allWorth", "()I"⟩
abbrev cX1_counted : ByteArray := prog_3_method_42_code
def yX1_counted : MethodName := ⟨RX1, "counted", "(I)I"⟩
abbrev cX1_count : ByteArray := prog_3_method_43_code
def yX1_count : MethodName := ⟨RX1, "count", "(I)I"⟩
abbrev cX1_mean : ByteArray := prog_3_method_44_code
def yX1_mean : MethodName := ⟨RX1, "mean", "()D"⟩
abbrev cX1_digest : ByteArray := prog_3_method_45_code
def yX1_digest : MethodName := ⟨RX1, "digest", "()J"⟩
def RJx145de : String := "java/io/Serializable"
def TJx145de : u_T := fun k => match k with
  | _ => ("", "", "", false)
def tyJx145de : Nat → FieldType := fun k => match k with
  | _ => .int
abbrev wsJx145de0 : List Cond := u_ws RJx145de TJx145de 0
theorem nmJx145de : ∀ a, a < 0 → ∀ b, b < 0 → a ≠ b → (TJx145de a).2.1 ≠ (TJx145de b).2.1 := by decide +kernel
theorem tyJx145de_ok : ∀ k, k < 0 → parseFieldDescriptor (TJx145de k).2.2.1 = some (tyJx145de k) := by decide +kernel
def RJ6 : String := "java/lang/Integer"
def TJ6 : u_T := fun k => match k with
  | _ => ("", "", "", false)
def tyJ6 : Nat → FieldType := fun k => match k with
  | _ => .int
abbrev wsJ60 : List Cond := u_ws RJ6 TJ6 0
theorem nmJ6 : ∀ a, a < 0 → ∀ b, b < 0 → a ≠ b → (TJ6 a).2.1 ≠ (TJ6 b).2.1 := by decide +kernel
theorem tyJ6_ok : ∀ k, k < 0 → parseFieldDescriptor (TJ6 k).2.2.1 = some (tyJ6 k) := by decide +kernel
abbrev cJ6_bitCount_0f7a4 : ByteArray := prog_8_method_49_code
def yJ6_bitCount_0f7a4 : MethodName := ⟨RJ6, "bitCount", "(I)I"⟩
def RJ9 : String := "java/lang/Math"
def TJ9 : u_T := fun k => match k with
  | _ => ("", "", "", false)
def tyJ9 : Nat → FieldType := fun k => match k with
  | _ => .int
abbrev wsJ90 : List Cond := u_ws RJ9 TJ9 0
theorem nmJ9 : ∀ a, a < 0 → ∀ b, b < 0 → a ≠ b → (TJ9 a).2.1 ≠ (TJ9 b).2.1 := by decide +kernel
theorem tyJ9_ok : ∀ k, k < 0 → parseFieldDescriptor (TJ9 k).2.2.1 = some (tyJ9 k) := by decide +kernel
abbrev cJ9_max_7cf53 : ByteArray := prog_9_method_65_code
def yJ9_max_7cf53 : MethodName := ⟨RJ9, "max", "(II)I"⟩
abbrev cJ9_min_7cf53 : ByteArray := prog_9_method_69_code
def yJ9_min_7cf53 : MethodName := ⟨RJ9, "min", "(II)I"⟩
def RJ0 : String := "java/lang/String"
def TJ0 : u_T := fun k => match k with
  | _ => ("", "", "", false)
def tyJ0 : Nat → FieldType := fun k => match k with
  | _ => .int
abbrev wsJ00 : List Cond := u_ws RJ0 TJ0 0
theorem nmJ0 : ∀ a, a < 0 → ∀ b, b < 0 → a ≠ b → (TJ0 a).2.1 ≠ (TJ0 b).2.1 := by decide +kernel
theorem tyJ0_ok : ∀ k, k < 0 → parseFieldDescriptor (TJ0 k).2.2.1 = some (tyJ0 k) := by decide +kernel
def RJ10 : String := "java/lang/System"
def TJ10 : u_T := fun k => match k with
  | _ => ("", "", "", false)
def tyJ10 : Nat → FieldType := fun k => match k with
  | _ => .int
abbrev wsJ100 : List Cond := u_ws RJ10 TJ10 0
theorem nmJ10 : ∀ a, a < 0 → ∀ b, b < 0 → a ≠ b → (TJ10 a).2.1 ≠ (TJ10 b).2.1 := by decide +kernel
theorem tyJ10_ok : ∀ k, k < 0 → parseFieldDescriptor (TJ10 k).2.2.1 = some (tyJ10 k) := by decide +kernel
def RJ7 : String := "java/util/Arrays"
def TJ7 : u_T := fun k => match k with
  | _ => ("", "", "", false)
def tyJ7 : Nat → FieldType := fun k => match k with
  | _ => .int
abbrev wsJ70 : List Cond := u_ws RJ7 TJ7 0
theorem nmJ7 : ∀ a, a < 0 → ∀ b, b < 0 → a ≠ b → (TJ7 a).2.1 ≠ (TJ7 b).2.1 := by decide +kernel
theorem tyJ7_ok : ∀ k, k < 0 → parseFieldDescriptor (TJ7 k).2.2.1 = some (tyJ7 k) := by decide +kernel
abbrev cJ7_fill_53178 : ByteArray := prog_14_method_103_code
def yJ7_fill_53178 : MethodName := ⟨RJ7, "fill", "([II)V"⟩
def RL : String := "ThimbleSwapLaw"
abbrev cL_join : ByteArray := method_3_code
def yL_join : MethodName := ⟨RL, "join", "(LThimbleSwap;[J)I"⟩
abbrev cL_find : ByteArray := method_4_code
def yL_find : MethodName := ⟨RL, "find", "(LThimbleSwap;IIIII[J)I"⟩
abbrev cL_like : ByteArray := method_5_code
def yL_like : MethodName := ⟨RL, "like", "(LThimbleSwap;III[J)I"⟩
abbrev cL_collector : ByteArray := method_6_code
def yL_collector : MethodName := ⟨RL, "collector", "(LThimbleSwap;II[J)I"⟩
abbrev cL_grudge : ByteArray := method_7_code
def yL_grudge : MethodName := ⟨RL, "grudge", "(LThimbleSwap;II[J)I"⟩
abbrev cL_thimble : ByteArray := method_8_code
def yL_thimble : MethodName := ⟨RL, "thimble", "(LThimbleSwap;II[J)I"⟩
abbrev cL_gains : ByteArray := method_9_code
def yL_gains : MethodName := ⟨RL, "gains", "(LThimbleSwap;II[J)I"⟩
abbrev cL_swap : ByteArray := method_10_code
def yL_swap : MethodName := ⟨RL, "swap", "(LThimbleSwap;II[J)I"⟩
abbrev cL_best : ByteArray := method_11_code
def yL_best : MethodName := ⟨RL, "best", "(LThimbleSwap;II[J)I"⟩
abbrev cL_ring : ByteArray := method_12_code
def yL_ring : MethodName := ⟨RL, "ring", "(LThimbleSwap;III[J)I"⟩
abbrev cL_fair : ByteArray := method_13_code
def yL_fair : MethodName := ⟨RL, "fair", "(LThimbleSwap;I[J)I"⟩
abbrev cL_lend : ByteArray := method_14_code
def yL_lend : MethodName := ⟨RL, "lend", "(LThimbleSwap;II[J)I"⟩
abbrev cL_shows : ByteArray := method_15_code
def yL_shows : MethodName := ⟨RL, "shows", "(LThimbleSwap;I[J)I"⟩
abbrev cL_lacks : ByteArray := method_16_code
def yL_lacks : MethodName := ⟨RL, "lacks", "(LThimbleSwap;I[J)I"⟩
abbrev cL_finest : ByteArray := method_17_code
def yL_finest : MethodName := ⟨RL, "finest", "(LThimbleSwap;I[J)I"⟩
abbrev cL_pass : ByteArray := method_18_code
def yL_pass : MethodName := ⟨RL, "pass", "(LThimbleSwap;I[J)I"⟩
abbrev cL_count : ByteArray := method_19_code
def yL_count : MethodName := ⟨RL, "count", "(LThimbleSwap;I[J)I"⟩
abbrev cL_law : ByteArray := code
def yL_law : MethodName := ⟨RL, "law", "([I)Z"⟩
def wsX0_init : List Cond := .code yX0_init cX0_init 1 none :: ([.methodLink RX0 1 objectInit, .instanceMethod objectInit, .code objectInit ⟨#[0xb1]⟩ 1 none, .arrayClass .int, .fieldLink RX0 9 "ThimbleSwap" "setOf" "[I", .fieldLink RX0 13 "ThimbleSwap" "numberOf" "[I", .fieldLink RX0 16 "ThimbleSwap" "hallmarkOf" "[I", .fieldLink RX0 19 "ThimbleSwap" "stateOf" "[I", .fieldLink RX0 22 "ThimbleSwap" "ownerOf" "[I", .fieldLink RX0 25 "ThimbleSwap" "lentTill" "[I", .fieldLink RX0 28 "ThimbleSwap" "lentFor" "[I", .classLink RX0 31 "[[I", .fieldLink RX0 33 "ThimbleSwap" "likings" "[[I", .fieldLink RX0 36 "ThimbleSwap" "grudges" "[[I", .fieldLink RX0 39 "ThimbleSwap" "swapsOf" "[I", .fieldLink RX0 42 "ThimbleSwap" "greatestStates" "[I"] ++ wsX00)
def wsJ7_fill_53178 : List Cond := .code yJ7_fill_53178 cJ7_fill_53178 4 none :: ([])
def wsX0_join : List Cond := .code yX0_join cX0_join 2 (some .int) :: ([.classLink RX0 49 "java/lang/IllegalStateException", .initialized "java/lang/IllegalStateException", .fieldLink RX0 45 "ThimbleSwap" "collectors" "I", .fieldLink RX0 33 "ThimbleSwap" "likings" "[[I", .methodLink RX0 56 yJ7_fill_53178, .static yJ7_fill_53178, .initialized RJ7, .code yJ7_fill_53178 cJ7_fill_53178 4 none] ++ wsX00 ++ (vx_atS RX0 53 "java/lang/IllegalStateException" ["java/lang/RuntimeException", "java/lang/Exception"]).filter goodWord)
def wsX0_isBelow : List Cond := .code yX0_isBelow cX0_isBelow 2 (some .boolean) :: ([])
def wsX0_requireCollector : List Cond := .code yX0_requireCollector cX0_requireCollector 2 none :: ([.classLink RX0 207 "java/lang/IndexOutOfBoundsException", .initialized "java/lang/IndexOutOfBoundsException", .fieldLink RX0 45 "ThimbleSwap" "collectors" "I", .methodLink RX0 66 yX0_isBelow, .static yX0_isBelow, .initialized RX0, .code yX0_isBelow cX0_isBelow 2 (some .boolean)] ++ wsX00 ++ (vx_atS RX0 211 "java/lang/IndexOutOfBoundsException" ["java/lang/RuntimeException", "java/lang/Exception"]).filter goodWord)
def wsX0_find : List Cond := .code yX0_find cX0_find 7 (some .int) :: ([.classLink RX0 70 "java/lang/IllegalArgumentException", .initialized "java/lang/IllegalArgumentException", .classLink RX0 49 "java/lang/IllegalStateException", .initialized "java/lang/IllegalStateException", .fieldLink RX0 75 "ThimbleSwap" "thimbles" "I", .fieldLink RX0 9 "ThimbleSwap" "setOf" "[I", .fieldLink RX0 13 "ThimbleSwap" "numberOf" "[I", .fieldLink RX0 16 "ThimbleSwap" "hallmarkOf" "[I", .fieldLink RX0 19 "ThimbleSwap" "stateOf" "[I", .fieldLink RX0 22 "ThimbleSwap" "ownerOf" "[I", .fieldLink RX0 25 "ThimbleSwap" "lentTill" "[I", .methodLink RX0 62 yX0_requireCollector, .instanceMethod yX0_requireCollector, .selects RX0 yX0_requireCollector yX0_requireCollector, .initialized RX0, .code yX0_requireCollector cX0_requireCollector 2 none, .classLink RX0 207 "java/lang/IndexOutOfBoundsException", .initialized "java/lang/IndexOutOfBoundsException", .fieldLink RX0 45 "ThimbleSwap" "collectors" "I", .methodLink RX0 66 yX0_isBelow, .static yX0_isBelow, .code yX0_isBelow cX0_isBelow 2 (some .boolean)] ++ wsX00 ++ (vx_atS RX0 74 "java/lang/IllegalArgumentException" ["java/lang/RuntimeException", "java/lang/Exception"]).filter goodWord ++ (vx_atS RX0 53 "java/lang/IllegalStateException" ["java/lang/RuntimeException", "java/lang/Exception"]).filter goodWord ++ (vx_atS RX0 211 "java/lang/IndexOutOfBoundsException" ["java/lang/RuntimeException", "java/lang/Exception"]).filter goodWord)
def wsX0_requireSet : List Cond := .code yX0_requireSet cX0_requireSet 1 none :: ([.classLink RX0 207 "java/lang/IndexOutOfBoundsException", .initialized "java/lang/IndexOutOfBoundsException", .methodLink RX0 66 yX0_isBelow, .static yX0_isBelow, .initialized RX0, .code yX0_isBelow cX0_isBelow 2 (some .boolean)] ++ (vx_atS RX0 211 "java/lang/IndexOutOfBoundsException" ["java/lang/RuntimeException", "java/lang/Exception"]).filter goodWord)
def wsX0_like : List Cond := .code yX0_like cX0_like 5 (some .int) :: ([.classLink RX0 70 "java/lang/IllegalArgumentException", .initialized "java/lang/IllegalArgumentException", .fieldLink RX0 33 "ThimbleSwap" "likings" "[[I", .methodLink RX0 62 yX0_requireCollector, .instanceMethod yX0_requireCollector, .selects RX0 yX0_requireCollector yX0_requireCollector, .initialized RX0, .code yX0_requireCollector cX0_requireCollector 2 none, .classLink RX0 207 "java/lang/IndexOutOfBoundsException", .initialized "java/lang/IndexOutOfBoundsException", .fieldLink RX0 45 "ThimbleSwap" "collectors" "I", .methodLink RX0 66 yX0_isBelow, .static yX0_isBelow, .code yX0_isBelow cX0_isBelow 2 (some .boolean), .methodLink RX0 80 yX0_requireSet, .static yX0_requireSet, .code yX0_requireSet cX0_requireSet 1 none] ++ wsX00 ++ (vx_atS RX0 74 "java/lang/IllegalArgumentException" ["java/lang/RuntimeException", "java/lang/Exception"]).filter goodWord ++ (vx_atS RX0 211 "java/lang/IndexOutOfBoundsException" ["java/lang/RuntimeException", "java/lang/Exception"]).filter goodWord)
def wsX0_requireRow : List Cond := .code yX0_requireRow cX0_requireRow 2 none :: ([.classLink RX0 207 "java/lang/IndexOutOfBoundsException", .initialized "java/lang/IndexOutOfBoundsException", .methodLink RX0 66 yX0_isBelow, .static yX0_isBelow, .initialized RX0, .code yX0_isBelow cX0_isBelow 2 (some .boolean)] ++ (vx_atS RX0 211 "java/lang/IndexOutOfBoundsException" ["java/lang/RuntimeException", "java/lang/Exception"]).filter goodWord)
def wsX0_thimblesOf : List Cond := .code yX0_thimblesOf cX0_thimblesOf 4 (some .int) :: ([.fieldLink RX0 75 "ThimbleSwap" "thimbles" "I", .fieldLink RX0 22 "ThimbleSwap" "ownerOf" "[I"] ++ wsX00)
def wsX0_isLent : List Cond := .code yX0_isLent cX0_isLent 2 (some .boolean) :: ([.fieldLink RX0 25 "ThimbleSwap" "lentTill" "[I"] ++ wsX00)
def wsX0_thimblesLentBy : List Cond := .code yX0_thimblesLentBy cX0_thimblesLentBy 4 (some .int) :: ([.fieldLink RX0 75 "ThimbleSwap" "thimbles" "I", .fieldLink RX0 22 "ThimbleSwap" "ownerOf" "[I", .methodLink RX0 220 yX0_isLent, .instanceMethod yX0_isLent, .selects RX0 yX0_isLent yX0_isLent, .initialized RX0, .code yX0_isLent cX0_isLent 2 (some .boolean), .fieldLink RX0 25 "ThimbleSwap" "lentTill" "[I"] ++ wsX00)
def wsX0_layOut : List Cond := .code yX0_layOut cX0_layOut 6 none :: ([.fieldLink RX0 42 "ThimbleSwap" "greatestStates" "[I", .fieldLink RX0 230 "ThimbleSwap" "hallmarksLaidOut" "I", .fieldLink RX0 75 "ThimbleSwap" "thimbles" "I", .fieldLink RX0 22 "ThimbleSwap" "ownerOf" "[I", .fieldLink RX0 9 "ThimbleSwap" "setOf" "[I", .fieldLink RX0 13 "ThimbleSwap" "numberOf" "[I", .fieldLink RX0 19 "ThimbleSwap" "stateOf" "[I", .methodLink RX0 233 Lib.Math.max.name, .static Lib.Math.max.name, .initialized "java/lang/Math", .code Lib.Math.max.name Lib.Math.max.code 2 (some .int), .fieldLink RX0 16 "ThimbleSwap" "hallmarkOf" "[I", .methodLink RX0 56 yJ7_fill_53178, .static yJ7_fill_53178, .initialized RJ7, .code yJ7_fill_53178 cJ7_fill_53178 4 none] ++ wsX00)
def wsX0_layOutOwn : List Cond := .code yX0_layOutOwn cX0_layOutOwn 2 none :: ([.methodLink RX0 226 yX0_layOut, .instanceMethod yX0_layOut, .selects RX0 yX0_layOut yX0_layOut, .initialized RX0, .code yX0_layOut cX0_layOut 6 none, .fieldLink RX0 42 "ThimbleSwap" "greatestStates" "[I", .fieldLink RX0 230 "ThimbleSwap" "hallmarksLaidOut" "I", .fieldLink RX0 75 "ThimbleSwap" "thimbles" "I", .fieldLink RX0 22 "ThimbleSwap" "ownerOf" "[I", .fieldLink RX0 9 "ThimbleSwap" "setOf" "[I", .fieldLink RX0 13 "ThimbleSwap" "numberOf" "[I", .fieldLink RX0 19 "ThimbleSwap" "stateOf" "[I", .methodLink RX0 233 Lib.Math.max.name, .static Lib.Math.max.name, .initialized "java/lang/Math", .code Lib.Math.max.name Lib.Math.max.code 2 (some .int), .fieldLink RX0 16 "ThimbleSwap" "hallmarkOf" "[I", .methodLink RX0 56 yJ7_fill_53178, .static yJ7_fill_53178, .initialized RJ7, .code yJ7_fill_53178 cJ7_fill_53178 4 none] ++ wsX00)
def wsJ6_bitCount_0f7a4 : List Cond := .code yJ6_bitCount_0f7a4 cJ6_bitCount_0f7a4 1 (some .int) :: ([.constant RJ6 265 (1431655765), .constant RJ6 266 (858993459), .constant RJ6 267 (252645135)])
def wsX0_differentHallmarks_r1 : List Cond := [Cond.fieldLink RX0 230 "ThimbleSwap" "hallmarksLaidOut" "I", Cond.methodLink RX0 164 yX0_layOutOwn, Cond.instanceMethod yX0_layOutOwn, Cond.selects RX0 yX0_layOutOwn yX0_layOutOwn, Cond.initialized RX0, Cond.code yX0_layOutOwn cX0_layOutOwn 2 none, Cond.methodLink RX0 226 yX0_layOut, Cond.instanceMethod yX0_layOut, Cond.selects RX0 yX0_layOut yX0_layOut, Cond.code yX0_layOut cX0_layOut 6 none, Cond.fieldLink RX0 42 "ThimbleSwap" "greatestStates" "[I", Cond.fieldLink RX0 75 "ThimbleSwap" "thimbles" "I", Cond.fieldLink RX0 22 "ThimbleSwap" "ownerOf" "[I", Cond.fieldLink RX0 9 "ThimbleSwap" "setOf" "[I", Cond.fieldLink RX0 13 "ThimbleSwap" "numberOf" "[I", Cond.fieldLink RX0 19 "ThimbleSwap" "stateOf" "[I", Cond.methodLink RX0 233 Lib.Math.max.name, Cond.static Lib.Math.max.name, Cond.initialized "java/lang/Math", Cond.code Lib.Math.max.name Lib.Math.max.code 2 (some .int), Cond.fieldLink RX0 16 "ThimbleSwap" "hallmarkOf" "[I", Cond.methodLink RX0 56 yJ7_fill_53178, Cond.static yJ7_fill_53178, Cond.initialized RJ7]
def wsX0_differentHallmarks_r2 : List Cond := [Cond.code yJ7_fill_53178 cJ7_fill_53178 4 none, Cond.methodLink RX0 156 yJ6_bitCount_0f7a4, Cond.static yJ6_bitCount_0f7a4, Cond.initialized RJ6, Cond.code yJ6_bitCount_0f7a4 cJ6_bitCount_0f7a4 1 (some .int), Cond.constant RJ6 265 (1431655765), Cond.constant RJ6 266 (858993459), Cond.constant RJ6 267 (252645135)]
def wsX0_differentHallmarks : List Cond := .code yX0_differentHallmarks cX0_differentHallmarks 2 (some .int) :: ((wsX0_differentHallmarks_r1 ++ wsX0_differentHallmarks_r2) ++ wsX00)
def wsX0_numbersLaidOut : List Cond := .code yX0_numbersLaidOut cX0_numbersLaidOut 4 (some .int) :: ([.fieldLink RX0 42 "ThimbleSwap" "greatestStates" "[I"] ++ wsX00)
def wsX0_statesLaidOut : List Cond := .code yX0_statesLaidOut cX0_statesLaidOut 4 (some .int) :: ([.fieldLink RX0 42 "ThimbleSwap" "greatestStates" "[I", .methodLink RX0 233 Lib.Math.max.name, .static Lib.Math.max.name, .initialized "java/lang/Math", .code Lib.Math.max.name Lib.Math.max.code 2 (some .int)] ++ wsX00)
def wsX0_worthLaidOut : List Cond := .code yX0_worthLaidOut cX0_worthLaidOut 5 (some .int) :: ([.fieldLink RX0 230 "ThimbleSwap" "hallmarksLaidOut" "I", .fieldLink RX0 33 "ThimbleSwap" "likings" "[[I", .methodLink RX0 156 yJ6_bitCount_0f7a4, .static yJ6_bitCount_0f7a4, .initialized RJ6, .code yJ6_bitCount_0f7a4 cJ6_bitCount_0f7a4 1 (some .int), .constant RJ6 265 (1431655765), .constant RJ6 266 (858993459), .constant RJ6 267 (252645135), .methodLink RX0 167 yX0_numbersLaidOut, .instanceMethod yX0_numbersLaidOut, .selects RX0 yX0_numbersLaidOut yX0_numbersLaidOut, .initialized RX0, .code yX0_numbersLaidOut cX0_numbersLaidOut 4 (some .int), .fieldLink RX0 42 "ThimbleSwap" "greatestStates" "[I", .methodLink RX0 170 yX0_statesLaidOut, .instanceMethod yX0_statesLaidOut, .selects RX0 yX0_statesLaidOut yX0_statesLaidOut, .code yX0_statesLaidOut cX0_statesLaidOut 4 (some .int), .methodLink RX0 233 Lib.Math.max.name, .static Lib.Math.max.name, .initialized "java/lang/Math", .code Lib.Math.max.name Lib.Math.max.code 2 (some .int)] ++ wsX00)
def wsX0_worthNow_r1 : List Cond := [Cond.methodLink RX0 164 yX0_layOutOwn, Cond.instanceMethod yX0_layOutOwn, Cond.selects RX0 yX0_layOutOwn yX0_layOutOwn, Cond.initialized RX0, Cond.code yX0_layOutOwn cX0_layOutOwn 2 none, Cond.methodLink RX0 226 yX0_layOut, Cond.instanceMethod yX0_layOut, Cond.selects RX0 yX0_layOut yX0_layOut, Cond.code yX0_layOut cX0_layOut 6 none, Cond.fieldLink RX0 42 "ThimbleSwap" "greatestStates" "[I", Cond.fieldLink RX0 230 "ThimbleSwap" "hallmarksLaidOut" "I", Cond.fieldLink RX0 75 "ThimbleSwap" "thimbles" "I", Cond.fieldLink RX0 22 "ThimbleSwap" "ownerOf" "[I", Cond.fieldLink RX0 9 "ThimbleSwap" "setOf" "[I", Cond.fieldLink RX0 13 "ThimbleSwap" "numberOf" "[I", Cond.fieldLink RX0 19 "ThimbleSwap" "stateOf" "[I", Cond.methodLink RX0 233 Lib.Math.max.name, Cond.static Lib.Math.max.name, Cond.initialized "java/lang/Math", Cond.code Lib.Math.max.name Lib.Math.max.code 2 (some .int), Cond.fieldLink RX0 16 "ThimbleSwap" "hallmarkOf" "[I", Cond.methodLink RX0 56 yJ7_fill_53178, Cond.static yJ7_fill_53178, Cond.initialized RJ7]
def wsX0_worthNow_r2 : List Cond := [Cond.code yJ7_fill_53178 cJ7_fill_53178 4 none, Cond.methodLink RX0 238 yX0_worthLaidOut, Cond.instanceMethod yX0_worthLaidOut, Cond.selects RX0 yX0_worthLaidOut yX0_worthLaidOut, Cond.code yX0_worthLaidOut cX0_worthLaidOut 5 (some .int), Cond.fieldLink RX0 33 "ThimbleSwap" "likings" "[[I", Cond.methodLink RX0 156 yJ6_bitCount_0f7a4, Cond.static yJ6_bitCount_0f7a4, Cond.initialized RJ6, Cond.code yJ6_bitCount_0f7a4 cJ6_bitCount_0f7a4 1 (some .int), Cond.constant RJ6 265 (1431655765), Cond.constant RJ6 266 (858993459), Cond.constant RJ6 267 (252645135), Cond.methodLink RX0 167 yX0_numbersLaidOut, Cond.instanceMethod yX0_numbersLaidOut, Cond.selects RX0 yX0_numbersLaidOut yX0_numbersLaidOut, Cond.code yX0_numbersLaidOut cX0_numbersLaidOut 4 (some .int), Cond.methodLink RX0 170 yX0_statesLaidOut, Cond.instanceMethod yX0_statesLaidOut, Cond.selects RX0 yX0_statesLaidOut yX0_statesLaidOut, Cond.code yX0_statesLaidOut cX0_statesLaidOut 4 (some .int)]
def wsX0_worthNow : List Cond := .code yX0_worthNow cX0_worthNow 2 (some .int) :: ((wsX0_worthNow_r1 ++ wsX0_worthNow_r2) ++ wsX00)
def wsX0_wholeSets_r1 : List Cond := [Cond.methodLink RX0 164 yX0_layOutOwn, Cond.instanceMethod yX0_layOutOwn, Cond.selects RX0 yX0_layOutOwn yX0_layOutOwn, Cond.initialized RX0, Cond.code yX0_layOutOwn cX0_layOutOwn 2 none, Cond.methodLink RX0 226 yX0_layOut, Cond.instanceMethod yX0_layOut, Cond.selects RX0 yX0_layOut yX0_layOut, Cond.code yX0_layOut cX0_layOut 6 none, Cond.fieldLink RX0 42 "ThimbleSwap" "greatestStates" "[I", Cond.fieldLink RX0 230 "ThimbleSwap" "hallmarksLaidOut" "I", Cond.fieldLink RX0 75 "ThimbleSwap" "thimbles" "I", Cond.fieldLink RX0 22 "ThimbleSwap" "ownerOf" "[I", Cond.fieldLink RX0 9 "ThimbleSwap" "setOf" "[I", Cond.fieldLink RX0 13 "ThimbleSwap" "numberOf" "[I", Cond.fieldLink RX0 19 "ThimbleSwap" "stateOf" "[I", Cond.methodLink RX0 233 Lib.Math.max.name, Cond.static Lib.Math.max.name, Cond.initialized "java/lang/Math", Cond.code Lib.Math.max.name Lib.Math.max.code 2 (some .int), Cond.fieldLink RX0 16 "ThimbleSwap" "hallmarkOf" "[I", Cond.methodLink RX0 56 yJ7_fill_53178, Cond.static yJ7_fill_53178, Cond.initialized RJ7]
def wsX0_wholeSets_r2 : List Cond := [Cond.code yJ7_fill_53178 cJ7_fill_53178 4 none, Cond.methodLink RX0 167 yX0_numbersLaidOut, Cond.instanceMethod yX0_numbersLaidOut, Cond.selects RX0 yX0_numbersLaidOut yX0_numbersLaidOut, Cond.code yX0_numbersLaidOut cX0_numbersLaidOut 4 (some .int)]
def wsX0_wholeSets : List Cond := .code yX0_wholeSets cX0_wholeSets 4 (some .int) :: ((wsX0_wholeSets_r1 ++ wsX0_wholeSets_r2) ++ wsX00)
def wsX0_allGrudgesOf : List Cond := .code yX0_allGrudgesOf cX0_allGrudgesOf 4 (some .int) :: ([.fieldLink RX0 45 "ThimbleSwap" "collectors" "I", .fieldLink RX0 36 "ThimbleSwap" "grudges" "[[I"] ++ wsX00)
def wsX0_collector_r1 : List Cond := [Cond.fieldLink RX0 39 "ThimbleSwap" "swapsOf" "[I", Cond.methodLink RX0 62 yX0_requireCollector, Cond.instanceMethod yX0_requireCollector, Cond.selects RX0 yX0_requireCollector yX0_requireCollector, Cond.initialized RX0, Cond.code yX0_requireCollector cX0_requireCollector 2 none, Cond.classLink RX0 207 "java/lang/IndexOutOfBoundsException", Cond.initialized "java/lang/IndexOutOfBoundsException", Cond.fieldLink RX0 45 "ThimbleSwap" "collectors" "I", Cond.methodLink RX0 66 yX0_isBelow, Cond.static yX0_isBelow, Cond.code yX0_isBelow cX0_isBelow 2 (some .boolean), Cond.methodLink RX0 85 yX0_requireRow, Cond.static yX0_requireRow, Cond.code yX0_requireRow cX0_requireRow 2 none, Cond.methodLink RX0 89 yX0_thimblesOf, Cond.instanceMethod yX0_thimblesOf, Cond.selects RX0 yX0_thimblesOf yX0_thimblesOf, Cond.code yX0_thimblesOf cX0_thimblesOf 4 (some .int), Cond.fieldLink RX0 75 "ThimbleSwap" "thimbles" "I", Cond.fieldLink RX0 22 "ThimbleSwap" "ownerOf" "[I", Cond.methodLink RX0 93 yX0_thimblesLentBy, Cond.instanceMethod yX0_thimblesLentBy, Cond.selects RX0 yX0_thimblesLentBy yX0_thimblesLentBy]
def wsX0_collector_r2 : List Cond := [Cond.code yX0_thimblesLentBy cX0_thimblesLentBy 4 (some .int), Cond.methodLink RX0 220 yX0_isLent, Cond.instanceMethod yX0_isLent, Cond.selects RX0 yX0_isLent yX0_isLent, Cond.code yX0_isLent cX0_isLent 2 (some .boolean), Cond.fieldLink RX0 25 "ThimbleSwap" "lentTill" "[I", Cond.methodLink RX0 96 yX0_differentHallmarks, Cond.instanceMethod yX0_differentHallmarks, Cond.selects RX0 yX0_differentHallmarks yX0_differentHallmarks, Cond.code yX0_differentHallmarks cX0_differentHallmarks 2 (some .int), Cond.fieldLink RX0 230 "ThimbleSwap" "hallmarksLaidOut" "I", Cond.methodLink RX0 164 yX0_layOutOwn, Cond.instanceMethod yX0_layOutOwn, Cond.selects RX0 yX0_layOutOwn yX0_layOutOwn, Cond.code yX0_layOutOwn cX0_layOutOwn 2 none, Cond.methodLink RX0 226 yX0_layOut, Cond.instanceMethod yX0_layOut, Cond.selects RX0 yX0_layOut yX0_layOut, Cond.code yX0_layOut cX0_layOut 6 none, Cond.fieldLink RX0 42 "ThimbleSwap" "greatestStates" "[I", Cond.fieldLink RX0 9 "ThimbleSwap" "setOf" "[I", Cond.fieldLink RX0 13 "ThimbleSwap" "numberOf" "[I", Cond.fieldLink RX0 19 "ThimbleSwap" "stateOf" "[I", Cond.methodLink RX0 233 Lib.Math.max.name]
def wsX0_collector_r3 : List Cond := [Cond.static Lib.Math.max.name, Cond.initialized "java/lang/Math", Cond.code Lib.Math.max.name Lib.Math.max.code 2 (some .int), Cond.fieldLink RX0 16 "ThimbleSwap" "hallmarkOf" "[I", Cond.methodLink RX0 56 yJ7_fill_53178, Cond.static yJ7_fill_53178, Cond.initialized RJ7, Cond.code yJ7_fill_53178 cJ7_fill_53178 4 none, Cond.methodLink RX0 156 yJ6_bitCount_0f7a4, Cond.static yJ6_bitCount_0f7a4, Cond.initialized RJ6, Cond.code yJ6_bitCount_0f7a4 cJ6_bitCount_0f7a4 1 (some .int), Cond.constant RJ6 265 (1431655765), Cond.constant RJ6 266 (858993459), Cond.constant RJ6 267 (252645135), Cond.methodLink RX0 99 yX0_worthNow, Cond.instanceMethod yX0_worthNow, Cond.selects RX0 yX0_worthNow yX0_worthNow, Cond.code yX0_worthNow cX0_worthNow 2 (some .int), Cond.methodLink RX0 238 yX0_worthLaidOut, Cond.instanceMethod yX0_worthLaidOut, Cond.selects RX0 yX0_worthLaidOut yX0_worthLaidOut, Cond.code yX0_worthLaidOut cX0_worthLaidOut 5 (some .int), Cond.fieldLink RX0 33 "ThimbleSwap" "likings" "[[I"]
def wsX0_collector_r4 : List Cond := [Cond.methodLink RX0 167 yX0_numbersLaidOut, Cond.instanceMethod yX0_numbersLaidOut, Cond.selects RX0 yX0_numbersLaidOut yX0_numbersLaidOut, Cond.code yX0_numbersLaidOut cX0_numbersLaidOut 4 (some .int), Cond.methodLink RX0 170 yX0_statesLaidOut, Cond.instanceMethod yX0_statesLaidOut, Cond.selects RX0 yX0_statesLaidOut yX0_statesLaidOut, Cond.code yX0_statesLaidOut cX0_statesLaidOut 4 (some .int), Cond.methodLink RX0 102 yX0_wholeSets, Cond.instanceMethod yX0_wholeSets, Cond.selects RX0 yX0_wholeSets yX0_wholeSets, Cond.code yX0_wholeSets cX0_wholeSets 4 (some .int), Cond.methodLink RX0 105 yX0_allGrudgesOf, Cond.instanceMethod yX0_allGrudgesOf, Cond.selects RX0 yX0_allGrudgesOf yX0_allGrudgesOf, Cond.code yX0_allGrudgesOf cX0_allGrudgesOf 4 (some .int), Cond.fieldLink RX0 36 "ThimbleSwap" "grudges" "[[I"]
def wsX0_collector : List Cond := .code yX0_collector cX0_collector 3 (some .int) :: ((wsX0_collector_r1 ++ (wsX0_collector_r2 ++ (wsX0_collector_r3 ++ wsX0_collector_r4))) ++ wsX00 ++ (vx_atS RX0 211 "java/lang/IndexOutOfBoundsException" ["java/lang/RuntimeException", "java/lang/Exception"]).filter goodWord)
def wsX0_grudge : List Cond := .code yX0_grudge cX0_grudge 3 (some .int) :: ([.fieldLink RX0 36 "ThimbleSwap" "grudges" "[[I", .methodLink RX0 62 yX0_requireCollector, .instanceMethod yX0_requireCollector, .selects RX0 yX0_requireCollector yX0_requireCollector, .initialized RX0, .code yX0_requireCollector cX0_requireCollector 2 none, .classLink RX0 207 "java/lang/IndexOutOfBoundsException", .initialized "java/lang/IndexOutOfBoundsException", .fieldLink RX0 45 "ThimbleSwap" "collectors" "I", .methodLink RX0 66 yX0_isBelow, .static yX0_isBelow, .code yX0_isBelow cX0_isBelow 2 (some .boolean)] ++ wsX00 ++ (vx_atS RX0 211 "java/lang/IndexOutOfBoundsException" ["java/lang/RuntimeException", "java/lang/Exception"]).filter goodWord)
def wsX0_requireThimble : List Cond := .code yX0_requireThimble cX0_requireThimble 2 none :: ([.classLink RX0 207 "java/lang/IndexOutOfBoundsException", .initialized "java/lang/IndexOutOfBoundsException", .fieldLink RX0 75 "ThimbleSwap" "thimbles" "I", .methodLink RX0 66 yX0_isBelow, .static yX0_isBelow, .initialized RX0, .code yX0_isBelow cX0_isBelow 2 (some .boolean)] ++ wsX00 ++ (vx_atS RX0 211 "java/lang/IndexOutOfBoundsException" ["java/lang/RuntimeException", "java/lang/Exception"]).filter goodWord)
def wsX0_thimble : List Cond := .code yX0_thimble cX0_thimble 3 (some .int) :: ([.fieldLink RX0 9 "ThimbleSwap" "setOf" "[I", .fieldLink RX0 13 "ThimbleSwap" "numberOf" "[I", .fieldLink RX0 16 "ThimbleSwap" "hallmarkOf" "[I", .fieldLink RX0 19 "ThimbleSwap" "stateOf" "[I", .fieldLink RX0 22 "ThimbleSwap" "ownerOf" "[I", .fieldLink RX0 25 "ThimbleSwap" "lentTill" "[I", .methodLink RX0 108 yX0_requireThimble, .instanceMethod yX0_requireThimble, .selects RX0 yX0_requireThimble yX0_requireThimble, .initialized RX0, .code yX0_requireThimble cX0_requireThimble 2 none, .classLink RX0 207 "java/lang/IndexOutOfBoundsException", .initialized "java/lang/IndexOutOfBoundsException", .fieldLink RX0 75 "ThimbleSwap" "thimbles" "I", .methodLink RX0 66 yX0_isBelow, .static yX0_isBelow, .code yX0_isBelow cX0_isBelow 2 (some .boolean), .methodLink RX0 85 yX0_requireRow, .static yX0_requireRow, .code yX0_requireRow cX0_requireRow 2 none] ++ wsX00 ++ (vx_atS RX0 211 "java/lang/IndexOutOfBoundsException" ["java/lang/RuntimeException", "java/lang/Exception"]).filter goodWord)
def wsX0_requireTwoOwners : List Cond := .code yX0_requireTwoOwners cX0_requireTwoOwners 3 none :: ([.classLink RX0 70 "java/lang/IllegalArgumentException", .initialized "java/lang/IllegalArgumentException", .fieldLink RX0 22 "ThimbleSwap" "ownerOf" "[I"] ++ wsX00 ++ (vx_atS RX0 74 "java/lang/IllegalArgumentException" ["java/lang/RuntimeException", "java/lang/Exception"]).filter goodWord)
def wsX0_worthAfter_r1 : List Cond := [Cond.methodLink RX0 226 yX0_layOut, Cond.instanceMethod yX0_layOut, Cond.selects RX0 yX0_layOut yX0_layOut, Cond.initialized RX0, Cond.code yX0_layOut cX0_layOut 6 none, Cond.fieldLink RX0 42 "ThimbleSwap" "greatestStates" "[I", Cond.fieldLink RX0 230 "ThimbleSwap" "hallmarksLaidOut" "I", Cond.fieldLink RX0 75 "ThimbleSwap" "thimbles" "I", Cond.fieldLink RX0 22 "ThimbleSwap" "ownerOf" "[I", Cond.fieldLink RX0 9 "ThimbleSwap" "setOf" "[I", Cond.fieldLink RX0 13 "ThimbleSwap" "numberOf" "[I", Cond.fieldLink RX0 19 "ThimbleSwap" "stateOf" "[I", Cond.methodLink RX0 233 Lib.Math.max.name, Cond.static Lib.Math.max.name, Cond.initialized "java/lang/Math", Cond.code Lib.Math.max.name Lib.Math.max.code 2 (some .int), Cond.fieldLink RX0 16 "ThimbleSwap" "hallmarkOf" "[I", Cond.methodLink RX0 56 yJ7_fill_53178, Cond.static yJ7_fill_53178, Cond.initialized RJ7, Cond.code yJ7_fill_53178 cJ7_fill_53178 4 none, Cond.methodLink RX0 238 yX0_worthLaidOut, Cond.instanceMethod yX0_worthLaidOut, Cond.selects RX0 yX0_worthLaidOut yX0_worthLaidOut]
def wsX0_worthAfter_r2 : List Cond := [Cond.code yX0_worthLaidOut cX0_worthLaidOut 5 (some .int), Cond.fieldLink RX0 33 "ThimbleSwap" "likings" "[[I", Cond.methodLink RX0 156 yJ6_bitCount_0f7a4, Cond.static yJ6_bitCount_0f7a4, Cond.initialized RJ6, Cond.code yJ6_bitCount_0f7a4 cJ6_bitCount_0f7a4 1 (some .int), Cond.constant RJ6 265 (1431655765), Cond.constant RJ6 266 (858993459), Cond.constant RJ6 267 (252645135), Cond.methodLink RX0 167 yX0_numbersLaidOut, Cond.instanceMethod yX0_numbersLaidOut, Cond.selects RX0 yX0_numbersLaidOut yX0_numbersLaidOut, Cond.code yX0_numbersLaidOut cX0_numbersLaidOut 4 (some .int), Cond.methodLink RX0 170 yX0_statesLaidOut, Cond.instanceMethod yX0_statesLaidOut, Cond.selects RX0 yX0_statesLaidOut yX0_statesLaidOut, Cond.code yX0_statesLaidOut cX0_statesLaidOut 4 (some .int)]
def wsX0_worthAfter : List Cond := .code yX0_worthAfter cX0_worthAfter 4 (some .int) :: ((wsX0_worthAfter_r1 ++ wsX0_worthAfter_r2) ++ wsX00)
def wsX0_gainOfOwner_r1 : List Cond := [Cond.fieldLink RX0 22 "ThimbleSwap" "ownerOf" "[I", Cond.methodLink RX0 241 yX0_worthAfter, Cond.instanceMethod yX0_worthAfter, Cond.selects RX0 yX0_worthAfter yX0_worthAfter, Cond.initialized RX0, Cond.code yX0_worthAfter cX0_worthAfter 4 (some .int), Cond.methodLink RX0 226 yX0_layOut, Cond.instanceMethod yX0_layOut, Cond.selects RX0 yX0_layOut yX0_layOut, Cond.code yX0_layOut cX0_layOut 6 none, Cond.fieldLink RX0 42 "ThimbleSwap" "greatestStates" "[I", Cond.fieldLink RX0 230 "ThimbleSwap" "hallmarksLaidOut" "I", Cond.fieldLink RX0 75 "ThimbleSwap" "thimbles" "I", Cond.fieldLink RX0 9 "ThimbleSwap" "setOf" "[I", Cond.fieldLink RX0 13 "ThimbleSwap" "numberOf" "[I", Cond.fieldLink RX0 19 "ThimbleSwap" "stateOf" "[I", Cond.methodLink RX0 233 Lib.Math.max.name, Cond.static Lib.Math.max.name, Cond.initialized "java/lang/Math", Cond.code Lib.Math.max.name Lib.Math.max.code 2 (some .int), Cond.fieldLink RX0 16 "ThimbleSwap" "hallmarkOf" "[I", Cond.methodLink RX0 56 yJ7_fill_53178, Cond.static yJ7_fill_53178, Cond.initialized RJ7]
def wsX0_gainOfOwner_r2 : List Cond := [Cond.code yJ7_fill_53178 cJ7_fill_53178 4 none, Cond.methodLink RX0 238 yX0_worthLaidOut, Cond.instanceMethod yX0_worthLaidOut, Cond.selects RX0 yX0_worthLaidOut yX0_worthLaidOut, Cond.code yX0_worthLaidOut cX0_worthLaidOut 5 (some .int), Cond.fieldLink RX0 33 "ThimbleSwap" "likings" "[[I", Cond.methodLink RX0 156 yJ6_bitCount_0f7a4, Cond.static yJ6_bitCount_0f7a4, Cond.initialized RJ6, Cond.code yJ6_bitCount_0f7a4 cJ6_bitCount_0f7a4 1 (some .int), Cond.constant RJ6 265 (1431655765), Cond.constant RJ6 266 (858993459), Cond.constant RJ6 267 (252645135), Cond.methodLink RX0 167 yX0_numbersLaidOut, Cond.instanceMethod yX0_numbersLaidOut, Cond.selects RX0 yX0_numbersLaidOut yX0_numbersLaidOut, Cond.code yX0_numbersLaidOut cX0_numbersLaidOut 4 (some .int), Cond.methodLink RX0 170 yX0_statesLaidOut, Cond.instanceMethod yX0_statesLaidOut, Cond.selects RX0 yX0_statesLaidOut yX0_statesLaidOut, Cond.code yX0_statesLaidOut cX0_statesLaidOut 4 (some .int), Cond.methodLink RX0 99 yX0_worthNow, Cond.instanceMethod yX0_worthNow, Cond.selects RX0 yX0_worthNow yX0_worthNow]
def wsX0_gainOfOwner_r3 : List Cond := [Cond.code yX0_worthNow cX0_worthNow 2 (some .int), Cond.methodLink RX0 164 yX0_layOutOwn, Cond.instanceMethod yX0_layOutOwn, Cond.selects RX0 yX0_layOutOwn yX0_layOutOwn, Cond.code yX0_layOutOwn cX0_layOutOwn 2 none]
def wsX0_gainOfOwner : List Cond := .code yX0_gainOfOwner cX0_gainOfOwner 4 (some .int) :: ((wsX0_gainOfOwner_r1 ++ (wsX0_gainOfOwner_r2 ++ wsX0_gainOfOwner_r3)) ++ wsX00)
def wsX0_gains_r1 : List Cond := [Cond.methodLink RX0 108 yX0_requireThimble, Cond.instanceMethod yX0_requireThimble, Cond.selects RX0 yX0_requireThimble yX0_requireThimble, Cond.initialized RX0, Cond.code yX0_requireThimble cX0_requireThimble 2 none, Cond.classLink RX0 207 "java/lang/IndexOutOfBoundsException", Cond.initialized "java/lang/IndexOutOfBoundsException", Cond.fieldLink RX0 75 "ThimbleSwap" "thimbles" "I", Cond.methodLink RX0 66 yX0_isBelow, Cond.static yX0_isBelow, Cond.code yX0_isBelow cX0_isBelow 2 (some .boolean), Cond.methodLink RX0 111 yX0_requireTwoOwners, Cond.instanceMethod yX0_requireTwoOwners, Cond.selects RX0 yX0_requireTwoOwners yX0_requireTwoOwners, Cond.code yX0_requireTwoOwners cX0_requireTwoOwners 3 none, Cond.classLink RX0 70 "java/lang/IllegalArgumentException", Cond.initialized "java/lang/IllegalArgumentException", Cond.fieldLink RX0 22 "ThimbleSwap" "ownerOf" "[I", Cond.methodLink RX0 114 yX0_gainOfOwner, Cond.instanceMethod yX0_gainOfOwner, Cond.selects RX0 yX0_gainOfOwner yX0_gainOfOwner, Cond.code yX0_gainOfOwner cX0_gainOfOwner 4 (some .int), Cond.methodLink RX0 241 yX0_worthAfter, Cond.instanceMethod yX0_worthAfter]
def wsX0_gains_r2 : List Cond := [Cond.selects RX0 yX0_worthAfter yX0_worthAfter, Cond.code yX0_worthAfter cX0_worthAfter 4 (some .int), Cond.methodLink RX0 226 yX0_layOut, Cond.instanceMethod yX0_layOut, Cond.selects RX0 yX0_layOut yX0_layOut, Cond.code yX0_layOut cX0_layOut 6 none, Cond.fieldLink RX0 42 "ThimbleSwap" "greatestStates" "[I", Cond.fieldLink RX0 230 "ThimbleSwap" "hallmarksLaidOut" "I", Cond.fieldLink RX0 9 "ThimbleSwap" "setOf" "[I", Cond.fieldLink RX0 13 "ThimbleSwap" "numberOf" "[I", Cond.fieldLink RX0 19 "ThimbleSwap" "stateOf" "[I", Cond.methodLink RX0 233 Lib.Math.max.name, Cond.static Lib.Math.max.name, Cond.initialized "java/lang/Math", Cond.code Lib.Math.max.name Lib.Math.max.code 2 (some .int), Cond.fieldLink RX0 16 "ThimbleSwap" "hallmarkOf" "[I", Cond.methodLink RX0 56 yJ7_fill_53178, Cond.static yJ7_fill_53178, Cond.initialized RJ7, Cond.code yJ7_fill_53178 cJ7_fill_53178 4 none, Cond.methodLink RX0 238 yX0_worthLaidOut, Cond.instanceMethod yX0_worthLaidOut, Cond.selects RX0 yX0_worthLaidOut yX0_worthLaidOut, Cond.code yX0_worthLaidOut cX0_worthLaidOut 5 (some .int)]
def wsX0_gains_r3 : List Cond := [Cond.fieldLink RX0 33 "ThimbleSwap" "likings" "[[I", Cond.methodLink RX0 156 yJ6_bitCount_0f7a4, Cond.static yJ6_bitCount_0f7a4, Cond.initialized RJ6, Cond.code yJ6_bitCount_0f7a4 cJ6_bitCount_0f7a4 1 (some .int), Cond.constant RJ6 265 (1431655765), Cond.constant RJ6 266 (858993459), Cond.constant RJ6 267 (252645135), Cond.methodLink RX0 167 yX0_numbersLaidOut, Cond.instanceMethod yX0_numbersLaidOut, Cond.selects RX0 yX0_numbersLaidOut yX0_numbersLaidOut, Cond.code yX0_numbersLaidOut cX0_numbersLaidOut 4 (some .int), Cond.methodLink RX0 170 yX0_statesLaidOut, Cond.instanceMethod yX0_statesLaidOut, Cond.selects RX0 yX0_statesLaidOut yX0_statesLaidOut, Cond.code yX0_statesLaidOut cX0_statesLaidOut 4 (some .int), Cond.methodLink RX0 99 yX0_worthNow, Cond.instanceMethod yX0_worthNow, Cond.selects RX0 yX0_worthNow yX0_worthNow, Cond.code yX0_worthNow cX0_worthNow 2 (some .int), Cond.methodLink RX0 164 yX0_layOutOwn, Cond.instanceMethod yX0_layOutOwn, Cond.selects RX0 yX0_layOutOwn yX0_layOutOwn, Cond.code yX0_layOutOwn cX0_layOutOwn 2 none]
def wsX0_gains : List Cond := .code yX0_gains cX0_gains 3 (some .int) :: ((wsX0_gains_r1 ++ (wsX0_gains_r2 ++ wsX0_gains_r3)) ++ wsX00 ++ (vx_atS RX0 211 "java/lang/IndexOutOfBoundsException" ["java/lang/RuntimeException", "java/lang/Exception"]).filter goodWord ++ (vx_atS RX0 74 "java/lang/IllegalArgumentException" ["java/lang/RuntimeException", "java/lang/Exception"]).filter goodWord)
def wsX0_requireAtHome : List Cond := .code yX0_requireAtHome cX0_requireAtHome 2 none :: ([.classLink RX0 49 "java/lang/IllegalStateException", .initialized "java/lang/IllegalStateException", .methodLink RX0 220 yX0_isLent, .instanceMethod yX0_isLent, .selects RX0 yX0_isLent yX0_isLent, .initialized RX0, .code yX0_isLent cX0_isLent 2 (some .boolean), .fieldLink RX0 25 "ThimbleSwap" "lentTill" "[I"] ++ wsX00 ++ (vx_atS RX0 53 "java/lang/IllegalStateException" ["java/lang/RuntimeException", "java/lang/Exception"]).filter goodWord)
def wsX0_isEnough : List Cond := .code yX0_isEnough cX0_isEnough 4 (some .boolean) :: ([.fieldLink RX0 36 "ThimbleSwap" "grudges" "[[I"] ++ wsX00)
def wsX0_soften : List Cond := .code yX0_soften cX0_soften 3 none :: ([.fieldLink RX0 36 "ThimbleSwap" "grudges" "[[I", .methodLink RX0 233 Lib.Math.max.name, .static Lib.Math.max.name, .initialized "java/lang/Math", .code Lib.Math.max.name Lib.Math.max.code 2 (some .int)] ++ wsX00)
def wsX0_changeHands : List Cond := .code yX0_changeHands cX0_changeHands 5 none :: ([.fieldLink RX0 22 "ThimbleSwap" "ownerOf" "[I", .fieldLink RX0 39 "ThimbleSwap" "swapsOf" "[I", .fieldLink RX0 181 "ThimbleSwap" "swapsAgreed" "I", .methodLink RX0 248 yX0_soften, .instanceMethod yX0_soften, .selects RX0 yX0_soften yX0_soften, .initialized RX0, .code yX0_soften cX0_soften 3 none, .fieldLink RX0 36 "ThimbleSwap" "grudges" "[[I", .methodLink RX0 233 Lib.Math.max.name, .static Lib.Math.max.name, .initialized "java/lang/Math", .code Lib.Math.max.name Lib.Math.max.code 2 (some .int)] ++ wsX00)
def wsX0_resent : List Cond := .code yX0_resent cX0_resent 3 none :: ([.fieldLink RX0 36 "ThimbleSwap" "grudges" "[[I", .methodLink RX0 251 Lib.Math.min.name, .static Lib.Math.min.name, .initialized "java/lang/Math", .code Lib.Math.min.name Lib.Math.min.code 2 (some .int)] ++ wsX00)
def wsX0_swap_r1 : List Cond := [Cond.fieldLink RX0 22 "ThimbleSwap" "ownerOf" "[I", Cond.fieldLink RX0 128 "ThimbleSwap" "swapsRefused" "I", Cond.methodLink RX0 108 yX0_requireThimble, Cond.instanceMethod yX0_requireThimble, Cond.selects RX0 yX0_requireThimble yX0_requireThimble, Cond.initialized RX0, Cond.code yX0_requireThimble cX0_requireThimble 2 none, Cond.classLink RX0 207 "java/lang/IndexOutOfBoundsException", Cond.initialized "java/lang/IndexOutOfBoundsException", Cond.fieldLink RX0 75 "ThimbleSwap" "thimbles" "I", Cond.methodLink RX0 66 yX0_isBelow, Cond.static yX0_isBelow, Cond.code yX0_isBelow cX0_isBelow 2 (some .boolean), Cond.methodLink RX0 111 yX0_requireTwoOwners, Cond.instanceMethod yX0_requireTwoOwners, Cond.selects RX0 yX0_requireTwoOwners yX0_requireTwoOwners, Cond.code yX0_requireTwoOwners cX0_requireTwoOwners 3 none, Cond.classLink RX0 70 "java/lang/IllegalArgumentException", Cond.initialized "java/lang/IllegalArgumentException", Cond.methodLink RX0 118 yX0_requireAtHome, Cond.instanceMethod yX0_requireAtHome, Cond.selects RX0 yX0_requireAtHome yX0_requireAtHome, Cond.code yX0_requireAtHome cX0_requireAtHome 2 none, Cond.classLink RX0 49 "java/lang/IllegalStateException"]
def wsX0_swap_r2 : List Cond := [Cond.initialized "java/lang/IllegalStateException", Cond.methodLink RX0 220 yX0_isLent, Cond.instanceMethod yX0_isLent, Cond.selects RX0 yX0_isLent yX0_isLent, Cond.code yX0_isLent cX0_isLent 2 (some .boolean), Cond.fieldLink RX0 25 "ThimbleSwap" "lentTill" "[I", Cond.methodLink RX0 114 yX0_gainOfOwner, Cond.instanceMethod yX0_gainOfOwner, Cond.selects RX0 yX0_gainOfOwner yX0_gainOfOwner, Cond.code yX0_gainOfOwner cX0_gainOfOwner 4 (some .int), Cond.methodLink RX0 241 yX0_worthAfter, Cond.instanceMethod yX0_worthAfter, Cond.selects RX0 yX0_worthAfter yX0_worthAfter, Cond.code yX0_worthAfter cX0_worthAfter 4 (some .int), Cond.methodLink RX0 226 yX0_layOut, Cond.instanceMethod yX0_layOut, Cond.selects RX0 yX0_layOut yX0_layOut, Cond.code yX0_layOut cX0_layOut 6 none, Cond.fieldLink RX0 42 "ThimbleSwap" "greatestStates" "[I", Cond.fieldLink RX0 230 "ThimbleSwap" "hallmarksLaidOut" "I", Cond.fieldLink RX0 9 "ThimbleSwap" "setOf" "[I", Cond.fieldLink RX0 13 "ThimbleSwap" "numberOf" "[I", Cond.fieldLink RX0 19 "ThimbleSwap" "stateOf" "[I", Cond.methodLink RX0 233 Lib.Math.max.name]
def wsX0_swap_r3 : List Cond := [Cond.static Lib.Math.max.name, Cond.initialized "java/lang/Math", Cond.code Lib.Math.max.name Lib.Math.max.code 2 (some .int), Cond.fieldLink RX0 16 "ThimbleSwap" "hallmarkOf" "[I", Cond.methodLink RX0 56 yJ7_fill_53178, Cond.static yJ7_fill_53178, Cond.initialized RJ7, Cond.code yJ7_fill_53178 cJ7_fill_53178 4 none, Cond.methodLink RX0 238 yX0_worthLaidOut, Cond.instanceMethod yX0_worthLaidOut, Cond.selects RX0 yX0_worthLaidOut yX0_worthLaidOut, Cond.code yX0_worthLaidOut cX0_worthLaidOut 5 (some .int), Cond.fieldLink RX0 33 "ThimbleSwap" "likings" "[[I", Cond.methodLink RX0 156 yJ6_bitCount_0f7a4, Cond.static yJ6_bitCount_0f7a4, Cond.initialized RJ6, Cond.code yJ6_bitCount_0f7a4 cJ6_bitCount_0f7a4 1 (some .int), Cond.constant RJ6 265 (1431655765), Cond.constant RJ6 266 (858993459), Cond.constant RJ6 267 (252645135), Cond.methodLink RX0 167 yX0_numbersLaidOut, Cond.instanceMethod yX0_numbersLaidOut, Cond.selects RX0 yX0_numbersLaidOut yX0_numbersLaidOut, Cond.code yX0_numbersLaidOut cX0_numbersLaidOut 4 (some .int)]
def wsX0_swap_r4 : List Cond := [Cond.methodLink RX0 170 yX0_statesLaidOut, Cond.instanceMethod yX0_statesLaidOut, Cond.selects RX0 yX0_statesLaidOut yX0_statesLaidOut, Cond.code yX0_statesLaidOut cX0_statesLaidOut 4 (some .int), Cond.methodLink RX0 99 yX0_worthNow, Cond.instanceMethod yX0_worthNow, Cond.selects RX0 yX0_worthNow yX0_worthNow, Cond.code yX0_worthNow cX0_worthNow 2 (some .int), Cond.methodLink RX0 164 yX0_layOutOwn, Cond.instanceMethod yX0_layOutOwn, Cond.selects RX0 yX0_layOutOwn yX0_layOutOwn, Cond.code yX0_layOutOwn cX0_layOutOwn 2 none, Cond.methodLink RX0 121 yX0_isEnough, Cond.instanceMethod yX0_isEnough, Cond.selects RX0 yX0_isEnough yX0_isEnough, Cond.code yX0_isEnough cX0_isEnough 4 (some .boolean), Cond.fieldLink RX0 36 "ThimbleSwap" "grudges" "[[I", Cond.methodLink RX0 125 yX0_changeHands, Cond.instanceMethod yX0_changeHands, Cond.selects RX0 yX0_changeHands yX0_changeHands, Cond.code yX0_changeHands cX0_changeHands 5 none, Cond.fieldLink RX0 39 "ThimbleSwap" "swapsOf" "[I", Cond.fieldLink RX0 181 "ThimbleSwap" "swapsAgreed" "I", Cond.methodLink RX0 248 yX0_soften]
def wsX0_swap_r5 : List Cond := [Cond.instanceMethod yX0_soften, Cond.selects RX0 yX0_soften yX0_soften, Cond.code yX0_soften cX0_soften 3 none, Cond.methodLink RX0 131 yX0_resent, Cond.instanceMethod yX0_resent, Cond.selects RX0 yX0_resent yX0_resent, Cond.code yX0_resent cX0_resent 3 none, Cond.methodLink RX0 251 Lib.Math.min.name, Cond.static Lib.Math.min.name, Cond.code Lib.Math.min.name Lib.Math.min.code 2 (some .int)]
def wsX0_swap : List Cond := .code yX0_swap cX0_swap 7 (some .int) :: ((wsX0_swap_r1 ++ (wsX0_swap_r2 ++ (wsX0_swap_r3 ++ (wsX0_swap_r4 ++ wsX0_swap_r5)))) ++ wsX00 ++ (vx_atS RX0 211 "java/lang/IndexOutOfBoundsException" ["java/lang/RuntimeException", "java/lang/Exception"]).filter goodWord ++ (vx_atS RX0 74 "java/lang/IllegalArgumentException" ["java/lang/RuntimeException", "java/lang/Exception"]).filter goodWord ++ (vx_atS RX0 53 "java/lang/IllegalStateException" ["java/lang/RuntimeException", "java/lang/Exception"]).filter goodWord)
def wsX0_isAtHomeWith : List Cond := .code yX0_isAtHomeWith cX0_isAtHomeWith 3 (some .boolean) :: ([.fieldLink RX0 22 "ThimbleSwap" "ownerOf" "[I", .methodLink RX0 220 yX0_isLent, .instanceMethod yX0_isLent, .selects RX0 yX0_isLent yX0_isLent, .initialized RX0, .code yX0_isLent cX0_isLent 2 (some .boolean), .fieldLink RX0 25 "ThimbleSwap" "lentTill" "[I"] ++ wsX00)
def wsX0_bestSwapOf_r1 : List Cond := [Cond.fieldLink RX0 75 "ThimbleSwap" "thimbles" "I", Cond.methodLink RX0 99 yX0_worthNow, Cond.instanceMethod yX0_worthNow, Cond.selects RX0 yX0_worthNow yX0_worthNow, Cond.initialized RX0, Cond.code yX0_worthNow cX0_worthNow 2 (some .int), Cond.methodLink RX0 164 yX0_layOutOwn, Cond.instanceMethod yX0_layOutOwn, Cond.selects RX0 yX0_layOutOwn yX0_layOutOwn, Cond.code yX0_layOutOwn cX0_layOutOwn 2 none, Cond.methodLink RX0 226 yX0_layOut, Cond.instanceMethod yX0_layOut, Cond.selects RX0 yX0_layOut yX0_layOut, Cond.code yX0_layOut cX0_layOut 6 none, Cond.fieldLink RX0 42 "ThimbleSwap" "greatestStates" "[I", Cond.fieldLink RX0 230 "ThimbleSwap" "hallmarksLaidOut" "I", Cond.fieldLink RX0 22 "ThimbleSwap" "ownerOf" "[I", Cond.fieldLink RX0 9 "ThimbleSwap" "setOf" "[I", Cond.fieldLink RX0 13 "ThimbleSwap" "numberOf" "[I", Cond.fieldLink RX0 19 "ThimbleSwap" "stateOf" "[I", Cond.methodLink RX0 233 Lib.Math.max.name, Cond.static Lib.Math.max.name, Cond.initialized "java/lang/Math", Cond.code Lib.Math.max.name Lib.Math.max.code 2 (some .int)]
def wsX0_bestSwapOf_r2 : List Cond := [Cond.fieldLink RX0 16 "ThimbleSwap" "hallmarkOf" "[I", Cond.methodLink RX0 56 yJ7_fill_53178, Cond.static yJ7_fill_53178, Cond.initialized RJ7, Cond.code yJ7_fill_53178 cJ7_fill_53178 4 none, Cond.methodLink RX0 238 yX0_worthLaidOut, Cond.instanceMethod yX0_worthLaidOut, Cond.selects RX0 yX0_worthLaidOut yX0_worthLaidOut, Cond.code yX0_worthLaidOut cX0_worthLaidOut 5 (some .int), Cond.fieldLink RX0 33 "ThimbleSwap" "likings" "[[I", Cond.methodLink RX0 156 yJ6_bitCount_0f7a4, Cond.static yJ6_bitCount_0f7a4, Cond.initialized RJ6, Cond.code yJ6_bitCount_0f7a4 cJ6_bitCount_0f7a4 1 (some .int), Cond.constant RJ6 265 (1431655765), Cond.constant RJ6 266 (858993459), Cond.constant RJ6 267 (252645135), Cond.methodLink RX0 167 yX0_numbersLaidOut, Cond.instanceMethod yX0_numbersLaidOut, Cond.selects RX0 yX0_numbersLaidOut yX0_numbersLaidOut, Cond.code yX0_numbersLaidOut cX0_numbersLaidOut 4 (some .int), Cond.methodLink RX0 170 yX0_statesLaidOut, Cond.instanceMethod yX0_statesLaidOut, Cond.selects RX0 yX0_statesLaidOut yX0_statesLaidOut]
def wsX0_bestSwapOf_r3 : List Cond := [Cond.code yX0_statesLaidOut cX0_statesLaidOut 4 (some .int), Cond.methodLink RX0 245 yX0_isAtHomeWith, Cond.instanceMethod yX0_isAtHomeWith, Cond.selects RX0 yX0_isAtHomeWith yX0_isAtHomeWith, Cond.code yX0_isAtHomeWith cX0_isAtHomeWith 3 (some .boolean), Cond.methodLink RX0 220 yX0_isLent, Cond.instanceMethod yX0_isLent, Cond.selects RX0 yX0_isLent yX0_isLent, Cond.code yX0_isLent cX0_isLent 2 (some .boolean), Cond.fieldLink RX0 25 "ThimbleSwap" "lentTill" "[I", Cond.methodLink RX0 241 yX0_worthAfter, Cond.instanceMethod yX0_worthAfter, Cond.selects RX0 yX0_worthAfter yX0_worthAfter, Cond.code yX0_worthAfter cX0_worthAfter 4 (some .int), Cond.methodLink RX0 121 yX0_isEnough, Cond.instanceMethod yX0_isEnough, Cond.selects RX0 yX0_isEnough yX0_isEnough, Cond.code yX0_isEnough cX0_isEnough 4 (some .boolean), Cond.fieldLink RX0 36 "ThimbleSwap" "grudges" "[[I"]
def wsX0_bestSwapOf : List Cond := .code yX0_bestSwapOf cX0_bestSwapOf 11 (some .int) :: ((wsX0_bestSwapOf_r1 ++ (wsX0_bestSwapOf_r2 ++ wsX0_bestSwapOf_r3)) ++ wsX00)
def wsX0_best_r1 : List Cond := [Cond.classLink RX0 70 "java/lang/IllegalArgumentException", Cond.initialized "java/lang/IllegalArgumentException", Cond.methodLink RX0 62 yX0_requireCollector, Cond.instanceMethod yX0_requireCollector, Cond.selects RX0 yX0_requireCollector yX0_requireCollector, Cond.initialized RX0, Cond.code yX0_requireCollector cX0_requireCollector 2 none, Cond.classLink RX0 207 "java/lang/IndexOutOfBoundsException", Cond.initialized "java/lang/IndexOutOfBoundsException", Cond.fieldLink RX0 45 "ThimbleSwap" "collectors" "I", Cond.methodLink RX0 66 yX0_isBelow, Cond.static yX0_isBelow, Cond.code yX0_isBelow cX0_isBelow 2 (some .boolean), Cond.methodLink RX0 136 yX0_bestSwapOf, Cond.instanceMethod yX0_bestSwapOf, Cond.selects RX0 yX0_bestSwapOf yX0_bestSwapOf, Cond.code yX0_bestSwapOf cX0_bestSwapOf 11 (some .int), Cond.fieldLink RX0 75 "ThimbleSwap" "thimbles" "I", Cond.methodLink RX0 99 yX0_worthNow, Cond.instanceMethod yX0_worthNow, Cond.selects RX0 yX0_worthNow yX0_worthNow, Cond.code yX0_worthNow cX0_worthNow 2 (some .int), Cond.methodLink RX0 164 yX0_layOutOwn, Cond.instanceMethod yX0_layOutOwn]
def wsX0_best_r2 : List Cond := [Cond.selects RX0 yX0_layOutOwn yX0_layOutOwn, Cond.code yX0_layOutOwn cX0_layOutOwn 2 none, Cond.methodLink RX0 226 yX0_layOut, Cond.instanceMethod yX0_layOut, Cond.selects RX0 yX0_layOut yX0_layOut, Cond.code yX0_layOut cX0_layOut 6 none, Cond.fieldLink RX0 42 "ThimbleSwap" "greatestStates" "[I", Cond.fieldLink RX0 230 "ThimbleSwap" "hallmarksLaidOut" "I", Cond.fieldLink RX0 22 "ThimbleSwap" "ownerOf" "[I", Cond.fieldLink RX0 9 "ThimbleSwap" "setOf" "[I", Cond.fieldLink RX0 13 "ThimbleSwap" "numberOf" "[I", Cond.fieldLink RX0 19 "ThimbleSwap" "stateOf" "[I", Cond.methodLink RX0 233 Lib.Math.max.name, Cond.static Lib.Math.max.name, Cond.initialized "java/lang/Math", Cond.code Lib.Math.max.name Lib.Math.max.code 2 (some .int), Cond.fieldLink RX0 16 "ThimbleSwap" "hallmarkOf" "[I", Cond.methodLink RX0 56 yJ7_fill_53178, Cond.static yJ7_fill_53178, Cond.initialized RJ7, Cond.code yJ7_fill_53178 cJ7_fill_53178 4 none, Cond.methodLink RX0 238 yX0_worthLaidOut, Cond.instanceMethod yX0_worthLaidOut, Cond.selects RX0 yX0_worthLaidOut yX0_worthLaidOut]
def wsX0_best_r3 : List Cond := [Cond.code yX0_worthLaidOut cX0_worthLaidOut 5 (some .int), Cond.fieldLink RX0 33 "ThimbleSwap" "likings" "[[I", Cond.methodLink RX0 156 yJ6_bitCount_0f7a4, Cond.static yJ6_bitCount_0f7a4, Cond.initialized RJ6, Cond.code yJ6_bitCount_0f7a4 cJ6_bitCount_0f7a4 1 (some .int), Cond.constant RJ6 265 (1431655765), Cond.constant RJ6 266 (858993459), Cond.constant RJ6 267 (252645135), Cond.methodLink RX0 167 yX0_numbersLaidOut, Cond.instanceMethod yX0_numbersLaidOut, Cond.selects RX0 yX0_numbersLaidOut yX0_numbersLaidOut, Cond.code yX0_numbersLaidOut cX0_numbersLaidOut 4 (some .int), Cond.methodLink RX0 170 yX0_statesLaidOut, Cond.instanceMethod yX0_statesLaidOut, Cond.selects RX0 yX0_statesLaidOut yX0_statesLaidOut, Cond.code yX0_statesLaidOut cX0_statesLaidOut 4 (some .int), Cond.methodLink RX0 245 yX0_isAtHomeWith, Cond.instanceMethod yX0_isAtHomeWith, Cond.selects RX0 yX0_isAtHomeWith yX0_isAtHomeWith, Cond.code yX0_isAtHomeWith cX0_isAtHomeWith 3 (some .boolean), Cond.methodLink RX0 220 yX0_isLent, Cond.instanceMethod yX0_isLent, Cond.selects RX0 yX0_isLent yX0_isLent]
def wsX0_best_r4 : List Cond := [Cond.code yX0_isLent cX0_isLent 2 (some .boolean), Cond.fieldLink RX0 25 "ThimbleSwap" "lentTill" "[I", Cond.methodLink RX0 241 yX0_worthAfter, Cond.instanceMethod yX0_worthAfter, Cond.selects RX0 yX0_worthAfter yX0_worthAfter, Cond.code yX0_worthAfter cX0_worthAfter 4 (some .int), Cond.methodLink RX0 121 yX0_isEnough, Cond.instanceMethod yX0_isEnough, Cond.selects RX0 yX0_isEnough yX0_isEnough, Cond.code yX0_isEnough cX0_isEnough 4 (some .boolean), Cond.fieldLink RX0 36 "ThimbleSwap" "grudges" "[[I"]
def wsX0_best : List Cond := .code yX0_best cX0_best 3 (some .int) :: ((wsX0_best_r1 ++ (wsX0_best_r2 ++ (wsX0_best_r3 ++ wsX0_best_r4))) ++ wsX00 ++ (vx_atS RX0 74 "java/lang/IllegalArgumentException" ["java/lang/RuntimeException", "java/lang/Exception"]).filter goodWord ++ (vx_atS RX0 211 "java/lang/IndexOutOfBoundsException" ["java/lang/RuntimeException", "java/lang/Exception"]).filter goodWord)
def wsX0_oneIfAbove0 : List Cond := .code yX0_oneIfAbove0 cX0_oneIfAbove0 1 (some .int) :: ([])
def wsX0_ring_r1 : List Cond := [Cond.methodLink RX0 108 yX0_requireThimble, Cond.instanceMethod yX0_requireThimble, Cond.selects RX0 yX0_requireThimble yX0_requireThimble, Cond.initialized RX0, Cond.code yX0_requireThimble cX0_requireThimble 2 none, Cond.classLink RX0 207 "java/lang/IndexOutOfBoundsException", Cond.initialized "java/lang/IndexOutOfBoundsException", Cond.fieldLink RX0 75 "ThimbleSwap" "thimbles" "I", Cond.methodLink RX0 66 yX0_isBelow, Cond.static yX0_isBelow, Cond.code yX0_isBelow cX0_isBelow 2 (some .boolean), Cond.methodLink RX0 111 yX0_requireTwoOwners, Cond.instanceMethod yX0_requireTwoOwners, Cond.selects RX0 yX0_requireTwoOwners yX0_requireTwoOwners, Cond.code yX0_requireTwoOwners cX0_requireTwoOwners 3 none, Cond.classLink RX0 70 "java/lang/IllegalArgumentException", Cond.initialized "java/lang/IllegalArgumentException", Cond.fieldLink RX0 22 "ThimbleSwap" "ownerOf" "[I", Cond.methodLink RX0 114 yX0_gainOfOwner, Cond.instanceMethod yX0_gainOfOwner, Cond.selects RX0 yX0_gainOfOwner yX0_gainOfOwner, Cond.code yX0_gainOfOwner cX0_gainOfOwner 4 (some .int), Cond.methodLink RX0 241 yX0_worthAfter, Cond.instanceMethod yX0_worthAfter]
def wsX0_ring_r2 : List Cond := [Cond.selects RX0 yX0_worthAfter yX0_worthAfter, Cond.code yX0_worthAfter cX0_worthAfter 4 (some .int), Cond.methodLink RX0 226 yX0_layOut, Cond.instanceMethod yX0_layOut, Cond.selects RX0 yX0_layOut yX0_layOut, Cond.code yX0_layOut cX0_layOut 6 none, Cond.fieldLink RX0 42 "ThimbleSwap" "greatestStates" "[I", Cond.fieldLink RX0 230 "ThimbleSwap" "hallmarksLaidOut" "I", Cond.fieldLink RX0 9 "ThimbleSwap" "setOf" "[I", Cond.fieldLink RX0 13 "ThimbleSwap" "numberOf" "[I", Cond.fieldLink RX0 19 "ThimbleSwap" "stateOf" "[I", Cond.methodLink RX0 233 Lib.Math.max.name, Cond.static Lib.Math.max.name, Cond.initialized "java/lang/Math", Cond.code Lib.Math.max.name Lib.Math.max.code 2 (some .int), Cond.fieldLink RX0 16 "ThimbleSwap" "hallmarkOf" "[I", Cond.methodLink RX0 56 yJ7_fill_53178, Cond.static yJ7_fill_53178, Cond.initialized RJ7, Cond.code yJ7_fill_53178 cJ7_fill_53178 4 none, Cond.methodLink RX0 238 yX0_worthLaidOut, Cond.instanceMethod yX0_worthLaidOut, Cond.selects RX0 yX0_worthLaidOut yX0_worthLaidOut, Cond.code yX0_worthLaidOut cX0_worthLaidOut 5 (some .int)]
def wsX0_ring_r3 : List Cond := [Cond.fieldLink RX0 33 "ThimbleSwap" "likings" "[[I", Cond.methodLink RX0 156 yJ6_bitCount_0f7a4, Cond.static yJ6_bitCount_0f7a4, Cond.initialized RJ6, Cond.code yJ6_bitCount_0f7a4 cJ6_bitCount_0f7a4 1 (some .int), Cond.constant RJ6 265 (1431655765), Cond.constant RJ6 266 (858993459), Cond.constant RJ6 267 (252645135), Cond.methodLink RX0 167 yX0_numbersLaidOut, Cond.instanceMethod yX0_numbersLaidOut, Cond.selects RX0 yX0_numbersLaidOut yX0_numbersLaidOut, Cond.code yX0_numbersLaidOut cX0_numbersLaidOut 4 (some .int), Cond.methodLink RX0 170 yX0_statesLaidOut, Cond.instanceMethod yX0_statesLaidOut, Cond.selects RX0 yX0_statesLaidOut yX0_statesLaidOut, Cond.code yX0_statesLaidOut cX0_statesLaidOut 4 (some .int), Cond.methodLink RX0 99 yX0_worthNow, Cond.instanceMethod yX0_worthNow, Cond.selects RX0 yX0_worthNow yX0_worthNow, Cond.code yX0_worthNow cX0_worthNow 2 (some .int), Cond.methodLink RX0 164 yX0_layOutOwn, Cond.instanceMethod yX0_layOutOwn, Cond.selects RX0 yX0_layOutOwn yX0_layOutOwn, Cond.code yX0_layOutOwn cX0_layOutOwn 2 none]
def wsX0_ring_r4 : List Cond := [Cond.methodLink RX0 139 yX0_oneIfAbove0, Cond.static yX0_oneIfAbove0, Cond.code yX0_oneIfAbove0 cX0_oneIfAbove0 1 (some .int)]
def wsX0_ring : List Cond := .code yX0_ring cX0_ring 4 (some .int) :: ((wsX0_ring_r1 ++ (wsX0_ring_r2 ++ (wsX0_ring_r3 ++ wsX0_ring_r4))) ++ wsX00 ++ (vx_atS RX0 211 "java/lang/IndexOutOfBoundsException" ["java/lang/RuntimeException", "java/lang/Exception"]).filter goodWord ++ (vx_atS RX0 74 "java/lang/IllegalArgumentException" ["java/lang/RuntimeException", "java/lang/Exception"]).filter goodWord)
def wsX0_bestSwapOfFirstPair_r1 : List Cond := [Cond.fieldLink RX0 45 "ThimbleSwap" "collectors" "I", Cond.methodLink RX0 136 yX0_bestSwapOf, Cond.instanceMethod yX0_bestSwapOf, Cond.selects RX0 yX0_bestSwapOf yX0_bestSwapOf, Cond.initialized RX0, Cond.code yX0_bestSwapOf cX0_bestSwapOf 11 (some .int), Cond.fieldLink RX0 75 "ThimbleSwap" "thimbles" "I", Cond.methodLink RX0 99 yX0_worthNow, Cond.instanceMethod yX0_worthNow, Cond.selects RX0 yX0_worthNow yX0_worthNow, Cond.code yX0_worthNow cX0_worthNow 2 (some .int), Cond.methodLink RX0 164 yX0_layOutOwn, Cond.instanceMethod yX0_layOutOwn, Cond.selects RX0 yX0_layOutOwn yX0_layOutOwn, Cond.code yX0_layOutOwn cX0_layOutOwn 2 none, Cond.methodLink RX0 226 yX0_layOut, Cond.instanceMethod yX0_layOut, Cond.selects RX0 yX0_layOut yX0_layOut, Cond.code yX0_layOut cX0_layOut 6 none, Cond.fieldLink RX0 42 "ThimbleSwap" "greatestStates" "[I", Cond.fieldLink RX0 230 "ThimbleSwap" "hallmarksLaidOut" "I", Cond.fieldLink RX0 22 "ThimbleSwap" "ownerOf" "[I", Cond.fieldLink RX0 9 "ThimbleSwap" "setOf" "[I", Cond.fieldLink RX0 13 "ThimbleSwap" "numberOf" "[I"]
def wsX0_bestSwapOfFirstPair_r2 : List Cond := [Cond.fieldLink RX0 19 "ThimbleSwap" "stateOf" "[I", Cond.methodLink RX0 233 Lib.Math.max.name, Cond.static Lib.Math.max.name, Cond.initialized "java/lang/Math", Cond.code Lib.Math.max.name Lib.Math.max.code 2 (some .int), Cond.fieldLink RX0 16 "ThimbleSwap" "hallmarkOf" "[I", Cond.methodLink RX0 56 yJ7_fill_53178, Cond.static yJ7_fill_53178, Cond.initialized RJ7, Cond.code yJ7_fill_53178 cJ7_fill_53178 4 none, Cond.methodLink RX0 238 yX0_worthLaidOut, Cond.instanceMethod yX0_worthLaidOut, Cond.selects RX0 yX0_worthLaidOut yX0_worthLaidOut, Cond.code yX0_worthLaidOut cX0_worthLaidOut 5 (some .int), Cond.fieldLink RX0 33 "ThimbleSwap" "likings" "[[I", Cond.methodLink RX0 156 yJ6_bitCount_0f7a4, Cond.static yJ6_bitCount_0f7a4, Cond.initialized RJ6, Cond.code yJ6_bitCount_0f7a4 cJ6_bitCount_0f7a4 1 (some .int), Cond.constant RJ6 265 (1431655765), Cond.constant RJ6 266 (858993459), Cond.constant RJ6 267 (252645135), Cond.methodLink RX0 167 yX0_numbersLaidOut, Cond.instanceMethod yX0_numbersLaidOut]
def wsX0_bestSwapOfFirstPair_r3 : List Cond := [Cond.selects RX0 yX0_numbersLaidOut yX0_numbersLaidOut, Cond.code yX0_numbersLaidOut cX0_numbersLaidOut 4 (some .int), Cond.methodLink RX0 170 yX0_statesLaidOut, Cond.instanceMethod yX0_statesLaidOut, Cond.selects RX0 yX0_statesLaidOut yX0_statesLaidOut, Cond.code yX0_statesLaidOut cX0_statesLaidOut 4 (some .int), Cond.methodLink RX0 245 yX0_isAtHomeWith, Cond.instanceMethod yX0_isAtHomeWith, Cond.selects RX0 yX0_isAtHomeWith yX0_isAtHomeWith, Cond.code yX0_isAtHomeWith cX0_isAtHomeWith 3 (some .boolean), Cond.methodLink RX0 220 yX0_isLent, Cond.instanceMethod yX0_isLent, Cond.selects RX0 yX0_isLent yX0_isLent, Cond.code yX0_isLent cX0_isLent 2 (some .boolean), Cond.fieldLink RX0 25 "ThimbleSwap" "lentTill" "[I", Cond.methodLink RX0 241 yX0_worthAfter, Cond.instanceMethod yX0_worthAfter, Cond.selects RX0 yX0_worthAfter yX0_worthAfter, Cond.code yX0_worthAfter cX0_worthAfter 4 (some .int), Cond.methodLink RX0 121 yX0_isEnough, Cond.instanceMethod yX0_isEnough, Cond.selects RX0 yX0_isEnough yX0_isEnough, Cond.code yX0_isEnough cX0_isEnough 4 (some .boolean), Cond.fieldLink RX0 36 "ThimbleSwap" "grudges" "[[I"]
def wsX0_bestSwapOfFirstPair : List Cond := .code yX0_bestSwapOfFirstPair cX0_bestSwapOfFirstPair 4 (some .int) :: ((wsX0_bestSwapOfFirstPair_r1 ++ (wsX0_bestSwapOfFirstPair_r2 ++ wsX0_bestSwapOfFirstPair_r3)) ++ wsX00)
def wsX0_fair_r1 : List Cond := [Cond.classLink RX0 70 "java/lang/IllegalArgumentException", Cond.initialized "java/lang/IllegalArgumentException", Cond.methodLink RX0 144 yX0_bestSwapOfFirstPair, Cond.instanceMethod yX0_bestSwapOfFirstPair, Cond.selects RX0 yX0_bestSwapOfFirstPair yX0_bestSwapOfFirstPair, Cond.initialized RX0, Cond.code yX0_bestSwapOfFirstPair cX0_bestSwapOfFirstPair 4 (some .int), Cond.fieldLink RX0 45 "ThimbleSwap" "collectors" "I", Cond.methodLink RX0 136 yX0_bestSwapOf, Cond.instanceMethod yX0_bestSwapOf, Cond.selects RX0 yX0_bestSwapOf yX0_bestSwapOf, Cond.code yX0_bestSwapOf cX0_bestSwapOf 11 (some .int), Cond.fieldLink RX0 75 "ThimbleSwap" "thimbles" "I", Cond.methodLink RX0 99 yX0_worthNow, Cond.instanceMethod yX0_worthNow, Cond.selects RX0 yX0_worthNow yX0_worthNow, Cond.code yX0_worthNow cX0_worthNow 2 (some .int), Cond.methodLink RX0 164 yX0_layOutOwn, Cond.instanceMethod yX0_layOutOwn, Cond.selects RX0 yX0_layOutOwn yX0_layOutOwn, Cond.code yX0_layOutOwn cX0_layOutOwn 2 none, Cond.methodLink RX0 226 yX0_layOut, Cond.instanceMethod yX0_layOut, Cond.selects RX0 yX0_layOut yX0_layOut]
def wsX0_fair_r2 : List Cond := [Cond.code yX0_layOut cX0_layOut 6 none, Cond.fieldLink RX0 42 "ThimbleSwap" "greatestStates" "[I", Cond.fieldLink RX0 230 "ThimbleSwap" "hallmarksLaidOut" "I", Cond.fieldLink RX0 22 "ThimbleSwap" "ownerOf" "[I", Cond.fieldLink RX0 9 "ThimbleSwap" "setOf" "[I", Cond.fieldLink RX0 13 "ThimbleSwap" "numberOf" "[I", Cond.fieldLink RX0 19 "ThimbleSwap" "stateOf" "[I", Cond.methodLink RX0 233 Lib.Math.max.name, Cond.static Lib.Math.max.name, Cond.initialized "java/lang/Math", Cond.code Lib.Math.max.name Lib.Math.max.code 2 (some .int), Cond.fieldLink RX0 16 "ThimbleSwap" "hallmarkOf" "[I", Cond.methodLink RX0 56 yJ7_fill_53178, Cond.static yJ7_fill_53178, Cond.initialized RJ7, Cond.code yJ7_fill_53178 cJ7_fill_53178 4 none, Cond.methodLink RX0 238 yX0_worthLaidOut, Cond.instanceMethod yX0_worthLaidOut, Cond.selects RX0 yX0_worthLaidOut yX0_worthLaidOut, Cond.code yX0_worthLaidOut cX0_worthLaidOut 5 (some .int), Cond.fieldLink RX0 33 "ThimbleSwap" "likings" "[[I", Cond.methodLink RX0 156 yJ6_bitCount_0f7a4, Cond.static yJ6_bitCount_0f7a4, Cond.initialized RJ6]
def wsX0_fair_r3 : List Cond := [Cond.code yJ6_bitCount_0f7a4 cJ6_bitCount_0f7a4 1 (some .int), Cond.constant RJ6 265 (1431655765), Cond.constant RJ6 266 (858993459), Cond.constant RJ6 267 (252645135), Cond.methodLink RX0 167 yX0_numbersLaidOut, Cond.instanceMethod yX0_numbersLaidOut, Cond.selects RX0 yX0_numbersLaidOut yX0_numbersLaidOut, Cond.code yX0_numbersLaidOut cX0_numbersLaidOut 4 (some .int), Cond.methodLink RX0 170 yX0_statesLaidOut, Cond.instanceMethod yX0_statesLaidOut, Cond.selects RX0 yX0_statesLaidOut yX0_statesLaidOut, Cond.code yX0_statesLaidOut cX0_statesLaidOut 4 (some .int), Cond.methodLink RX0 245 yX0_isAtHomeWith, Cond.instanceMethod yX0_isAtHomeWith, Cond.selects RX0 yX0_isAtHomeWith yX0_isAtHomeWith, Cond.code yX0_isAtHomeWith cX0_isAtHomeWith 3 (some .boolean), Cond.methodLink RX0 220 yX0_isLent, Cond.instanceMethod yX0_isLent, Cond.selects RX0 yX0_isLent yX0_isLent, Cond.code yX0_isLent cX0_isLent 2 (some .boolean), Cond.fieldLink RX0 25 "ThimbleSwap" "lentTill" "[I", Cond.methodLink RX0 241 yX0_worthAfter, Cond.instanceMethod yX0_worthAfter, Cond.selects RX0 yX0_worthAfter yX0_worthAfter]
def wsX0_fair_r4 : List Cond := [Cond.code yX0_worthAfter cX0_worthAfter 4 (some .int), Cond.methodLink RX0 121 yX0_isEnough, Cond.instanceMethod yX0_isEnough, Cond.selects RX0 yX0_isEnough yX0_isEnough, Cond.code yX0_isEnough cX0_isEnough 4 (some .boolean), Cond.fieldLink RX0 36 "ThimbleSwap" "grudges" "[[I", Cond.methodLink RX0 125 yX0_changeHands, Cond.instanceMethod yX0_changeHands, Cond.selects RX0 yX0_changeHands yX0_changeHands, Cond.code yX0_changeHands cX0_changeHands 5 none, Cond.fieldLink RX0 39 "ThimbleSwap" "swapsOf" "[I", Cond.fieldLink RX0 181 "ThimbleSwap" "swapsAgreed" "I", Cond.methodLink RX0 248 yX0_soften, Cond.instanceMethod yX0_soften, Cond.selects RX0 yX0_soften yX0_soften, Cond.code yX0_soften cX0_soften 3 none]
def wsX0_fair : List Cond := .code yX0_fair cX0_fair 4 (some .int) :: ((wsX0_fair_r1 ++ (wsX0_fair_r2 ++ (wsX0_fair_r3 ++ wsX0_fair_r4))) ++ wsX00 ++ (vx_atS RX0 74 "java/lang/IllegalArgumentException" ["java/lang/RuntimeException", "java/lang/Exception"]).filter goodWord)
def wsX0_lend_r1 : List Cond := [Cond.classLink RX0 70 "java/lang/IllegalArgumentException", Cond.initialized "java/lang/IllegalArgumentException", Cond.fieldLink RX0 25 "ThimbleSwap" "lentTill" "[I", Cond.fieldLink RX0 150 "ThimbleSwap" "week" "I", Cond.fieldLink RX0 28 "ThimbleSwap" "lentFor" "[I", Cond.methodLink RX0 108 yX0_requireThimble, Cond.instanceMethod yX0_requireThimble, Cond.selects RX0 yX0_requireThimble yX0_requireThimble, Cond.initialized RX0, Cond.code yX0_requireThimble cX0_requireThimble 2 none, Cond.classLink RX0 207 "java/lang/IndexOutOfBoundsException", Cond.initialized "java/lang/IndexOutOfBoundsException", Cond.fieldLink RX0 75 "ThimbleSwap" "thimbles" "I", Cond.methodLink RX0 66 yX0_isBelow, Cond.static yX0_isBelow, Cond.code yX0_isBelow cX0_isBelow 2 (some .boolean), Cond.methodLink RX0 118 yX0_requireAtHome, Cond.instanceMethod yX0_requireAtHome, Cond.selects RX0 yX0_requireAtHome yX0_requireAtHome, Cond.code yX0_requireAtHome cX0_requireAtHome 2 none, Cond.classLink RX0 49 "java/lang/IllegalStateException", Cond.initialized "java/lang/IllegalStateException", Cond.methodLink RX0 220 yX0_isLent, Cond.instanceMethod yX0_isLent]
def wsX0_lend_r2 : List Cond := [Cond.selects RX0 yX0_isLent yX0_isLent, Cond.code yX0_isLent cX0_isLent 2 (some .boolean)]
def wsX0_lend : List Cond := .code yX0_lend cX0_lend 3 (some .int) :: ((wsX0_lend_r1 ++ wsX0_lend_r2) ++ wsX00 ++ (vx_atS RX0 74 "java/lang/IllegalArgumentException" ["java/lang/RuntimeException", "java/lang/Exception"]).filter goodWord ++ (vx_atS RX0 211 "java/lang/IndexOutOfBoundsException" ["java/lang/RuntimeException", "java/lang/Exception"]).filter goodWord ++ (vx_atS RX0 53 "java/lang/IllegalStateException" ["java/lang/RuntimeException", "java/lang/Exception"]).filter goodWord)
def wsX0_numbersShown : List Cond := .code yX0_numbersShown cX0_numbersShown 4 (some .int) :: ([.fieldLink RX0 75 "ThimbleSwap" "thimbles" "I", .fieldLink RX0 9 "ThimbleSwap" "setOf" "[I", .fieldLink RX0 13 "ThimbleSwap" "numberOf" "[I", .methodLink RX0 220 yX0_isLent, .instanceMethod yX0_isLent, .selects RX0 yX0_isLent yX0_isLent, .initialized RX0, .code yX0_isLent cX0_isLent 2 (some .boolean), .fieldLink RX0 25 "ThimbleSwap" "lentTill" "[I"] ++ wsX00)
def wsX0_shows_r1 : List Cond := [Cond.methodLink RX0 80 yX0_requireSet, Cond.static yX0_requireSet, Cond.initialized RX0, Cond.code yX0_requireSet cX0_requireSet 1 none, Cond.classLink RX0 207 "java/lang/IndexOutOfBoundsException", Cond.initialized "java/lang/IndexOutOfBoundsException", Cond.methodLink RX0 66 yX0_isBelow, Cond.static yX0_isBelow, Cond.code yX0_isBelow cX0_isBelow 2 (some .boolean), Cond.methodLink RX0 153 yX0_numbersShown, Cond.instanceMethod yX0_numbersShown, Cond.selects RX0 yX0_numbersShown yX0_numbersShown, Cond.code yX0_numbersShown cX0_numbersShown 4 (some .int), Cond.fieldLink RX0 75 "ThimbleSwap" "thimbles" "I", Cond.fieldLink RX0 9 "ThimbleSwap" "setOf" "[I", Cond.fieldLink RX0 13 "ThimbleSwap" "numberOf" "[I", Cond.methodLink RX0 220 yX0_isLent, Cond.instanceMethod yX0_isLent, Cond.selects RX0 yX0_isLent yX0_isLent, Cond.code yX0_isLent cX0_isLent 2 (some .boolean), Cond.fieldLink RX0 25 "ThimbleSwap" "lentTill" "[I", Cond.methodLink RX0 156 yJ6_bitCount_0f7a4, Cond.static yJ6_bitCount_0f7a4, Cond.initialized RJ6]
def wsX0_shows_r2 : List Cond := [Cond.code yJ6_bitCount_0f7a4 cJ6_bitCount_0f7a4 1 (some .int), Cond.constant RJ6 265 (1431655765), Cond.constant RJ6 266 (858993459), Cond.constant RJ6 267 (252645135)]
def wsX0_shows : List Cond := .code yX0_shows cX0_shows 2 (some .int) :: ((wsX0_shows_r1 ++ wsX0_shows_r2) ++ wsX00 ++ (vx_atS RX0 211 "java/lang/IndexOutOfBoundsException" ["java/lang/RuntimeException", "java/lang/Exception"]).filter goodWord)
def wsX0_numbersFound : List Cond := .code yX0_numbersFound cX0_numbersFound 4 (some .int) :: ([.fieldLink RX0 75 "ThimbleSwap" "thimbles" "I", .fieldLink RX0 9 "ThimbleSwap" "setOf" "[I", .fieldLink RX0 13 "ThimbleSwap" "numberOf" "[I"] ++ wsX00)
def wsX0_lacks_r1 : List Cond := [Cond.methodLink RX0 80 yX0_requireSet, Cond.static yX0_requireSet, Cond.initialized RX0, Cond.code yX0_requireSet cX0_requireSet 1 none, Cond.classLink RX0 207 "java/lang/IndexOutOfBoundsException", Cond.initialized "java/lang/IndexOutOfBoundsException", Cond.methodLink RX0 66 yX0_isBelow, Cond.static yX0_isBelow, Cond.code yX0_isBelow cX0_isBelow 2 (some .boolean), Cond.methodLink RX0 161 yX0_numbersFound, Cond.instanceMethod yX0_numbersFound, Cond.selects RX0 yX0_numbersFound yX0_numbersFound, Cond.code yX0_numbersFound cX0_numbersFound 4 (some .int), Cond.fieldLink RX0 75 "ThimbleSwap" "thimbles" "I", Cond.fieldLink RX0 9 "ThimbleSwap" "setOf" "[I", Cond.fieldLink RX0 13 "ThimbleSwap" "numberOf" "[I", Cond.methodLink RX0 156 yJ6_bitCount_0f7a4, Cond.static yJ6_bitCount_0f7a4, Cond.initialized RJ6, Cond.code yJ6_bitCount_0f7a4 cJ6_bitCount_0f7a4 1 (some .int), Cond.constant RJ6 265 (1431655765), Cond.constant RJ6 266 (858993459), Cond.constant RJ6 267 (252645135), Cond.methodLink RX0 153 yX0_numbersShown]
def wsX0_lacks_r2 : List Cond := [Cond.instanceMethod yX0_numbersShown, Cond.selects RX0 yX0_numbersShown yX0_numbersShown, Cond.code yX0_numbersShown cX0_numbersShown 4 (some .int), Cond.methodLink RX0 220 yX0_isLent, Cond.instanceMethod yX0_isLent, Cond.selects RX0 yX0_isLent yX0_isLent, Cond.code yX0_isLent cX0_isLent 2 (some .boolean), Cond.fieldLink RX0 25 "ThimbleSwap" "lentTill" "[I"]
def wsX0_lacks : List Cond := .code yX0_lacks cX0_lacks 2 (some .int) :: ((wsX0_lacks_r1 ++ wsX0_lacks_r2) ++ wsX00 ++ (vx_atS RX0 211 "java/lang/IndexOutOfBoundsException" ["java/lang/RuntimeException", "java/lang/Exception"]).filter goodWord)
def wsX0_finest_r1 : List Cond := [Cond.fieldLink RX0 45 "ThimbleSwap" "collectors" "I", Cond.methodLink RX0 80 yX0_requireSet, Cond.static yX0_requireSet, Cond.initialized RX0, Cond.code yX0_requireSet cX0_requireSet 1 none, Cond.classLink RX0 207 "java/lang/IndexOutOfBoundsException", Cond.initialized "java/lang/IndexOutOfBoundsException", Cond.methodLink RX0 66 yX0_isBelow, Cond.static yX0_isBelow, Cond.code yX0_isBelow cX0_isBelow 2 (some .boolean), Cond.methodLink RX0 164 yX0_layOutOwn, Cond.instanceMethod yX0_layOutOwn, Cond.selects RX0 yX0_layOutOwn yX0_layOutOwn, Cond.code yX0_layOutOwn cX0_layOutOwn 2 none, Cond.methodLink RX0 226 yX0_layOut, Cond.instanceMethod yX0_layOut, Cond.selects RX0 yX0_layOut yX0_layOut, Cond.code yX0_layOut cX0_layOut 6 none, Cond.fieldLink RX0 42 "ThimbleSwap" "greatestStates" "[I", Cond.fieldLink RX0 230 "ThimbleSwap" "hallmarksLaidOut" "I", Cond.fieldLink RX0 75 "ThimbleSwap" "thimbles" "I", Cond.fieldLink RX0 22 "ThimbleSwap" "ownerOf" "[I", Cond.fieldLink RX0 9 "ThimbleSwap" "setOf" "[I", Cond.fieldLink RX0 13 "ThimbleSwap" "numberOf" "[I"]
def wsX0_finest_r2 : List Cond := [Cond.fieldLink RX0 19 "ThimbleSwap" "stateOf" "[I", Cond.methodLink RX0 233 Lib.Math.max.name, Cond.static Lib.Math.max.name, Cond.initialized "java/lang/Math", Cond.code Lib.Math.max.name Lib.Math.max.code 2 (some .int), Cond.fieldLink RX0 16 "ThimbleSwap" "hallmarkOf" "[I", Cond.methodLink RX0 56 yJ7_fill_53178, Cond.static yJ7_fill_53178, Cond.initialized RJ7, Cond.code yJ7_fill_53178 cJ7_fill_53178 4 none, Cond.methodLink RX0 167 yX0_numbersLaidOut, Cond.instanceMethod yX0_numbersLaidOut, Cond.selects RX0 yX0_numbersLaidOut yX0_numbersLaidOut, Cond.code yX0_numbersLaidOut cX0_numbersLaidOut 4 (some .int), Cond.methodLink RX0 170 yX0_statesLaidOut, Cond.instanceMethod yX0_statesLaidOut, Cond.selects RX0 yX0_statesLaidOut yX0_statesLaidOut, Cond.code yX0_statesLaidOut cX0_statesLaidOut 4 (some .int)]
def wsX0_finest : List Cond := .code yX0_finest cX0_finest 8 (some .int) :: ((wsX0_finest_r1 ++ wsX0_finest_r2) ++ wsX00 ++ (vx_atS RX0 211 "java/lang/IndexOutOfBoundsException" ["java/lang/RuntimeException", "java/lang/Exception"]).filter goodWord)
def wsX0_bringHome : List Cond := .code yX0_bringHome cX0_bringHome 2 none :: ([.fieldLink RX0 25 "ThimbleSwap" "lentTill" "[I", .fieldLink RX0 28 "ThimbleSwap" "lentFor" "[I", .fieldLink RX0 19 "ThimbleSwap" "stateOf" "[I", .methodLink RX0 233 Lib.Math.max.name, .static Lib.Math.max.name, .initialized "java/lang/Math", .code Lib.Math.max.name Lib.Math.max.code 2 (some .int)] ++ wsX00)
def wsX0_softenAll : List Cond := .code yX0_softenAll cX0_softenAll 3 none :: ([.fieldLink RX0 45 "ThimbleSwap" "collectors" "I", .methodLink RX0 248 yX0_soften, .instanceMethod yX0_soften, .selects RX0 yX0_soften yX0_soften, .initialized RX0, .code yX0_soften cX0_soften 3 none, .fieldLink RX0 36 "ThimbleSwap" "grudges" "[[I", .methodLink RX0 233 Lib.Math.max.name, .static Lib.Math.max.name, .initialized "java/lang/Math", .code Lib.Math.max.name Lib.Math.max.code 2 (some .int)] ++ wsX00)
def wsX0_endWeek_r1 : List Cond := [Cond.fieldLink RX0 75 "ThimbleSwap" "thimbles" "I", Cond.fieldLink RX0 25 "ThimbleSwap" "lentTill" "[I", Cond.fieldLink RX0 150 "ThimbleSwap" "week" "I", Cond.methodLink RX0 220 yX0_isLent, Cond.instanceMethod yX0_isLent, Cond.selects RX0 yX0_isLent yX0_isLent, Cond.initialized RX0, Cond.code yX0_isLent cX0_isLent 2 (some .boolean), Cond.methodLink RX0 254 yX0_bringHome, Cond.instanceMethod yX0_bringHome, Cond.selects RX0 yX0_bringHome yX0_bringHome, Cond.code yX0_bringHome cX0_bringHome 2 none, Cond.fieldLink RX0 28 "ThimbleSwap" "lentFor" "[I", Cond.fieldLink RX0 19 "ThimbleSwap" "stateOf" "[I", Cond.methodLink RX0 233 Lib.Math.max.name, Cond.static Lib.Math.max.name, Cond.initialized "java/lang/Math", Cond.code Lib.Math.max.name Lib.Math.max.code 2 (some .int), Cond.methodLink RX0 257 yX0_softenAll, Cond.instanceMethod yX0_softenAll, Cond.selects RX0 yX0_softenAll yX0_softenAll, Cond.code yX0_softenAll cX0_softenAll 3 none, Cond.fieldLink RX0 45 "ThimbleSwap" "collectors" "I", Cond.methodLink RX0 248 yX0_soften]
def wsX0_endWeek_r2 : List Cond := [Cond.instanceMethod yX0_soften, Cond.selects RX0 yX0_soften yX0_soften, Cond.code yX0_soften cX0_soften 3 none, Cond.fieldLink RX0 36 "ThimbleSwap" "grudges" "[[I"]
def wsX0_endWeek : List Cond := .code yX0_endWeek cX0_endWeek 3 (some .int) :: ((wsX0_endWeek_r1 ++ wsX0_endWeek_r2) ++ wsX00)
def wsX0_pass_r1 : List Cond := [Cond.classLink RX0 70 "java/lang/IllegalArgumentException", Cond.initialized "java/lang/IllegalArgumentException", Cond.methodLink RX0 175 yX0_endWeek, Cond.instanceMethod yX0_endWeek, Cond.selects RX0 yX0_endWeek yX0_endWeek, Cond.initialized RX0, Cond.code yX0_endWeek cX0_endWeek 3 (some .int), Cond.fieldLink RX0 75 "ThimbleSwap" "thimbles" "I", Cond.fieldLink RX0 25 "ThimbleSwap" "lentTill" "[I", Cond.fieldLink RX0 150 "ThimbleSwap" "week" "I", Cond.methodLink RX0 220 yX0_isLent, Cond.instanceMethod yX0_isLent, Cond.selects RX0 yX0_isLent yX0_isLent, Cond.code yX0_isLent cX0_isLent 2 (some .boolean), Cond.methodLink RX0 254 yX0_bringHome, Cond.instanceMethod yX0_bringHome, Cond.selects RX0 yX0_bringHome yX0_bringHome, Cond.code yX0_bringHome cX0_bringHome 2 none, Cond.fieldLink RX0 28 "ThimbleSwap" "lentFor" "[I", Cond.fieldLink RX0 19 "ThimbleSwap" "stateOf" "[I", Cond.methodLink RX0 233 Lib.Math.max.name, Cond.static Lib.Math.max.name, Cond.initialized "java/lang/Math", Cond.code Lib.Math.max.name Lib.Math.max.code 2 (some .int)]
def wsX0_pass_r2 : List Cond := [Cond.methodLink RX0 257 yX0_softenAll, Cond.instanceMethod yX0_softenAll, Cond.selects RX0 yX0_softenAll yX0_softenAll, Cond.code yX0_softenAll cX0_softenAll 3 none, Cond.fieldLink RX0 45 "ThimbleSwap" "collectors" "I", Cond.methodLink RX0 248 yX0_soften, Cond.instanceMethod yX0_soften, Cond.selects RX0 yX0_soften yX0_soften, Cond.code yX0_soften cX0_soften 3 none, Cond.fieldLink RX0 36 "ThimbleSwap" "grudges" "[[I"]
def wsX0_pass : List Cond := .code yX0_pass cX0_pass 4 (some .int) :: ((wsX0_pass_r1 ++ wsX0_pass_r2) ++ wsX00 ++ (vx_atS RX0 74 "java/lang/IllegalArgumentException" ["java/lang/RuntimeException", "java/lang/Exception"]).filter goodWord)
def wsX0_thimblesLent : List Cond := .code yX0_thimblesLent cX0_thimblesLent 3 (some .int) :: ([.fieldLink RX0 75 "ThimbleSwap" "thimbles" "I", .methodLink RX0 220 yX0_isLent, .instanceMethod yX0_isLent, .selects RX0 yX0_isLent yX0_isLent, .initialized RX0, .code yX0_isLent cX0_isLent 2 (some .boolean), .fieldLink RX0 25 "ThimbleSwap" "lentTill" "[I"] ++ wsX00)
def wsX0_worthOfAll_r1 : List Cond := [Cond.fieldLink RX0 45 "ThimbleSwap" "collectors" "I", Cond.methodLink RX0 99 yX0_worthNow, Cond.instanceMethod yX0_worthNow, Cond.selects RX0 yX0_worthNow yX0_worthNow, Cond.initialized RX0, Cond.code yX0_worthNow cX0_worthNow 2 (some .int), Cond.methodLink RX0 164 yX0_layOutOwn, Cond.instanceMethod yX0_layOutOwn, Cond.selects RX0 yX0_layOutOwn yX0_layOutOwn, Cond.code yX0_layOutOwn cX0_layOutOwn 2 none, Cond.methodLink RX0 226 yX0_layOut, Cond.instanceMethod yX0_layOut, Cond.selects RX0 yX0_layOut yX0_layOut, Cond.code yX0_layOut cX0_layOut 6 none, Cond.fieldLink RX0 42 "ThimbleSwap" "greatestStates" "[I", Cond.fieldLink RX0 230 "ThimbleSwap" "hallmarksLaidOut" "I", Cond.fieldLink RX0 75 "ThimbleSwap" "thimbles" "I", Cond.fieldLink RX0 22 "ThimbleSwap" "ownerOf" "[I", Cond.fieldLink RX0 9 "ThimbleSwap" "setOf" "[I", Cond.fieldLink RX0 13 "ThimbleSwap" "numberOf" "[I", Cond.fieldLink RX0 19 "ThimbleSwap" "stateOf" "[I", Cond.methodLink RX0 233 Lib.Math.max.name, Cond.static Lib.Math.max.name, Cond.initialized "java/lang/Math"]
def wsX0_worthOfAll_r2 : List Cond := [Cond.code Lib.Math.max.name Lib.Math.max.code 2 (some .int), Cond.fieldLink RX0 16 "ThimbleSwap" "hallmarkOf" "[I", Cond.methodLink RX0 56 yJ7_fill_53178, Cond.static yJ7_fill_53178, Cond.initialized RJ7, Cond.code yJ7_fill_53178 cJ7_fill_53178 4 none, Cond.methodLink RX0 238 yX0_worthLaidOut, Cond.instanceMethod yX0_worthLaidOut, Cond.selects RX0 yX0_worthLaidOut yX0_worthLaidOut, Cond.code yX0_worthLaidOut cX0_worthLaidOut 5 (some .int), Cond.fieldLink RX0 33 "ThimbleSwap" "likings" "[[I", Cond.methodLink RX0 156 yJ6_bitCount_0f7a4, Cond.static yJ6_bitCount_0f7a4, Cond.initialized RJ6, Cond.code yJ6_bitCount_0f7a4 cJ6_bitCount_0f7a4 1 (some .int), Cond.constant RJ6 265 (1431655765), Cond.constant RJ6 266 (858993459), Cond.constant RJ6 267 (252645135), Cond.methodLink RX0 167 yX0_numbersLaidOut, Cond.instanceMethod yX0_numbersLaidOut, Cond.selects RX0 yX0_numbersLaidOut yX0_numbersLaidOut, Cond.code yX0_numbersLaidOut cX0_numbersLaidOut 4 (some .int), Cond.methodLink RX0 170 yX0_statesLaidOut, Cond.instanceMethod yX0_statesLaidOut]
def wsX0_worthOfAll_r3 : List Cond := [Cond.selects RX0 yX0_statesLaidOut yX0_statesLaidOut, Cond.code yX0_statesLaidOut cX0_statesLaidOut 4 (some .int)]
def wsX0_worthOfAll : List Cond := .code yX0_worthOfAll cX0_worthOfAll 3 (some .int) :: ((wsX0_worthOfAll_r1 ++ (wsX0_worthOfAll_r2 ++ wsX0_worthOfAll_r3)) ++ wsX00)
def wsX0_count_r1 : List Cond := [Cond.fieldLink RX0 150 "ThimbleSwap" "week" "I", Cond.fieldLink RX0 45 "ThimbleSwap" "collectors" "I", Cond.fieldLink RX0 75 "ThimbleSwap" "thimbles" "I", Cond.fieldLink RX0 181 "ThimbleSwap" "swapsAgreed" "I", Cond.fieldLink RX0 128 "ThimbleSwap" "swapsRefused" "I", Cond.methodLink RX0 85 yX0_requireRow, Cond.static yX0_requireRow, Cond.initialized RX0, Cond.code yX0_requireRow cX0_requireRow 2 none, Cond.classLink RX0 207 "java/lang/IndexOutOfBoundsException", Cond.initialized "java/lang/IndexOutOfBoundsException", Cond.methodLink RX0 66 yX0_isBelow, Cond.static yX0_isBelow, Cond.code yX0_isBelow cX0_isBelow 2 (some .boolean), Cond.methodLink RX0 178 yX0_thimblesLent, Cond.instanceMethod yX0_thimblesLent, Cond.selects RX0 yX0_thimblesLent yX0_thimblesLent, Cond.code yX0_thimblesLent cX0_thimblesLent 3 (some .int), Cond.methodLink RX0 220 yX0_isLent, Cond.instanceMethod yX0_isLent, Cond.selects RX0 yX0_isLent yX0_isLent, Cond.code yX0_isLent cX0_isLent 2 (some .boolean), Cond.fieldLink RX0 25 "ThimbleSwap" "lentTill" "[I", Cond.methodLink RX0 184 yX0_worthOfAll]
def wsX0_count_r2 : List Cond := [Cond.instanceMethod yX0_worthOfAll, Cond.selects RX0 yX0_worthOfAll yX0_worthOfAll, Cond.code yX0_worthOfAll cX0_worthOfAll 3 (some .int), Cond.methodLink RX0 99 yX0_worthNow, Cond.instanceMethod yX0_worthNow, Cond.selects RX0 yX0_worthNow yX0_worthNow, Cond.code yX0_worthNow cX0_worthNow 2 (some .int), Cond.methodLink RX0 164 yX0_layOutOwn, Cond.instanceMethod yX0_layOutOwn, Cond.selects RX0 yX0_layOutOwn yX0_layOutOwn, Cond.code yX0_layOutOwn cX0_layOutOwn 2 none, Cond.methodLink RX0 226 yX0_layOut, Cond.instanceMethod yX0_layOut, Cond.selects RX0 yX0_layOut yX0_layOut, Cond.code yX0_layOut cX0_layOut 6 none, Cond.fieldLink RX0 42 "ThimbleSwap" "greatestStates" "[I", Cond.fieldLink RX0 230 "ThimbleSwap" "hallmarksLaidOut" "I", Cond.fieldLink RX0 22 "ThimbleSwap" "ownerOf" "[I", Cond.fieldLink RX0 9 "ThimbleSwap" "setOf" "[I", Cond.fieldLink RX0 13 "ThimbleSwap" "numberOf" "[I", Cond.fieldLink RX0 19 "ThimbleSwap" "stateOf" "[I", Cond.methodLink RX0 233 Lib.Math.max.name, Cond.static Lib.Math.max.name, Cond.initialized "java/lang/Math"]
def wsX0_count_r3 : List Cond := [Cond.code Lib.Math.max.name Lib.Math.max.code 2 (some .int), Cond.fieldLink RX0 16 "ThimbleSwap" "hallmarkOf" "[I", Cond.methodLink RX0 56 yJ7_fill_53178, Cond.static yJ7_fill_53178, Cond.initialized RJ7, Cond.code yJ7_fill_53178 cJ7_fill_53178 4 none, Cond.methodLink RX0 238 yX0_worthLaidOut, Cond.instanceMethod yX0_worthLaidOut, Cond.selects RX0 yX0_worthLaidOut yX0_worthLaidOut, Cond.code yX0_worthLaidOut cX0_worthLaidOut 5 (some .int), Cond.fieldLink RX0 33 "ThimbleSwap" "likings" "[[I", Cond.methodLink RX0 156 yJ6_bitCount_0f7a4, Cond.static yJ6_bitCount_0f7a4, Cond.initialized RJ6, Cond.code yJ6_bitCount_0f7a4 cJ6_bitCount_0f7a4 1 (some .int), Cond.constant RJ6 265 (1431655765), Cond.constant RJ6 266 (858993459), Cond.constant RJ6 267 (252645135), Cond.methodLink RX0 167 yX0_numbersLaidOut, Cond.instanceMethod yX0_numbersLaidOut, Cond.selects RX0 yX0_numbersLaidOut yX0_numbersLaidOut, Cond.code yX0_numbersLaidOut cX0_numbersLaidOut 4 (some .int), Cond.methodLink RX0 170 yX0_statesLaidOut, Cond.instanceMethod yX0_statesLaidOut]
def wsX0_count_r4 : List Cond := [Cond.selects RX0 yX0_statesLaidOut yX0_statesLaidOut, Cond.code yX0_statesLaidOut cX0_statesLaidOut 4 (some .int)]
def wsX0_count : List Cond := .code yX0_count cX0_count 2 (some .int) :: ((wsX0_count_r1 ++ (wsX0_count_r2 ++ (wsX0_count_r3 ++ wsX0_count_r4))) ++ wsX00 ++ (vx_atS RX0 211 "java/lang/IndexOutOfBoundsException" ["java/lang/RuntimeException", "java/lang/Exception"]).filter goodWord)
def wsX0_mean_r1 : List Cond := [Cond.fieldLink RX0 75 "ThimbleSwap" "thimbles" "I", Cond.methodLink RX0 184 yX0_worthOfAll, Cond.instanceMethod yX0_worthOfAll, Cond.selects RX0 yX0_worthOfAll yX0_worthOfAll, Cond.initialized RX0, Cond.code yX0_worthOfAll cX0_worthOfAll 3 (some .int), Cond.fieldLink RX0 45 "ThimbleSwap" "collectors" "I", Cond.methodLink RX0 99 yX0_worthNow, Cond.instanceMethod yX0_worthNow, Cond.selects RX0 yX0_worthNow yX0_worthNow, Cond.code yX0_worthNow cX0_worthNow 2 (some .int), Cond.methodLink RX0 164 yX0_layOutOwn, Cond.instanceMethod yX0_layOutOwn, Cond.selects RX0 yX0_layOutOwn yX0_layOutOwn, Cond.code yX0_layOutOwn cX0_layOutOwn 2 none, Cond.methodLink RX0 226 yX0_layOut, Cond.instanceMethod yX0_layOut, Cond.selects RX0 yX0_layOut yX0_layOut, Cond.code yX0_layOut cX0_layOut 6 none, Cond.fieldLink RX0 42 "ThimbleSwap" "greatestStates" "[I", Cond.fieldLink RX0 230 "ThimbleSwap" "hallmarksLaidOut" "I", Cond.fieldLink RX0 22 "ThimbleSwap" "ownerOf" "[I", Cond.fieldLink RX0 9 "ThimbleSwap" "setOf" "[I", Cond.fieldLink RX0 13 "ThimbleSwap" "numberOf" "[I"]
def wsX0_mean_r2 : List Cond := [Cond.fieldLink RX0 19 "ThimbleSwap" "stateOf" "[I", Cond.methodLink RX0 233 Lib.Math.max.name, Cond.static Lib.Math.max.name, Cond.initialized "java/lang/Math", Cond.code Lib.Math.max.name Lib.Math.max.code 2 (some .int), Cond.fieldLink RX0 16 "ThimbleSwap" "hallmarkOf" "[I", Cond.methodLink RX0 56 yJ7_fill_53178, Cond.static yJ7_fill_53178, Cond.initialized RJ7, Cond.code yJ7_fill_53178 cJ7_fill_53178 4 none, Cond.methodLink RX0 238 yX0_worthLaidOut, Cond.instanceMethod yX0_worthLaidOut, Cond.selects RX0 yX0_worthLaidOut yX0_worthLaidOut, Cond.code yX0_worthLaidOut cX0_worthLaidOut 5 (some .int), Cond.fieldLink RX0 33 "ThimbleSwap" "likings" "[[I", Cond.methodLink RX0 156 yJ6_bitCount_0f7a4, Cond.static yJ6_bitCount_0f7a4, Cond.initialized RJ6, Cond.code yJ6_bitCount_0f7a4 cJ6_bitCount_0f7a4 1 (some .int), Cond.constant RJ6 265 (1431655765), Cond.constant RJ6 266 (858993459), Cond.constant RJ6 267 (252645135), Cond.methodLink RX0 167 yX0_numbersLaidOut, Cond.instanceMethod yX0_numbersLaidOut]
def wsX0_mean_r3 : List Cond := [Cond.selects RX0 yX0_numbersLaidOut yX0_numbersLaidOut, Cond.code yX0_numbersLaidOut cX0_numbersLaidOut 4 (some .int), Cond.methodLink RX0 170 yX0_statesLaidOut, Cond.instanceMethod yX0_statesLaidOut, Cond.selects RX0 yX0_statesLaidOut yX0_statesLaidOut, Cond.code yX0_statesLaidOut cX0_statesLaidOut 4 (some .int)]
def wsX0_mean : List Cond := .code yX0_mean cX0_mean 1 (some .double) :: ((wsX0_mean_r1 ++ (wsX0_mean_r2 ++ wsX0_mean_r3)) ++ wsX00)
def wsX0_digestWithCollector_r1 : List Cond := [Cond.constantLong RX0 189 (31), Cond.fieldLink RX0 33 "ThimbleSwap" "likings" "[[I", Cond.fieldLink RX0 45 "ThimbleSwap" "collectors" "I", Cond.fieldLink RX0 36 "ThimbleSwap" "grudges" "[[I", Cond.methodLink RX0 201 yX0_collector, Cond.instanceMethod yX0_collector, Cond.selects RX0 yX0_collector yX0_collector, Cond.initialized RX0, Cond.code yX0_collector cX0_collector 3 (some .int), Cond.fieldLink RX0 39 "ThimbleSwap" "swapsOf" "[I", Cond.methodLink RX0 62 yX0_requireCollector, Cond.instanceMethod yX0_requireCollector, Cond.selects RX0 yX0_requireCollector yX0_requireCollector, Cond.code yX0_requireCollector cX0_requireCollector 2 none, Cond.classLink RX0 207 "java/lang/IndexOutOfBoundsException", Cond.initialized "java/lang/IndexOutOfBoundsException", Cond.methodLink RX0 66 yX0_isBelow, Cond.static yX0_isBelow, Cond.code yX0_isBelow cX0_isBelow 2 (some .boolean), Cond.methodLink RX0 85 yX0_requireRow, Cond.static yX0_requireRow, Cond.code yX0_requireRow cX0_requireRow 2 none, Cond.methodLink RX0 89 yX0_thimblesOf, Cond.instanceMethod yX0_thimblesOf]
def wsX0_digestWithCollector_r2 : List Cond := [Cond.selects RX0 yX0_thimblesOf yX0_thimblesOf, Cond.code yX0_thimblesOf cX0_thimblesOf 4 (some .int), Cond.fieldLink RX0 75 "ThimbleSwap" "thimbles" "I", Cond.fieldLink RX0 22 "ThimbleSwap" "ownerOf" "[I", Cond.methodLink RX0 93 yX0_thimblesLentBy, Cond.instanceMethod yX0_thimblesLentBy, Cond.selects RX0 yX0_thimblesLentBy yX0_thimblesLentBy, Cond.code yX0_thimblesLentBy cX0_thimblesLentBy 4 (some .int), Cond.methodLink RX0 220 yX0_isLent, Cond.instanceMethod yX0_isLent, Cond.selects RX0 yX0_isLent yX0_isLent, Cond.code yX0_isLent cX0_isLent 2 (some .boolean), Cond.fieldLink RX0 25 "ThimbleSwap" "lentTill" "[I", Cond.methodLink RX0 96 yX0_differentHallmarks, Cond.instanceMethod yX0_differentHallmarks, Cond.selects RX0 yX0_differentHallmarks yX0_differentHallmarks, Cond.code yX0_differentHallmarks cX0_differentHallmarks 2 (some .int), Cond.fieldLink RX0 230 "ThimbleSwap" "hallmarksLaidOut" "I", Cond.methodLink RX0 164 yX0_layOutOwn, Cond.instanceMethod yX0_layOutOwn, Cond.selects RX0 yX0_layOutOwn yX0_layOutOwn, Cond.code yX0_layOutOwn cX0_layOutOwn 2 none, Cond.methodLink RX0 226 yX0_layOut, Cond.instanceMethod yX0_layOut]
def wsX0_digestWithCollector_r3 : List Cond := [Cond.selects RX0 yX0_layOut yX0_layOut, Cond.code yX0_layOut cX0_layOut 6 none, Cond.fieldLink RX0 42 "ThimbleSwap" "greatestStates" "[I", Cond.fieldLink RX0 9 "ThimbleSwap" "setOf" "[I", Cond.fieldLink RX0 13 "ThimbleSwap" "numberOf" "[I", Cond.fieldLink RX0 19 "ThimbleSwap" "stateOf" "[I", Cond.methodLink RX0 233 Lib.Math.max.name, Cond.static Lib.Math.max.name, Cond.initialized "java/lang/Math", Cond.code Lib.Math.max.name Lib.Math.max.code 2 (some .int), Cond.fieldLink RX0 16 "ThimbleSwap" "hallmarkOf" "[I", Cond.methodLink RX0 56 yJ7_fill_53178, Cond.static yJ7_fill_53178, Cond.initialized RJ7, Cond.code yJ7_fill_53178 cJ7_fill_53178 4 none, Cond.methodLink RX0 156 yJ6_bitCount_0f7a4, Cond.static yJ6_bitCount_0f7a4, Cond.initialized RJ6, Cond.code yJ6_bitCount_0f7a4 cJ6_bitCount_0f7a4 1 (some .int), Cond.constant RJ6 265 (1431655765), Cond.constant RJ6 266 (858993459), Cond.constant RJ6 267 (252645135), Cond.methodLink RX0 99 yX0_worthNow, Cond.instanceMethod yX0_worthNow]
def wsX0_digestWithCollector_r4 : List Cond := [Cond.selects RX0 yX0_worthNow yX0_worthNow, Cond.code yX0_worthNow cX0_worthNow 2 (some .int), Cond.methodLink RX0 238 yX0_worthLaidOut, Cond.instanceMethod yX0_worthLaidOut, Cond.selects RX0 yX0_worthLaidOut yX0_worthLaidOut, Cond.code yX0_worthLaidOut cX0_worthLaidOut 5 (some .int), Cond.methodLink RX0 167 yX0_numbersLaidOut, Cond.instanceMethod yX0_numbersLaidOut, Cond.selects RX0 yX0_numbersLaidOut yX0_numbersLaidOut, Cond.code yX0_numbersLaidOut cX0_numbersLaidOut 4 (some .int), Cond.methodLink RX0 170 yX0_statesLaidOut, Cond.instanceMethod yX0_statesLaidOut, Cond.selects RX0 yX0_statesLaidOut yX0_statesLaidOut, Cond.code yX0_statesLaidOut cX0_statesLaidOut 4 (some .int), Cond.methodLink RX0 102 yX0_wholeSets, Cond.instanceMethod yX0_wholeSets, Cond.selects RX0 yX0_wholeSets yX0_wholeSets, Cond.code yX0_wholeSets cX0_wholeSets 4 (some .int), Cond.methodLink RX0 105 yX0_allGrudgesOf, Cond.instanceMethod yX0_allGrudgesOf, Cond.selects RX0 yX0_allGrudgesOf yX0_allGrudgesOf, Cond.code yX0_allGrudgesOf cX0_allGrudgesOf 4 (some .int)]
def wsX0_digestWithCollector : List Cond := .code yX0_digestWithCollector cX0_digestWithCollector 7 (some .long) :: ((wsX0_digestWithCollector_r1 ++ (wsX0_digestWithCollector_r2 ++ (wsX0_digestWithCollector_r3 ++ wsX0_digestWithCollector_r4))) ++ wsX00 ++ (vx_atS RX0 211 "java/lang/IndexOutOfBoundsException" ["java/lang/RuntimeException", "java/lang/Exception"]).filter goodWord)
def wsX0_digestWithThimble_r1 : List Cond := [Cond.constantLong RX0 189 (31), Cond.methodLink RX0 204 yX0_thimble, Cond.instanceMethod yX0_thimble, Cond.selects RX0 yX0_thimble yX0_thimble, Cond.initialized RX0, Cond.code yX0_thimble cX0_thimble 3 (some .int), Cond.fieldLink RX0 9 "ThimbleSwap" "setOf" "[I", Cond.fieldLink RX0 13 "ThimbleSwap" "numberOf" "[I", Cond.fieldLink RX0 16 "ThimbleSwap" "hallmarkOf" "[I", Cond.fieldLink RX0 19 "ThimbleSwap" "stateOf" "[I", Cond.fieldLink RX0 22 "ThimbleSwap" "ownerOf" "[I", Cond.fieldLink RX0 25 "ThimbleSwap" "lentTill" "[I", Cond.methodLink RX0 108 yX0_requireThimble, Cond.instanceMethod yX0_requireThimble, Cond.selects RX0 yX0_requireThimble yX0_requireThimble, Cond.code yX0_requireThimble cX0_requireThimble 2 none, Cond.classLink RX0 207 "java/lang/IndexOutOfBoundsException", Cond.initialized "java/lang/IndexOutOfBoundsException", Cond.fieldLink RX0 75 "ThimbleSwap" "thimbles" "I", Cond.methodLink RX0 66 yX0_isBelow, Cond.static yX0_isBelow, Cond.code yX0_isBelow cX0_isBelow 2 (some .boolean), Cond.methodLink RX0 85 yX0_requireRow, Cond.static yX0_requireRow]
def wsX0_digestWithThimble_r2 : List Cond := [Cond.code yX0_requireRow cX0_requireRow 2 none]
def wsX0_digestWithThimble : List Cond := .code yX0_digestWithThimble cX0_digestWithThimble 7 (some .long) :: ((wsX0_digestWithThimble_r1 ++ wsX0_digestWithThimble_r2) ++ wsX00 ++ (vx_atS RX0 211 "java/lang/IndexOutOfBoundsException" ["java/lang/RuntimeException", "java/lang/Exception"]).filter goodWord)
def wsX0_digest_r1 : List Cond := [Cond.constantLong RX0 187 (761), Cond.constantLong RX0 189 (31), Cond.fieldLink RX0 45 "ThimbleSwap" "collectors" "I", Cond.fieldLink RX0 75 "ThimbleSwap" "thimbles" "I", Cond.methodLink RX0 191 yX0_count, Cond.instanceMethod yX0_count, Cond.selects RX0 yX0_count yX0_count, Cond.initialized RX0, Cond.code yX0_count cX0_count 2 (some .int), Cond.fieldLink RX0 150 "ThimbleSwap" "week" "I", Cond.fieldLink RX0 181 "ThimbleSwap" "swapsAgreed" "I", Cond.fieldLink RX0 128 "ThimbleSwap" "swapsRefused" "I", Cond.methodLink RX0 85 yX0_requireRow, Cond.static yX0_requireRow, Cond.code yX0_requireRow cX0_requireRow 2 none, Cond.classLink RX0 207 "java/lang/IndexOutOfBoundsException", Cond.initialized "java/lang/IndexOutOfBoundsException", Cond.methodLink RX0 66 yX0_isBelow, Cond.static yX0_isBelow, Cond.code yX0_isBelow cX0_isBelow 2 (some .boolean), Cond.methodLink RX0 178 yX0_thimblesLent, Cond.instanceMethod yX0_thimblesLent, Cond.selects RX0 yX0_thimblesLent yX0_thimblesLent, Cond.code yX0_thimblesLent cX0_thimblesLent 3 (some .int)]
def wsX0_digest_r2 : List Cond := [Cond.methodLink RX0 220 yX0_isLent, Cond.instanceMethod yX0_isLent, Cond.selects RX0 yX0_isLent yX0_isLent, Cond.code yX0_isLent cX0_isLent 2 (some .boolean), Cond.fieldLink RX0 25 "ThimbleSwap" "lentTill" "[I", Cond.methodLink RX0 184 yX0_worthOfAll, Cond.instanceMethod yX0_worthOfAll, Cond.selects RX0 yX0_worthOfAll yX0_worthOfAll, Cond.code yX0_worthOfAll cX0_worthOfAll 3 (some .int), Cond.methodLink RX0 99 yX0_worthNow, Cond.instanceMethod yX0_worthNow, Cond.selects RX0 yX0_worthNow yX0_worthNow, Cond.code yX0_worthNow cX0_worthNow 2 (some .int), Cond.methodLink RX0 164 yX0_layOutOwn, Cond.instanceMethod yX0_layOutOwn, Cond.selects RX0 yX0_layOutOwn yX0_layOutOwn, Cond.code yX0_layOutOwn cX0_layOutOwn 2 none, Cond.methodLink RX0 226 yX0_layOut, Cond.instanceMethod yX0_layOut, Cond.selects RX0 yX0_layOut yX0_layOut, Cond.code yX0_layOut cX0_layOut 6 none, Cond.fieldLink RX0 42 "ThimbleSwap" "greatestStates" "[I", Cond.fieldLink RX0 230 "ThimbleSwap" "hallmarksLaidOut" "I", Cond.fieldLink RX0 22 "ThimbleSwap" "ownerOf" "[I"]
def wsX0_digest_r3 : List Cond := [Cond.fieldLink RX0 9 "ThimbleSwap" "setOf" "[I", Cond.fieldLink RX0 13 "ThimbleSwap" "numberOf" "[I", Cond.fieldLink RX0 19 "ThimbleSwap" "stateOf" "[I", Cond.methodLink RX0 233 Lib.Math.max.name, Cond.static Lib.Math.max.name, Cond.initialized "java/lang/Math", Cond.code Lib.Math.max.name Lib.Math.max.code 2 (some .int), Cond.fieldLink RX0 16 "ThimbleSwap" "hallmarkOf" "[I", Cond.methodLink RX0 56 yJ7_fill_53178, Cond.static yJ7_fill_53178, Cond.initialized RJ7, Cond.code yJ7_fill_53178 cJ7_fill_53178 4 none, Cond.methodLink RX0 238 yX0_worthLaidOut, Cond.instanceMethod yX0_worthLaidOut, Cond.selects RX0 yX0_worthLaidOut yX0_worthLaidOut, Cond.code yX0_worthLaidOut cX0_worthLaidOut 5 (some .int), Cond.fieldLink RX0 33 "ThimbleSwap" "likings" "[[I", Cond.methodLink RX0 156 yJ6_bitCount_0f7a4, Cond.static yJ6_bitCount_0f7a4, Cond.initialized RJ6, Cond.code yJ6_bitCount_0f7a4 cJ6_bitCount_0f7a4 1 (some .int), Cond.constant RJ6 265 (1431655765), Cond.constant RJ6 266 (858993459), Cond.constant RJ6 267 (252645135)]
def wsX0_digest_r4 : List Cond := [Cond.methodLink RX0 167 yX0_numbersLaidOut, Cond.instanceMethod yX0_numbersLaidOut, Cond.selects RX0 yX0_numbersLaidOut yX0_numbersLaidOut, Cond.code yX0_numbersLaidOut cX0_numbersLaidOut 4 (some .int), Cond.methodLink RX0 170 yX0_statesLaidOut, Cond.instanceMethod yX0_statesLaidOut, Cond.selects RX0 yX0_statesLaidOut yX0_statesLaidOut, Cond.code yX0_statesLaidOut cX0_statesLaidOut 4 (some .int), Cond.methodLink RX0 194 yX0_digestWithCollector, Cond.instanceMethod yX0_digestWithCollector, Cond.selects RX0 yX0_digestWithCollector yX0_digestWithCollector, Cond.code yX0_digestWithCollector cX0_digestWithCollector 7 (some .long), Cond.fieldLink RX0 36 "ThimbleSwap" "grudges" "[[I", Cond.methodLink RX0 201 yX0_collector, Cond.instanceMethod yX0_collector, Cond.selects RX0 yX0_collector yX0_collector, Cond.code yX0_collector cX0_collector 3 (some .int), Cond.fieldLink RX0 39 "ThimbleSwap" "swapsOf" "[I", Cond.methodLink RX0 62 yX0_requireCollector, Cond.instanceMethod yX0_requireCollector, Cond.selects RX0 yX0_requireCollector yX0_requireCollector, Cond.code yX0_requireCollector cX0_requireCollector 2 none, Cond.methodLink RX0 89 yX0_thimblesOf, Cond.instanceMethod yX0_thimblesOf]
def wsX0_digest_r5 : List Cond := [Cond.selects RX0 yX0_thimblesOf yX0_thimblesOf, Cond.code yX0_thimblesOf cX0_thimblesOf 4 (some .int), Cond.methodLink RX0 93 yX0_thimblesLentBy, Cond.instanceMethod yX0_thimblesLentBy, Cond.selects RX0 yX0_thimblesLentBy yX0_thimblesLentBy, Cond.code yX0_thimblesLentBy cX0_thimblesLentBy 4 (some .int), Cond.methodLink RX0 96 yX0_differentHallmarks, Cond.instanceMethod yX0_differentHallmarks, Cond.selects RX0 yX0_differentHallmarks yX0_differentHallmarks, Cond.code yX0_differentHallmarks cX0_differentHallmarks 2 (some .int), Cond.methodLink RX0 102 yX0_wholeSets, Cond.instanceMethod yX0_wholeSets, Cond.selects RX0 yX0_wholeSets yX0_wholeSets, Cond.code yX0_wholeSets cX0_wholeSets 4 (some .int), Cond.methodLink RX0 105 yX0_allGrudgesOf, Cond.instanceMethod yX0_allGrudgesOf, Cond.selects RX0 yX0_allGrudgesOf yX0_allGrudgesOf, Cond.code yX0_allGrudgesOf cX0_allGrudgesOf 4 (some .int), Cond.methodLink RX0 198 yX0_digestWithThimble, Cond.instanceMethod yX0_digestWithThimble, Cond.selects RX0 yX0_digestWithThimble yX0_digestWithThimble, Cond.code yX0_digestWithThimble cX0_digestWithThimble 7 (some .long), Cond.methodLink RX0 204 yX0_thimble, Cond.instanceMethod yX0_thimble]
def wsX0_digest_r6 : List Cond := [Cond.selects RX0 yX0_thimble yX0_thimble, Cond.code yX0_thimble cX0_thimble 3 (some .int), Cond.methodLink RX0 108 yX0_requireThimble, Cond.instanceMethod yX0_requireThimble, Cond.selects RX0 yX0_requireThimble yX0_requireThimble, Cond.code yX0_requireThimble cX0_requireThimble 2 none]
def wsX0_digest : List Cond := .code yX0_digest cX0_digest 4 (some .long) :: ((wsX0_digest_r1 ++ (wsX0_digest_r2 ++ (wsX0_digest_r3 ++ (wsX0_digest_r4 ++ (wsX0_digest_r5 ++ wsX0_digest_r6))))) ++ wsX00 ++ (vx_atS RX0 211 "java/lang/IndexOutOfBoundsException" ["java/lang/RuntimeException", "java/lang/Exception"]).filter goodWord)
def wsX1_init : List Cond := .code yX1_init cX1_init 1 none :: ([.methodLink RX1 1 objectInit, .instanceMethod objectInit, .code objectInit ⟨#[0xb1]⟩ 1 none, .arrayClass .int, .fieldLink RX1 9 "ThimbleSwapModel" "table" "[I", .fieldLink RX1 13 "ThimbleSwapModel" "likes" "[I", .fieldLink RX1 16 "ThimbleSwapModel" "grudges" "[I", .fieldLink RX1 19 "ThimbleSwapModel" "swaps" "[I", .fieldLink RX1 22 "ThimbleSwapModel" "numbers" "[I", .fieldLink RX1 25 "ThimbleSwapModel" "greatest" "[I"] ++ wsX10)
def wsX1_thrown : List Cond := .code yX1_thrown cX1_thrown 1 (some .int) :: ([.fieldLink RX1 28 "ThimbleSwapModel" "thrown" "I"] ++ wsX10)
def wsX1_fail : List Cond := .code yX1_fail cX1_fail 2 (some .int) :: ([.fieldLink RX1 28 "ThimbleSwapModel" "thrown" "I"] ++ wsX10)
def wsX1_isIn : List Cond := .code yX1_isIn cX1_isIn 3 (some .boolean) :: ([])
def wsX1_isCollector : List Cond := .code yX1_isCollector cX1_isCollector 2 (some .boolean) :: ([.fieldLink RX1 32 "ThimbleSwapModel" "collectors" "I", .methodLink RX1 35 yX1_isIn, .static yX1_isIn, .initialized RX1, .code yX1_isIn cX1_isIn 3 (some .boolean)] ++ wsX10)
def wsX1_isThimble : List Cond := .code yX1_isThimble cX1_isThimble 2 (some .boolean) :: ([.fieldLink RX1 39 "ThimbleSwapModel" "thimbles" "I", .methodLink RX1 35 yX1_isIn, .static yX1_isIn, .initialized RX1, .code yX1_isIn cX1_isIn 3 (some .boolean)] ++ wsX10)
def wsX1_isSet : List Cond := .code yX1_isSet cX1_isSet 1 (some .boolean) :: ([.methodLink RX1 35 yX1_isIn, .static yX1_isIn, .initialized RX1, .code yX1_isIn cX1_isIn 3 (some .boolean)])
def wsX1_th : List Cond := .code yX1_th cX1_th 3 (some .int) :: ([.fieldLink RX1 9 "ThimbleSwapModel" "table" "[I"] ++ wsX10)
def wsX1_set : List Cond := .code yX1_set cX1_set 4 none :: ([.fieldLink RX1 9 "ThimbleSwapModel" "table" "[I"] ++ wsX10)
def wsX1_isLent : List Cond := .code yX1_isLent cX1_isLent 2 (some .boolean) :: ([.methodLink RX1 42 yX1_th, .instanceMethod yX1_th, .selects RX1 yX1_th yX1_th, .initialized RX1, .code yX1_th cX1_th 3 (some .int), .fieldLink RX1 9 "ThimbleSwapModel" "table" "[I"] ++ wsX10)
def wsX1_join : List Cond := .code yX1_join cX1_join 2 (some .int) :: ([.fieldLink RX1 28 "ThimbleSwapModel" "thrown" "I", .fieldLink RX1 32 "ThimbleSwapModel" "collectors" "I", .fieldLink RX1 13 "ThimbleSwapModel" "likes" "[I", .methodLink RX1 46 yX1_fail, .instanceMethod yX1_fail, .selects RX1 yX1_fail yX1_fail, .initialized RX1, .code yX1_fail cX1_fail 2 (some .int)] ++ wsX10)
def wsX1_find : List Cond := .code yX1_find cX1_find 7 (some .int) :: ([.fieldLink RX1 28 "ThimbleSwapModel" "thrown" "I", .fieldLink RX1 39 "ThimbleSwapModel" "thimbles" "I", .arrayClass .int, .fieldLink RX1 9 "ThimbleSwapModel" "table" "[I", .methodLink RX1 57 arraycopyName, .native arraycopyName, .static arraycopyName, .initialized "java/lang/System", .methodLink RX1 50 yX1_isCollector, .instanceMethod yX1_isCollector, .selects RX1 yX1_isCollector yX1_isCollector, .initialized RX1, .code yX1_isCollector cX1_isCollector 2 (some .boolean), .fieldLink RX1 32 "ThimbleSwapModel" "collectors" "I", .methodLink RX1 35 yX1_isIn, .static yX1_isIn, .code yX1_isIn cX1_isIn 3 (some .boolean), .methodLink RX1 46 yX1_fail, .instanceMethod yX1_fail, .selects RX1 yX1_fail yX1_fail, .code yX1_fail cX1_fail 2 (some .int), .methodLink RX1 54 yX1_isSet, .static yX1_isSet, .code yX1_isSet cX1_isSet 1 (some .boolean)] ++ wsX10)
def wsX1_like : List Cond := .code yX1_like cX1_like 5 (some .int) :: ([.fieldLink RX1 28 "ThimbleSwapModel" "thrown" "I", .fieldLink RX1 13 "ThimbleSwapModel" "likes" "[I", .methodLink RX1 50 yX1_isCollector, .instanceMethod yX1_isCollector, .selects RX1 yX1_isCollector yX1_isCollector, .initialized RX1, .code yX1_isCollector cX1_isCollector 2 (some .boolean), .fieldLink RX1 32 "ThimbleSwapModel" "collectors" "I", .methodLink RX1 35 yX1_isIn, .static yX1_isIn, .code yX1_isIn cX1_isIn 3 (some .boolean), .methodLink RX1 54 yX1_isSet, .static yX1_isSet, .code yX1_isSet cX1_isSet 1 (some .boolean), .methodLink RX1 46 yX1_fail, .instanceMethod yX1_fail, .selects RX1 yX1_fail yX1_fail, .code yX1_fail cX1_fail 2 (some .int)] ++ wsX10)
def wsX1_gather : List Cond := .code yX1_gather cX1_gather 5 (some .int) :: ([.fieldLink RX1 25 "ThimbleSwapModel" "greatest" "[I", .fieldLink RX1 39 "ThimbleSwapModel" "thimbles" "I", .methodLink RX1 63 Lib.Math.max.name, .static Lib.Math.max.name, .initialized "java/lang/Math", .code Lib.Math.max.name Lib.Math.max.code 2 (some .int), .methodLink RX1 42 yX1_th, .instanceMethod yX1_th, .selects RX1 yX1_th yX1_th, .initialized RX1, .code yX1_th cX1_th 3 (some .int), .fieldLink RX1 9 "ThimbleSwapModel" "table" "[I"] ++ wsX10)
def wsX1_states : List Cond := .code yX1_states cX1_states 6 (some .int) :: ([.fieldLink RX1 25 "ThimbleSwapModel" "greatest" "[I", .methodLink RX1 63 Lib.Math.max.name, .static Lib.Math.max.name, .initialized "java/lang/Math", .code Lib.Math.max.name Lib.Math.max.code 2 (some .int)] ++ wsX10)
def wsX1_hallmarks : List Cond := .code yX1_hallmarks cX1_hallmarks 4 (some .int) :: ([.fieldLink RX1 39 "ThimbleSwapModel" "thimbles" "I", .methodLink RX1 42 yX1_th, .instanceMethod yX1_th, .selects RX1 yX1_th yX1_th, .initialized RX1, .code yX1_th cX1_th 3 (some .int), .fieldLink RX1 9 "ThimbleSwapModel" "table" "[I", .methodLink RX1 68 yJ6_bitCount_0f7a4, .static yJ6_bitCount_0f7a4, .initialized RJ6, .code yJ6_bitCount_0f7a4 cJ6_bitCount_0f7a4 1 (some .int), .constant RJ6 265 (1431655765), .constant RJ6 266 (858993459), .constant RJ6 267 (252645135)] ++ wsX10)
def wsX1_worth_r1 : List Cond := [Cond.fieldLink RX1 13 "ThimbleSwapModel" "likes" "[I", Cond.methodLink RX1 73 yX1_hallmarks, Cond.instanceMethod yX1_hallmarks, Cond.selects RX1 yX1_hallmarks yX1_hallmarks, Cond.initialized RX1, Cond.code yX1_hallmarks cX1_hallmarks 4 (some .int), Cond.fieldLink RX1 39 "ThimbleSwapModel" "thimbles" "I", Cond.methodLink RX1 42 yX1_th, Cond.instanceMethod yX1_th, Cond.selects RX1 yX1_th yX1_th, Cond.code yX1_th cX1_th 3 (some .int), Cond.fieldLink RX1 9 "ThimbleSwapModel" "table" "[I", Cond.methodLink RX1 68 yJ6_bitCount_0f7a4, Cond.static yJ6_bitCount_0f7a4, Cond.initialized RJ6, Cond.code yJ6_bitCount_0f7a4 cJ6_bitCount_0f7a4 1 (some .int), Cond.constant RJ6 265 (1431655765), Cond.constant RJ6 266 (858993459), Cond.constant RJ6 267 (252645135), Cond.methodLink RX1 76 yX1_gather, Cond.instanceMethod yX1_gather, Cond.selects RX1 yX1_gather yX1_gather, Cond.code yX1_gather cX1_gather 5 (some .int), Cond.fieldLink RX1 25 "ThimbleSwapModel" "greatest" "[I"]
def wsX1_worth_r2 : List Cond := [Cond.methodLink RX1 63 Lib.Math.max.name, Cond.static Lib.Math.max.name, Cond.initialized "java/lang/Math", Cond.code Lib.Math.max.name Lib.Math.max.code 2 (some .int), Cond.methodLink RX1 79 yX1_states, Cond.instanceMethod yX1_states, Cond.selects RX1 yX1_states yX1_states, Cond.code yX1_states cX1_states 6 (some .int)]
def wsX1_worth : List Cond := .code yX1_worth cX1_worth 5 (some .int) :: ((wsX1_worth_r1 ++ wsX1_worth_r2) ++ wsX10)
def wsX1_collectorTold_r1 : List Cond := [Cond.fieldLink RX1 39 "ThimbleSwapModel" "thimbles" "I", Cond.fieldLink RX1 32 "ThimbleSwapModel" "collectors" "I", Cond.fieldLink RX1 16 "ThimbleSwapModel" "grudges" "[I", Cond.fieldLink RX1 19 "ThimbleSwapModel" "swaps" "[I", Cond.methodLink RX1 42 yX1_th, Cond.instanceMethod yX1_th, Cond.selects RX1 yX1_th yX1_th, Cond.initialized RX1, Cond.code yX1_th cX1_th 3 (some .int), Cond.fieldLink RX1 9 "ThimbleSwapModel" "table" "[I", Cond.methodLink RX1 83 yX1_isLent, Cond.instanceMethod yX1_isLent, Cond.selects RX1 yX1_isLent yX1_isLent, Cond.code yX1_isLent cX1_isLent 2 (some .boolean), Cond.methodLink RX1 73 yX1_hallmarks, Cond.instanceMethod yX1_hallmarks, Cond.selects RX1 yX1_hallmarks yX1_hallmarks, Cond.code yX1_hallmarks cX1_hallmarks 4 (some .int), Cond.methodLink RX1 68 yJ6_bitCount_0f7a4, Cond.static yJ6_bitCount_0f7a4, Cond.initialized RJ6, Cond.code yJ6_bitCount_0f7a4 cJ6_bitCount_0f7a4 1 (some .int), Cond.constant RJ6 265 (1431655765), Cond.constant RJ6 266 (858993459)]
def wsX1_collectorTold_r2 : List Cond := [Cond.constant RJ6 267 (252645135), Cond.methodLink RX1 86 yX1_worth, Cond.instanceMethod yX1_worth, Cond.selects RX1 yX1_worth yX1_worth, Cond.code yX1_worth cX1_worth 5 (some .int), Cond.fieldLink RX1 13 "ThimbleSwapModel" "likes" "[I", Cond.methodLink RX1 76 yX1_gather, Cond.instanceMethod yX1_gather, Cond.selects RX1 yX1_gather yX1_gather, Cond.code yX1_gather cX1_gather 5 (some .int), Cond.fieldLink RX1 25 "ThimbleSwapModel" "greatest" "[I", Cond.methodLink RX1 63 Lib.Math.max.name, Cond.static Lib.Math.max.name, Cond.initialized "java/lang/Math", Cond.code Lib.Math.max.name Lib.Math.max.code 2 (some .int), Cond.methodLink RX1 79 yX1_states, Cond.instanceMethod yX1_states, Cond.selects RX1 yX1_states yX1_states, Cond.code yX1_states cX1_states 6 (some .int)]
def wsX1_collectorTold : List Cond := .code yX1_collectorTold cX1_collectorTold 5 (some .int) :: ((wsX1_collectorTold_r1 ++ wsX1_collectorTold_r2) ++ wsX10)
def wsX1_collector_r1 : List Cond := [Cond.fieldLink RX1 28 "ThimbleSwapModel" "thrown" "I", Cond.methodLink RX1 50 yX1_isCollector, Cond.instanceMethod yX1_isCollector, Cond.selects RX1 yX1_isCollector yX1_isCollector, Cond.initialized RX1, Cond.code yX1_isCollector cX1_isCollector 2 (some .boolean), Cond.fieldLink RX1 32 "ThimbleSwapModel" "collectors" "I", Cond.methodLink RX1 35 yX1_isIn, Cond.static yX1_isIn, Cond.code yX1_isIn cX1_isIn 3 (some .boolean), Cond.methodLink RX1 89 yX1_collectorTold, Cond.instanceMethod yX1_collectorTold, Cond.selects RX1 yX1_collectorTold yX1_collectorTold, Cond.code yX1_collectorTold cX1_collectorTold 5 (some .int), Cond.fieldLink RX1 39 "ThimbleSwapModel" "thimbles" "I", Cond.fieldLink RX1 16 "ThimbleSwapModel" "grudges" "[I", Cond.fieldLink RX1 19 "ThimbleSwapModel" "swaps" "[I", Cond.methodLink RX1 42 yX1_th, Cond.instanceMethod yX1_th, Cond.selects RX1 yX1_th yX1_th, Cond.code yX1_th cX1_th 3 (some .int), Cond.fieldLink RX1 9 "ThimbleSwapModel" "table" "[I", Cond.methodLink RX1 83 yX1_isLent, Cond.instanceMethod yX1_isLent]
def wsX1_collector_r2 : List Cond := [Cond.selects RX1 yX1_isLent yX1_isLent, Cond.code yX1_isLent cX1_isLent 2 (some .boolean), Cond.methodLink RX1 73 yX1_hallmarks, Cond.instanceMethod yX1_hallmarks, Cond.selects RX1 yX1_hallmarks yX1_hallmarks, Cond.code yX1_hallmarks cX1_hallmarks 4 (some .int), Cond.methodLink RX1 68 yJ6_bitCount_0f7a4, Cond.static yJ6_bitCount_0f7a4, Cond.initialized RJ6, Cond.code yJ6_bitCount_0f7a4 cJ6_bitCount_0f7a4 1 (some .int), Cond.constant RJ6 265 (1431655765), Cond.constant RJ6 266 (858993459), Cond.constant RJ6 267 (252645135), Cond.methodLink RX1 86 yX1_worth, Cond.instanceMethod yX1_worth, Cond.selects RX1 yX1_worth yX1_worth, Cond.code yX1_worth cX1_worth 5 (some .int), Cond.fieldLink RX1 13 "ThimbleSwapModel" "likes" "[I", Cond.methodLink RX1 76 yX1_gather, Cond.instanceMethod yX1_gather, Cond.selects RX1 yX1_gather yX1_gather, Cond.code yX1_gather cX1_gather 5 (some .int), Cond.fieldLink RX1 25 "ThimbleSwapModel" "greatest" "[I", Cond.methodLink RX1 63 Lib.Math.max.name]
def wsX1_collector_r3 : List Cond := [Cond.static Lib.Math.max.name, Cond.initialized "java/lang/Math", Cond.code Lib.Math.max.name Lib.Math.max.code 2 (some .int), Cond.methodLink RX1 79 yX1_states, Cond.instanceMethod yX1_states, Cond.selects RX1 yX1_states yX1_states, Cond.code yX1_states cX1_states 6 (some .int), Cond.methodLink RX1 46 yX1_fail, Cond.instanceMethod yX1_fail, Cond.selects RX1 yX1_fail yX1_fail, Cond.code yX1_fail cX1_fail 2 (some .int)]
def wsX1_collector : List Cond := .code yX1_collector cX1_collector 3 (some .int) :: ((wsX1_collector_r1 ++ (wsX1_collector_r2 ++ wsX1_collector_r3)) ++ wsX10)
def wsX1_grudge : List Cond := .code yX1_grudge cX1_grudge 3 (some .int) :: ([.fieldLink RX1 28 "ThimbleSwapModel" "thrown" "I", .fieldLink RX1 16 "ThimbleSwapModel" "grudges" "[I", .methodLink RX1 50 yX1_isCollector, .instanceMethod yX1_isCollector, .selects RX1 yX1_isCollector yX1_isCollector, .initialized RX1, .code yX1_isCollector cX1_isCollector 2 (some .boolean), .fieldLink RX1 32 "ThimbleSwapModel" "collectors" "I", .methodLink RX1 35 yX1_isIn, .static yX1_isIn, .code yX1_isIn cX1_isIn 3 (some .boolean), .methodLink RX1 46 yX1_fail, .instanceMethod yX1_fail, .selects RX1 yX1_fail yX1_fail, .code yX1_fail cX1_fail 2 (some .int)] ++ wsX10)
def wsX1_thimble : List Cond := .code yX1_thimble cX1_thimble 3 (some .int) :: ([.fieldLink RX1 28 "ThimbleSwapModel" "thrown" "I", .methodLink RX1 92 yX1_isThimble, .instanceMethod yX1_isThimble, .selects RX1 yX1_isThimble yX1_isThimble, .initialized RX1, .code yX1_isThimble cX1_isThimble 2 (some .boolean), .fieldLink RX1 39 "ThimbleSwapModel" "thimbles" "I", .methodLink RX1 35 yX1_isIn, .static yX1_isIn, .code yX1_isIn cX1_isIn 3 (some .boolean), .methodLink RX1 42 yX1_th, .instanceMethod yX1_th, .selects RX1 yX1_th yX1_th, .code yX1_th cX1_th 3 (some .int), .fieldLink RX1 9 "ThimbleSwapModel" "table" "[I", .methodLink RX1 46 yX1_fail, .instanceMethod yX1_fail, .selects RX1 yX1_fail yX1_fail, .code yX1_fail cX1_fail 2 (some .int)] ++ wsX10)
def wsX1_exchange : List Cond := .code yX1_exchange cX1_exchange 4 none :: ([.methodLink RX1 42 yX1_th, .instanceMethod yX1_th, .selects RX1 yX1_th yX1_th, .initialized RX1, .code yX1_th cX1_th 3 (some .int), .fieldLink RX1 9 "ThimbleSwapModel" "table" "[I", .methodLink RX1 95 yX1_set, .instanceMethod yX1_set, .selects RX1 yX1_set yX1_set, .code yX1_set cX1_set 4 none] ++ wsX10)
def wsX1_gain_r1 : List Cond := [Cond.methodLink RX1 42 yX1_th, Cond.instanceMethod yX1_th, Cond.selects RX1 yX1_th yX1_th, Cond.initialized RX1, Cond.code yX1_th cX1_th 3 (some .int), Cond.fieldLink RX1 9 "ThimbleSwapModel" "table" "[I", Cond.methodLink RX1 86 yX1_worth, Cond.instanceMethod yX1_worth, Cond.selects RX1 yX1_worth yX1_worth, Cond.code yX1_worth cX1_worth 5 (some .int), Cond.fieldLink RX1 13 "ThimbleSwapModel" "likes" "[I", Cond.methodLink RX1 73 yX1_hallmarks, Cond.instanceMethod yX1_hallmarks, Cond.selects RX1 yX1_hallmarks yX1_hallmarks, Cond.code yX1_hallmarks cX1_hallmarks 4 (some .int), Cond.fieldLink RX1 39 "ThimbleSwapModel" "thimbles" "I", Cond.methodLink RX1 68 yJ6_bitCount_0f7a4, Cond.static yJ6_bitCount_0f7a4, Cond.initialized RJ6, Cond.code yJ6_bitCount_0f7a4 cJ6_bitCount_0f7a4 1 (some .int), Cond.constant RJ6 265 (1431655765), Cond.constant RJ6 266 (858993459), Cond.constant RJ6 267 (252645135), Cond.methodLink RX1 76 yX1_gather]
def wsX1_gain_r2 : List Cond := [Cond.instanceMethod yX1_gather, Cond.selects RX1 yX1_gather yX1_gather, Cond.code yX1_gather cX1_gather 5 (some .int), Cond.fieldLink RX1 25 "ThimbleSwapModel" "greatest" "[I", Cond.methodLink RX1 63 Lib.Math.max.name, Cond.static Lib.Math.max.name, Cond.initialized "java/lang/Math", Cond.code Lib.Math.max.name Lib.Math.max.code 2 (some .int), Cond.methodLink RX1 79 yX1_states, Cond.instanceMethod yX1_states, Cond.selects RX1 yX1_states yX1_states, Cond.code yX1_states cX1_states 6 (some .int), Cond.methodLink RX1 99 yX1_exchange, Cond.instanceMethod yX1_exchange, Cond.selects RX1 yX1_exchange yX1_exchange, Cond.code yX1_exchange cX1_exchange 4 none, Cond.methodLink RX1 95 yX1_set, Cond.instanceMethod yX1_set, Cond.selects RX1 yX1_set yX1_set, Cond.code yX1_set cX1_set 4 none]
def wsX1_gain : List Cond := .code yX1_gain cX1_gain 6 (some .int) :: ((wsX1_gain_r1 ++ wsX1_gain_r2) ++ wsX10)
def wsX1_gains_r1 : List Cond := [Cond.fieldLink RX1 28 "ThimbleSwapModel" "thrown" "I", Cond.methodLink RX1 92 yX1_isThimble, Cond.instanceMethod yX1_isThimble, Cond.selects RX1 yX1_isThimble yX1_isThimble, Cond.initialized RX1, Cond.code yX1_isThimble cX1_isThimble 2 (some .boolean), Cond.fieldLink RX1 39 "ThimbleSwapModel" "thimbles" "I", Cond.methodLink RX1 35 yX1_isIn, Cond.static yX1_isIn, Cond.code yX1_isIn cX1_isIn 3 (some .boolean), Cond.methodLink RX1 46 yX1_fail, Cond.instanceMethod yX1_fail, Cond.selects RX1 yX1_fail yX1_fail, Cond.code yX1_fail cX1_fail 2 (some .int), Cond.methodLink RX1 42 yX1_th, Cond.instanceMethod yX1_th, Cond.selects RX1 yX1_th yX1_th, Cond.code yX1_th cX1_th 3 (some .int), Cond.fieldLink RX1 9 "ThimbleSwapModel" "table" "[I", Cond.methodLink RX1 103 yX1_gain, Cond.instanceMethod yX1_gain, Cond.selects RX1 yX1_gain yX1_gain, Cond.code yX1_gain cX1_gain 6 (some .int), Cond.methodLink RX1 86 yX1_worth]
def wsX1_gains_r2 : List Cond := [Cond.instanceMethod yX1_worth, Cond.selects RX1 yX1_worth yX1_worth, Cond.code yX1_worth cX1_worth 5 (some .int), Cond.fieldLink RX1 13 "ThimbleSwapModel" "likes" "[I", Cond.methodLink RX1 73 yX1_hallmarks, Cond.instanceMethod yX1_hallmarks, Cond.selects RX1 yX1_hallmarks yX1_hallmarks, Cond.code yX1_hallmarks cX1_hallmarks 4 (some .int), Cond.methodLink RX1 68 yJ6_bitCount_0f7a4, Cond.static yJ6_bitCount_0f7a4, Cond.initialized RJ6, Cond.code yJ6_bitCount_0f7a4 cJ6_bitCount_0f7a4 1 (some .int), Cond.constant RJ6 265 (1431655765), Cond.constant RJ6 266 (858993459), Cond.constant RJ6 267 (252645135), Cond.methodLink RX1 76 yX1_gather, Cond.instanceMethod yX1_gather, Cond.selects RX1 yX1_gather yX1_gather, Cond.code yX1_gather cX1_gather 5 (some .int), Cond.fieldLink RX1 25 "ThimbleSwapModel" "greatest" "[I", Cond.methodLink RX1 63 Lib.Math.max.name, Cond.static Lib.Math.max.name, Cond.initialized "java/lang/Math", Cond.code Lib.Math.max.name Lib.Math.max.code 2 (some .int)]
def wsX1_gains_r3 : List Cond := [Cond.methodLink RX1 79 yX1_states, Cond.instanceMethod yX1_states, Cond.selects RX1 yX1_states yX1_states, Cond.code yX1_states cX1_states 6 (some .int), Cond.methodLink RX1 99 yX1_exchange, Cond.instanceMethod yX1_exchange, Cond.selects RX1 yX1_exchange yX1_exchange, Cond.code yX1_exchange cX1_exchange 4 none, Cond.methodLink RX1 95 yX1_set, Cond.instanceMethod yX1_set, Cond.selects RX1 yX1_set yX1_set, Cond.code yX1_set cX1_set 4 none]
def wsX1_gains : List Cond := .code yX1_gains cX1_gains 3 (some .int) :: ((wsX1_gains_r1 ++ (wsX1_gains_r2 ++ wsX1_gains_r3)) ++ wsX10)
def wsX1_isEnough_r1 : List Cond := [Cond.fieldLink RX1 16 "ThimbleSwapModel" "grudges" "[I", Cond.methodLink RX1 103 yX1_gain, Cond.instanceMethod yX1_gain, Cond.selects RX1 yX1_gain yX1_gain, Cond.initialized RX1, Cond.code yX1_gain cX1_gain 6 (some .int), Cond.methodLink RX1 42 yX1_th, Cond.instanceMethod yX1_th, Cond.selects RX1 yX1_th yX1_th, Cond.code yX1_th cX1_th 3 (some .int), Cond.fieldLink RX1 9 "ThimbleSwapModel" "table" "[I", Cond.methodLink RX1 86 yX1_worth, Cond.instanceMethod yX1_worth, Cond.selects RX1 yX1_worth yX1_worth, Cond.code yX1_worth cX1_worth 5 (some .int), Cond.fieldLink RX1 13 "ThimbleSwapModel" "likes" "[I", Cond.methodLink RX1 73 yX1_hallmarks, Cond.instanceMethod yX1_hallmarks, Cond.selects RX1 yX1_hallmarks yX1_hallmarks, Cond.code yX1_hallmarks cX1_hallmarks 4 (some .int), Cond.fieldLink RX1 39 "ThimbleSwapModel" "thimbles" "I", Cond.methodLink RX1 68 yJ6_bitCount_0f7a4, Cond.static yJ6_bitCount_0f7a4, Cond.initialized RJ6]
def wsX1_isEnough_r2 : List Cond := [Cond.code yJ6_bitCount_0f7a4 cJ6_bitCount_0f7a4 1 (some .int), Cond.constant RJ6 265 (1431655765), Cond.constant RJ6 266 (858993459), Cond.constant RJ6 267 (252645135), Cond.methodLink RX1 76 yX1_gather, Cond.instanceMethod yX1_gather, Cond.selects RX1 yX1_gather yX1_gather, Cond.code yX1_gather cX1_gather 5 (some .int), Cond.fieldLink RX1 25 "ThimbleSwapModel" "greatest" "[I", Cond.methodLink RX1 63 Lib.Math.max.name, Cond.static Lib.Math.max.name, Cond.initialized "java/lang/Math", Cond.code Lib.Math.max.name Lib.Math.max.code 2 (some .int), Cond.methodLink RX1 79 yX1_states, Cond.instanceMethod yX1_states, Cond.selects RX1 yX1_states yX1_states, Cond.code yX1_states cX1_states 6 (some .int), Cond.methodLink RX1 99 yX1_exchange, Cond.instanceMethod yX1_exchange, Cond.selects RX1 yX1_exchange yX1_exchange, Cond.code yX1_exchange cX1_exchange 4 none, Cond.methodLink RX1 95 yX1_set, Cond.instanceMethod yX1_set, Cond.selects RX1 yX1_set yX1_set]
def wsX1_isEnough_r3 : List Cond := [Cond.code yX1_set cX1_set 4 none]
def wsX1_isEnough : List Cond := .code yX1_isEnough cX1_isEnough 3 (some .boolean) :: ((wsX1_isEnough_r1 ++ (wsX1_isEnough_r2 ++ wsX1_isEnough_r3)) ++ wsX10)
def wsX1_weigh : List Cond := .code yX1_weigh cX1_weigh 4 none :: ([.fieldLink RX1 16 "ThimbleSwapModel" "grudges" "[I", .methodLink RX1 106 Lib.Math.min.name, .static Lib.Math.min.name, .initialized "java/lang/Math", .code Lib.Math.min.name Lib.Math.min.code 2 (some .int), .methodLink RX1 63 Lib.Math.max.name, .static Lib.Math.max.name, .code Lib.Math.max.name Lib.Math.max.code 2 (some .int)] ++ wsX10)
def wsX1_swapped_r1 : List Cond := [Cond.fieldLink RX1 19 "ThimbleSwapModel" "swaps" "[I", Cond.fieldLink RX1 22 "ThimbleSwapModel" "numbers" "[I", Cond.methodLink RX1 42 yX1_th, Cond.instanceMethod yX1_th, Cond.selects RX1 yX1_th yX1_th, Cond.initialized RX1, Cond.code yX1_th cX1_th 3 (some .int), Cond.fieldLink RX1 9 "ThimbleSwapModel" "table" "[I", Cond.methodLink RX1 109 yX1_isEnough, Cond.instanceMethod yX1_isEnough, Cond.selects RX1 yX1_isEnough yX1_isEnough, Cond.code yX1_isEnough cX1_isEnough 3 (some .boolean), Cond.fieldLink RX1 16 "ThimbleSwapModel" "grudges" "[I", Cond.methodLink RX1 103 yX1_gain, Cond.instanceMethod yX1_gain, Cond.selects RX1 yX1_gain yX1_gain, Cond.code yX1_gain cX1_gain 6 (some .int), Cond.methodLink RX1 86 yX1_worth, Cond.instanceMethod yX1_worth, Cond.selects RX1 yX1_worth yX1_worth, Cond.code yX1_worth cX1_worth 5 (some .int), Cond.fieldLink RX1 13 "ThimbleSwapModel" "likes" "[I", Cond.methodLink RX1 73 yX1_hallmarks, Cond.instanceMethod yX1_hallmarks]
def wsX1_swapped_r2 : List Cond := [Cond.selects RX1 yX1_hallmarks yX1_hallmarks, Cond.code yX1_hallmarks cX1_hallmarks 4 (some .int), Cond.fieldLink RX1 39 "ThimbleSwapModel" "thimbles" "I", Cond.methodLink RX1 68 yJ6_bitCount_0f7a4, Cond.static yJ6_bitCount_0f7a4, Cond.initialized RJ6, Cond.code yJ6_bitCount_0f7a4 cJ6_bitCount_0f7a4 1 (some .int), Cond.constant RJ6 265 (1431655765), Cond.constant RJ6 266 (858993459), Cond.constant RJ6 267 (252645135), Cond.methodLink RX1 76 yX1_gather, Cond.instanceMethod yX1_gather, Cond.selects RX1 yX1_gather yX1_gather, Cond.code yX1_gather cX1_gather 5 (some .int), Cond.fieldLink RX1 25 "ThimbleSwapModel" "greatest" "[I", Cond.methodLink RX1 63 Lib.Math.max.name, Cond.static Lib.Math.max.name, Cond.initialized "java/lang/Math", Cond.code Lib.Math.max.name Lib.Math.max.code 2 (some .int), Cond.methodLink RX1 79 yX1_states, Cond.instanceMethod yX1_states, Cond.selects RX1 yX1_states yX1_states, Cond.code yX1_states cX1_states 6 (some .int), Cond.methodLink RX1 99 yX1_exchange]
def wsX1_swapped_r3 : List Cond := [Cond.instanceMethod yX1_exchange, Cond.selects RX1 yX1_exchange yX1_exchange, Cond.code yX1_exchange cX1_exchange 4 none, Cond.methodLink RX1 95 yX1_set, Cond.instanceMethod yX1_set, Cond.selects RX1 yX1_set yX1_set, Cond.code yX1_set cX1_set 4 none, Cond.methodLink RX1 113 yX1_weigh, Cond.instanceMethod yX1_weigh, Cond.selects RX1 yX1_weigh yX1_weigh, Cond.code yX1_weigh cX1_weigh 4 none, Cond.methodLink RX1 106 Lib.Math.min.name, Cond.static Lib.Math.min.name, Cond.code Lib.Math.min.name Lib.Math.min.code 2 (some .int)]
def wsX1_swapped : List Cond := .code yX1_swapped cX1_swapped 7 (some .int) :: ((wsX1_swapped_r1 ++ (wsX1_swapped_r2 ++ wsX1_swapped_r3)) ++ wsX10)
def wsX1_swap_r1 : List Cond := [Cond.fieldLink RX1 28 "ThimbleSwapModel" "thrown" "I", Cond.methodLink RX1 92 yX1_isThimble, Cond.instanceMethod yX1_isThimble, Cond.selects RX1 yX1_isThimble yX1_isThimble, Cond.initialized RX1, Cond.code yX1_isThimble cX1_isThimble 2 (some .boolean), Cond.fieldLink RX1 39 "ThimbleSwapModel" "thimbles" "I", Cond.methodLink RX1 35 yX1_isIn, Cond.static yX1_isIn, Cond.code yX1_isIn cX1_isIn 3 (some .boolean), Cond.methodLink RX1 46 yX1_fail, Cond.instanceMethod yX1_fail, Cond.selects RX1 yX1_fail yX1_fail, Cond.code yX1_fail cX1_fail 2 (some .int), Cond.methodLink RX1 42 yX1_th, Cond.instanceMethod yX1_th, Cond.selects RX1 yX1_th yX1_th, Cond.code yX1_th cX1_th 3 (some .int), Cond.fieldLink RX1 9 "ThimbleSwapModel" "table" "[I", Cond.methodLink RX1 83 yX1_isLent, Cond.instanceMethod yX1_isLent, Cond.selects RX1 yX1_isLent yX1_isLent, Cond.code yX1_isLent cX1_isLent 2 (some .boolean), Cond.methodLink RX1 116 yX1_swapped]
def wsX1_swap_r2 : List Cond := [Cond.instanceMethod yX1_swapped, Cond.selects RX1 yX1_swapped yX1_swapped, Cond.code yX1_swapped cX1_swapped 7 (some .int), Cond.fieldLink RX1 19 "ThimbleSwapModel" "swaps" "[I", Cond.fieldLink RX1 22 "ThimbleSwapModel" "numbers" "[I", Cond.methodLink RX1 109 yX1_isEnough, Cond.instanceMethod yX1_isEnough, Cond.selects RX1 yX1_isEnough yX1_isEnough, Cond.code yX1_isEnough cX1_isEnough 3 (some .boolean), Cond.fieldLink RX1 16 "ThimbleSwapModel" "grudges" "[I", Cond.methodLink RX1 103 yX1_gain, Cond.instanceMethod yX1_gain, Cond.selects RX1 yX1_gain yX1_gain, Cond.code yX1_gain cX1_gain 6 (some .int), Cond.methodLink RX1 86 yX1_worth, Cond.instanceMethod yX1_worth, Cond.selects RX1 yX1_worth yX1_worth, Cond.code yX1_worth cX1_worth 5 (some .int), Cond.fieldLink RX1 13 "ThimbleSwapModel" "likes" "[I", Cond.methodLink RX1 73 yX1_hallmarks, Cond.instanceMethod yX1_hallmarks, Cond.selects RX1 yX1_hallmarks yX1_hallmarks, Cond.code yX1_hallmarks cX1_hallmarks 4 (some .int), Cond.methodLink RX1 68 yJ6_bitCount_0f7a4]
def wsX1_swap_r3 : List Cond := [Cond.static yJ6_bitCount_0f7a4, Cond.initialized RJ6, Cond.code yJ6_bitCount_0f7a4 cJ6_bitCount_0f7a4 1 (some .int), Cond.constant RJ6 265 (1431655765), Cond.constant RJ6 266 (858993459), Cond.constant RJ6 267 (252645135), Cond.methodLink RX1 76 yX1_gather, Cond.instanceMethod yX1_gather, Cond.selects RX1 yX1_gather yX1_gather, Cond.code yX1_gather cX1_gather 5 (some .int), Cond.fieldLink RX1 25 "ThimbleSwapModel" "greatest" "[I", Cond.methodLink RX1 63 Lib.Math.max.name, Cond.static Lib.Math.max.name, Cond.initialized "java/lang/Math", Cond.code Lib.Math.max.name Lib.Math.max.code 2 (some .int), Cond.methodLink RX1 79 yX1_states, Cond.instanceMethod yX1_states, Cond.selects RX1 yX1_states yX1_states, Cond.code yX1_states cX1_states 6 (some .int), Cond.methodLink RX1 99 yX1_exchange, Cond.instanceMethod yX1_exchange, Cond.selects RX1 yX1_exchange yX1_exchange, Cond.code yX1_exchange cX1_exchange 4 none, Cond.methodLink RX1 95 yX1_set]
def wsX1_swap_r4 : List Cond := [Cond.instanceMethod yX1_set, Cond.selects RX1 yX1_set yX1_set, Cond.code yX1_set cX1_set 4 none, Cond.methodLink RX1 113 yX1_weigh, Cond.instanceMethod yX1_weigh, Cond.selects RX1 yX1_weigh yX1_weigh, Cond.code yX1_weigh cX1_weigh 4 none, Cond.methodLink RX1 106 Lib.Math.min.name, Cond.static Lib.Math.min.name, Cond.code Lib.Math.min.name Lib.Math.min.code 2 (some .int)]
def wsX1_swap : List Cond := .code yX1_swap cX1_swap 3 (some .int) :: ((wsX1_swap_r1 ++ (wsX1_swap_r2 ++ (wsX1_swap_r3 ++ wsX1_swap_r4))) ++ wsX10)
def wsX1_bestOf_r1 : List Cond := [Cond.fieldLink RX1 39 "ThimbleSwapModel" "thimbles" "I", Cond.methodLink RX1 42 yX1_th, Cond.instanceMethod yX1_th, Cond.selects RX1 yX1_th yX1_th, Cond.initialized RX1, Cond.code yX1_th cX1_th 3 (some .int), Cond.fieldLink RX1 9 "ThimbleSwapModel" "table" "[I", Cond.methodLink RX1 83 yX1_isLent, Cond.instanceMethod yX1_isLent, Cond.selects RX1 yX1_isLent yX1_isLent, Cond.code yX1_isLent cX1_isLent 2 (some .boolean), Cond.methodLink RX1 109 yX1_isEnough, Cond.instanceMethod yX1_isEnough, Cond.selects RX1 yX1_isEnough yX1_isEnough, Cond.code yX1_isEnough cX1_isEnough 3 (some .boolean), Cond.fieldLink RX1 16 "ThimbleSwapModel" "grudges" "[I", Cond.methodLink RX1 103 yX1_gain, Cond.instanceMethod yX1_gain, Cond.selects RX1 yX1_gain yX1_gain, Cond.code yX1_gain cX1_gain 6 (some .int), Cond.methodLink RX1 86 yX1_worth, Cond.instanceMethod yX1_worth, Cond.selects RX1 yX1_worth yX1_worth, Cond.code yX1_worth cX1_worth 5 (some .int)]
def wsX1_bestOf_r2 : List Cond := [Cond.fieldLink RX1 13 "ThimbleSwapModel" "likes" "[I", Cond.methodLink RX1 73 yX1_hallmarks, Cond.instanceMethod yX1_hallmarks, Cond.selects RX1 yX1_hallmarks yX1_hallmarks, Cond.code yX1_hallmarks cX1_hallmarks 4 (some .int), Cond.methodLink RX1 68 yJ6_bitCount_0f7a4, Cond.static yJ6_bitCount_0f7a4, Cond.initialized RJ6, Cond.code yJ6_bitCount_0f7a4 cJ6_bitCount_0f7a4 1 (some .int), Cond.constant RJ6 265 (1431655765), Cond.constant RJ6 266 (858993459), Cond.constant RJ6 267 (252645135), Cond.methodLink RX1 76 yX1_gather, Cond.instanceMethod yX1_gather, Cond.selects RX1 yX1_gather yX1_gather, Cond.code yX1_gather cX1_gather 5 (some .int), Cond.fieldLink RX1 25 "ThimbleSwapModel" "greatest" "[I", Cond.methodLink RX1 63 Lib.Math.max.name, Cond.static Lib.Math.max.name, Cond.initialized "java/lang/Math", Cond.code Lib.Math.max.name Lib.Math.max.code 2 (some .int), Cond.methodLink RX1 79 yX1_states, Cond.instanceMethod yX1_states, Cond.selects RX1 yX1_states yX1_states]
def wsX1_bestOf_r3 : List Cond := [Cond.code yX1_states cX1_states 6 (some .int), Cond.methodLink RX1 99 yX1_exchange, Cond.instanceMethod yX1_exchange, Cond.selects RX1 yX1_exchange yX1_exchange, Cond.code yX1_exchange cX1_exchange 4 none, Cond.methodLink RX1 95 yX1_set, Cond.instanceMethod yX1_set, Cond.selects RX1 yX1_set yX1_set, Cond.code yX1_set cX1_set 4 none]
def wsX1_bestOf : List Cond := .code yX1_bestOf cX1_bestOf 8 (some .int) :: ((wsX1_bestOf_r1 ++ (wsX1_bestOf_r2 ++ wsX1_bestOf_r3)) ++ wsX10)
def wsX1_best_r1 : List Cond := [Cond.fieldLink RX1 28 "ThimbleSwapModel" "thrown" "I", Cond.methodLink RX1 50 yX1_isCollector, Cond.instanceMethod yX1_isCollector, Cond.selects RX1 yX1_isCollector yX1_isCollector, Cond.initialized RX1, Cond.code yX1_isCollector cX1_isCollector 2 (some .boolean), Cond.fieldLink RX1 32 "ThimbleSwapModel" "collectors" "I", Cond.methodLink RX1 35 yX1_isIn, Cond.static yX1_isIn, Cond.code yX1_isIn cX1_isIn 3 (some .boolean), Cond.methodLink RX1 46 yX1_fail, Cond.instanceMethod yX1_fail, Cond.selects RX1 yX1_fail yX1_fail, Cond.code yX1_fail cX1_fail 2 (some .int), Cond.methodLink RX1 119 yX1_bestOf, Cond.instanceMethod yX1_bestOf, Cond.selects RX1 yX1_bestOf yX1_bestOf, Cond.code yX1_bestOf cX1_bestOf 8 (some .int), Cond.fieldLink RX1 39 "ThimbleSwapModel" "thimbles" "I", Cond.methodLink RX1 42 yX1_th, Cond.instanceMethod yX1_th, Cond.selects RX1 yX1_th yX1_th, Cond.code yX1_th cX1_th 3 (some .int), Cond.fieldLink RX1 9 "ThimbleSwapModel" "table" "[I"]
def wsX1_best_r2 : List Cond := [Cond.methodLink RX1 83 yX1_isLent, Cond.instanceMethod yX1_isLent, Cond.selects RX1 yX1_isLent yX1_isLent, Cond.code yX1_isLent cX1_isLent 2 (some .boolean), Cond.methodLink RX1 109 yX1_isEnough, Cond.instanceMethod yX1_isEnough, Cond.selects RX1 yX1_isEnough yX1_isEnough, Cond.code yX1_isEnough cX1_isEnough 3 (some .boolean), Cond.fieldLink RX1 16 "ThimbleSwapModel" "grudges" "[I", Cond.methodLink RX1 103 yX1_gain, Cond.instanceMethod yX1_gain, Cond.selects RX1 yX1_gain yX1_gain, Cond.code yX1_gain cX1_gain 6 (some .int), Cond.methodLink RX1 86 yX1_worth, Cond.instanceMethod yX1_worth, Cond.selects RX1 yX1_worth yX1_worth, Cond.code yX1_worth cX1_worth 5 (some .int), Cond.fieldLink RX1 13 "ThimbleSwapModel" "likes" "[I", Cond.methodLink RX1 73 yX1_hallmarks, Cond.instanceMethod yX1_hallmarks, Cond.selects RX1 yX1_hallmarks yX1_hallmarks, Cond.code yX1_hallmarks cX1_hallmarks 4 (some .int), Cond.methodLink RX1 68 yJ6_bitCount_0f7a4, Cond.static yJ6_bitCount_0f7a4]
def wsX1_best_r3 : List Cond := [Cond.initialized RJ6, Cond.code yJ6_bitCount_0f7a4 cJ6_bitCount_0f7a4 1 (some .int), Cond.constant RJ6 265 (1431655765), Cond.constant RJ6 266 (858993459), Cond.constant RJ6 267 (252645135), Cond.methodLink RX1 76 yX1_gather, Cond.instanceMethod yX1_gather, Cond.selects RX1 yX1_gather yX1_gather, Cond.code yX1_gather cX1_gather 5 (some .int), Cond.fieldLink RX1 25 "ThimbleSwapModel" "greatest" "[I", Cond.methodLink RX1 63 Lib.Math.max.name, Cond.static Lib.Math.max.name, Cond.initialized "java/lang/Math", Cond.code Lib.Math.max.name Lib.Math.max.code 2 (some .int), Cond.methodLink RX1 79 yX1_states, Cond.instanceMethod yX1_states, Cond.selects RX1 yX1_states yX1_states, Cond.code yX1_states cX1_states 6 (some .int), Cond.methodLink RX1 99 yX1_exchange, Cond.instanceMethod yX1_exchange, Cond.selects RX1 yX1_exchange yX1_exchange, Cond.code yX1_exchange cX1_exchange 4 none, Cond.methodLink RX1 95 yX1_set, Cond.instanceMethod yX1_set]
def wsX1_best_r4 : List Cond := [Cond.selects RX1 yX1_set yX1_set, Cond.code yX1_set cX1_set 4 none]
def wsX1_best : List Cond := .code yX1_best cX1_best 3 (some .int) :: ((wsX1_best_r1 ++ (wsX1_best_r2 ++ (wsX1_best_r3 ++ wsX1_best_r4))) ++ wsX10)
def wsX1_ring_r1 : List Cond := [Cond.fieldLink RX1 28 "ThimbleSwapModel" "thrown" "I", Cond.arrayClass .int, Cond.methodLink RX1 92 yX1_isThimble, Cond.instanceMethod yX1_isThimble, Cond.selects RX1 yX1_isThimble yX1_isThimble, Cond.initialized RX1, Cond.code yX1_isThimble cX1_isThimble 2 (some .boolean), Cond.fieldLink RX1 39 "ThimbleSwapModel" "thimbles" "I", Cond.methodLink RX1 35 yX1_isIn, Cond.static yX1_isIn, Cond.code yX1_isIn cX1_isIn 3 (some .boolean), Cond.methodLink RX1 46 yX1_fail, Cond.instanceMethod yX1_fail, Cond.selects RX1 yX1_fail yX1_fail, Cond.code yX1_fail cX1_fail 2 (some .int), Cond.methodLink RX1 42 yX1_th, Cond.instanceMethod yX1_th, Cond.selects RX1 yX1_th yX1_th, Cond.code yX1_th cX1_th 3 (some .int), Cond.fieldLink RX1 9 "ThimbleSwapModel" "table" "[I", Cond.methodLink RX1 103 yX1_gain, Cond.instanceMethod yX1_gain, Cond.selects RX1 yX1_gain yX1_gain, Cond.code yX1_gain cX1_gain 6 (some .int)]
def wsX1_ring_r2 : List Cond := [Cond.methodLink RX1 86 yX1_worth, Cond.instanceMethod yX1_worth, Cond.selects RX1 yX1_worth yX1_worth, Cond.code yX1_worth cX1_worth 5 (some .int), Cond.fieldLink RX1 13 "ThimbleSwapModel" "likes" "[I", Cond.methodLink RX1 73 yX1_hallmarks, Cond.instanceMethod yX1_hallmarks, Cond.selects RX1 yX1_hallmarks yX1_hallmarks, Cond.code yX1_hallmarks cX1_hallmarks 4 (some .int), Cond.methodLink RX1 68 yJ6_bitCount_0f7a4, Cond.static yJ6_bitCount_0f7a4, Cond.initialized RJ6, Cond.code yJ6_bitCount_0f7a4 cJ6_bitCount_0f7a4 1 (some .int), Cond.constant RJ6 265 (1431655765), Cond.constant RJ6 266 (858993459), Cond.constant RJ6 267 (252645135), Cond.methodLink RX1 76 yX1_gather, Cond.instanceMethod yX1_gather, Cond.selects RX1 yX1_gather yX1_gather, Cond.code yX1_gather cX1_gather 5 (some .int), Cond.fieldLink RX1 25 "ThimbleSwapModel" "greatest" "[I", Cond.methodLink RX1 63 Lib.Math.max.name, Cond.static Lib.Math.max.name, Cond.initialized "java/lang/Math"]
def wsX1_ring_r3 : List Cond := [Cond.code Lib.Math.max.name Lib.Math.max.code 2 (some .int), Cond.methodLink RX1 79 yX1_states, Cond.instanceMethod yX1_states, Cond.selects RX1 yX1_states yX1_states, Cond.code yX1_states cX1_states 6 (some .int), Cond.methodLink RX1 99 yX1_exchange, Cond.instanceMethod yX1_exchange, Cond.selects RX1 yX1_exchange yX1_exchange, Cond.code yX1_exchange cX1_exchange 4 none, Cond.methodLink RX1 95 yX1_set, Cond.instanceMethod yX1_set, Cond.selects RX1 yX1_set yX1_set, Cond.code yX1_set cX1_set 4 none]
def wsX1_ring : List Cond := .code yX1_ring cX1_ring 7 (some .int) :: ((wsX1_ring_r1 ++ (wsX1_ring_r2 ++ wsX1_ring_r3)) ++ wsX10)
def wsX1_swapsOnce_r1 : List Cond := [Cond.fieldLink RX1 32 "ThimbleSwapModel" "collectors" "I", Cond.methodLink RX1 119 yX1_bestOf, Cond.instanceMethod yX1_bestOf, Cond.selects RX1 yX1_bestOf yX1_bestOf, Cond.initialized RX1, Cond.code yX1_bestOf cX1_bestOf 8 (some .int), Cond.fieldLink RX1 39 "ThimbleSwapModel" "thimbles" "I", Cond.methodLink RX1 42 yX1_th, Cond.instanceMethod yX1_th, Cond.selects RX1 yX1_th yX1_th, Cond.code yX1_th cX1_th 3 (some .int), Cond.fieldLink RX1 9 "ThimbleSwapModel" "table" "[I", Cond.methodLink RX1 83 yX1_isLent, Cond.instanceMethod yX1_isLent, Cond.selects RX1 yX1_isLent yX1_isLent, Cond.code yX1_isLent cX1_isLent 2 (some .boolean), Cond.methodLink RX1 109 yX1_isEnough, Cond.instanceMethod yX1_isEnough, Cond.selects RX1 yX1_isEnough yX1_isEnough, Cond.code yX1_isEnough cX1_isEnough 3 (some .boolean), Cond.fieldLink RX1 16 "ThimbleSwapModel" "grudges" "[I", Cond.methodLink RX1 103 yX1_gain, Cond.instanceMethod yX1_gain, Cond.selects RX1 yX1_gain yX1_gain]
def wsX1_swapsOnce_r2 : List Cond := [Cond.code yX1_gain cX1_gain 6 (some .int), Cond.methodLink RX1 86 yX1_worth, Cond.instanceMethod yX1_worth, Cond.selects RX1 yX1_worth yX1_worth, Cond.code yX1_worth cX1_worth 5 (some .int), Cond.fieldLink RX1 13 "ThimbleSwapModel" "likes" "[I", Cond.methodLink RX1 73 yX1_hallmarks, Cond.instanceMethod yX1_hallmarks, Cond.selects RX1 yX1_hallmarks yX1_hallmarks, Cond.code yX1_hallmarks cX1_hallmarks 4 (some .int), Cond.methodLink RX1 68 yJ6_bitCount_0f7a4, Cond.static yJ6_bitCount_0f7a4, Cond.initialized RJ6, Cond.code yJ6_bitCount_0f7a4 cJ6_bitCount_0f7a4 1 (some .int), Cond.constant RJ6 265 (1431655765), Cond.constant RJ6 266 (858993459), Cond.constant RJ6 267 (252645135), Cond.methodLink RX1 76 yX1_gather, Cond.instanceMethod yX1_gather, Cond.selects RX1 yX1_gather yX1_gather, Cond.code yX1_gather cX1_gather 5 (some .int), Cond.fieldLink RX1 25 "ThimbleSwapModel" "greatest" "[I", Cond.methodLink RX1 63 Lib.Math.max.name, Cond.static Lib.Math.max.name]
def wsX1_swapsOnce_r3 : List Cond := [Cond.initialized "java/lang/Math", Cond.code Lib.Math.max.name Lib.Math.max.code 2 (some .int), Cond.methodLink RX1 79 yX1_states, Cond.instanceMethod yX1_states, Cond.selects RX1 yX1_states yX1_states, Cond.code yX1_states cX1_states 6 (some .int), Cond.methodLink RX1 99 yX1_exchange, Cond.instanceMethod yX1_exchange, Cond.selects RX1 yX1_exchange yX1_exchange, Cond.code yX1_exchange cX1_exchange 4 none, Cond.methodLink RX1 95 yX1_set, Cond.instanceMethod yX1_set, Cond.selects RX1 yX1_set yX1_set, Cond.code yX1_set cX1_set 4 none, Cond.methodLink RX1 116 yX1_swapped, Cond.instanceMethod yX1_swapped, Cond.selects RX1 yX1_swapped yX1_swapped, Cond.code yX1_swapped cX1_swapped 7 (some .int), Cond.fieldLink RX1 19 "ThimbleSwapModel" "swaps" "[I", Cond.fieldLink RX1 22 "ThimbleSwapModel" "numbers" "[I", Cond.methodLink RX1 113 yX1_weigh, Cond.instanceMethod yX1_weigh, Cond.selects RX1 yX1_weigh yX1_weigh, Cond.code yX1_weigh cX1_weigh 4 none]
def wsX1_swapsOnce_r4 : List Cond := [Cond.methodLink RX1 106 Lib.Math.min.name, Cond.static Lib.Math.min.name, Cond.code Lib.Math.min.name Lib.Math.min.code 2 (some .int)]
def wsX1_swapsOnce : List Cond := .code yX1_swapsOnce cX1_swapsOnce 4 (some .boolean) :: ((wsX1_swapsOnce_r1 ++ (wsX1_swapsOnce_r2 ++ (wsX1_swapsOnce_r3 ++ wsX1_swapsOnce_r4))) ++ wsX10)
def wsX1_fair_r1 : List Cond := [Cond.fieldLink RX1 28 "ThimbleSwapModel" "thrown" "I", Cond.methodLink RX1 35 yX1_isIn, Cond.static yX1_isIn, Cond.initialized RX1, Cond.code yX1_isIn cX1_isIn 3 (some .boolean), Cond.methodLink RX1 46 yX1_fail, Cond.instanceMethod yX1_fail, Cond.selects RX1 yX1_fail yX1_fail, Cond.code yX1_fail cX1_fail 2 (some .int), Cond.methodLink RX1 122 yX1_swapsOnce, Cond.instanceMethod yX1_swapsOnce, Cond.selects RX1 yX1_swapsOnce yX1_swapsOnce, Cond.code yX1_swapsOnce cX1_swapsOnce 4 (some .boolean), Cond.fieldLink RX1 32 "ThimbleSwapModel" "collectors" "I", Cond.methodLink RX1 119 yX1_bestOf, Cond.instanceMethod yX1_bestOf, Cond.selects RX1 yX1_bestOf yX1_bestOf, Cond.code yX1_bestOf cX1_bestOf 8 (some .int), Cond.fieldLink RX1 39 "ThimbleSwapModel" "thimbles" "I", Cond.methodLink RX1 42 yX1_th, Cond.instanceMethod yX1_th, Cond.selects RX1 yX1_th yX1_th, Cond.code yX1_th cX1_th 3 (some .int), Cond.fieldLink RX1 9 "ThimbleSwapModel" "table" "[I"]
def wsX1_fair_r2 : List Cond := [Cond.methodLink RX1 83 yX1_isLent, Cond.instanceMethod yX1_isLent, Cond.selects RX1 yX1_isLent yX1_isLent, Cond.code yX1_isLent cX1_isLent 2 (some .boolean), Cond.methodLink RX1 109 yX1_isEnough, Cond.instanceMethod yX1_isEnough, Cond.selects RX1 yX1_isEnough yX1_isEnough, Cond.code yX1_isEnough cX1_isEnough 3 (some .boolean), Cond.fieldLink RX1 16 "ThimbleSwapModel" "grudges" "[I", Cond.methodLink RX1 103 yX1_gain, Cond.instanceMethod yX1_gain, Cond.selects RX1 yX1_gain yX1_gain, Cond.code yX1_gain cX1_gain 6 (some .int), Cond.methodLink RX1 86 yX1_worth, Cond.instanceMethod yX1_worth, Cond.selects RX1 yX1_worth yX1_worth, Cond.code yX1_worth cX1_worth 5 (some .int), Cond.fieldLink RX1 13 "ThimbleSwapModel" "likes" "[I", Cond.methodLink RX1 73 yX1_hallmarks, Cond.instanceMethod yX1_hallmarks, Cond.selects RX1 yX1_hallmarks yX1_hallmarks, Cond.code yX1_hallmarks cX1_hallmarks 4 (some .int), Cond.methodLink RX1 68 yJ6_bitCount_0f7a4, Cond.static yJ6_bitCount_0f7a4]
def wsX1_fair_r3 : List Cond := [Cond.initialized RJ6, Cond.code yJ6_bitCount_0f7a4 cJ6_bitCount_0f7a4 1 (some .int), Cond.constant RJ6 265 (1431655765), Cond.constant RJ6 266 (858993459), Cond.constant RJ6 267 (252645135), Cond.methodLink RX1 76 yX1_gather, Cond.instanceMethod yX1_gather, Cond.selects RX1 yX1_gather yX1_gather, Cond.code yX1_gather cX1_gather 5 (some .int), Cond.fieldLink RX1 25 "ThimbleSwapModel" "greatest" "[I", Cond.methodLink RX1 63 Lib.Math.max.name, Cond.static Lib.Math.max.name, Cond.initialized "java/lang/Math", Cond.code Lib.Math.max.name Lib.Math.max.code 2 (some .int), Cond.methodLink RX1 79 yX1_states, Cond.instanceMethod yX1_states, Cond.selects RX1 yX1_states yX1_states, Cond.code yX1_states cX1_states 6 (some .int), Cond.methodLink RX1 99 yX1_exchange, Cond.instanceMethod yX1_exchange, Cond.selects RX1 yX1_exchange yX1_exchange, Cond.code yX1_exchange cX1_exchange 4 none, Cond.methodLink RX1 95 yX1_set, Cond.instanceMethod yX1_set]
def wsX1_fair_r4 : List Cond := [Cond.selects RX1 yX1_set yX1_set, Cond.code yX1_set cX1_set 4 none, Cond.methodLink RX1 116 yX1_swapped, Cond.instanceMethod yX1_swapped, Cond.selects RX1 yX1_swapped yX1_swapped, Cond.code yX1_swapped cX1_swapped 7 (some .int), Cond.fieldLink RX1 19 "ThimbleSwapModel" "swaps" "[I", Cond.fieldLink RX1 22 "ThimbleSwapModel" "numbers" "[I", Cond.methodLink RX1 113 yX1_weigh, Cond.instanceMethod yX1_weigh, Cond.selects RX1 yX1_weigh yX1_weigh, Cond.code yX1_weigh cX1_weigh 4 none, Cond.methodLink RX1 106 Lib.Math.min.name, Cond.static Lib.Math.min.name, Cond.code Lib.Math.min.name Lib.Math.min.code 2 (some .int)]
def wsX1_fair : List Cond := .code yX1_fair cX1_fair 3 (some .int) :: ((wsX1_fair_r1 ++ (wsX1_fair_r2 ++ (wsX1_fair_r3 ++ wsX1_fair_r4))) ++ wsX10)
def wsX1_lend_r1 : List Cond := [Cond.fieldLink RX1 28 "ThimbleSwapModel" "thrown" "I", Cond.fieldLink RX1 22 "ThimbleSwapModel" "numbers" "[I", Cond.methodLink RX1 92 yX1_isThimble, Cond.instanceMethod yX1_isThimble, Cond.selects RX1 yX1_isThimble yX1_isThimble, Cond.initialized RX1, Cond.code yX1_isThimble cX1_isThimble 2 (some .boolean), Cond.fieldLink RX1 39 "ThimbleSwapModel" "thimbles" "I", Cond.methodLink RX1 35 yX1_isIn, Cond.static yX1_isIn, Cond.code yX1_isIn cX1_isIn 3 (some .boolean), Cond.methodLink RX1 46 yX1_fail, Cond.instanceMethod yX1_fail, Cond.selects RX1 yX1_fail yX1_fail, Cond.code yX1_fail cX1_fail 2 (some .int), Cond.methodLink RX1 83 yX1_isLent, Cond.instanceMethod yX1_isLent, Cond.selects RX1 yX1_isLent yX1_isLent, Cond.code yX1_isLent cX1_isLent 2 (some .boolean), Cond.methodLink RX1 42 yX1_th, Cond.instanceMethod yX1_th, Cond.selects RX1 yX1_th yX1_th, Cond.code yX1_th cX1_th 3 (some .int), Cond.fieldLink RX1 9 "ThimbleSwapModel" "table" "[I"]
def wsX1_lend_r2 : List Cond := [Cond.methodLink RX1 95 yX1_set, Cond.instanceMethod yX1_set, Cond.selects RX1 yX1_set yX1_set, Cond.code yX1_set cX1_set 4 none]
def wsX1_lend : List Cond := .code yX1_lend cX1_lend 3 (some .int) :: ((wsX1_lend_r1 ++ wsX1_lend_r2) ++ wsX10)
def wsX1_bits : List Cond := .code yX1_bits cX1_bits 5 (some .int) :: ([.fieldLink RX1 39 "ThimbleSwapModel" "thimbles" "I", .methodLink RX1 42 yX1_th, .instanceMethod yX1_th, .selects RX1 yX1_th yX1_th, .initialized RX1, .code yX1_th cX1_th 3 (some .int), .fieldLink RX1 9 "ThimbleSwapModel" "table" "[I", .methodLink RX1 83 yX1_isLent, .instanceMethod yX1_isLent, .selects RX1 yX1_isLent yX1_isLent, .code yX1_isLent cX1_isLent 2 (some .boolean)] ++ wsX10)
def wsX1_shows_r1 : List Cond := [Cond.fieldLink RX1 28 "ThimbleSwapModel" "thrown" "I", Cond.methodLink RX1 54 yX1_isSet, Cond.static yX1_isSet, Cond.initialized RX1, Cond.code yX1_isSet cX1_isSet 1 (some .boolean), Cond.methodLink RX1 35 yX1_isIn, Cond.static yX1_isIn, Cond.code yX1_isIn cX1_isIn 3 (some .boolean), Cond.methodLink RX1 126 yX1_bits, Cond.instanceMethod yX1_bits, Cond.selects RX1 yX1_bits yX1_bits, Cond.code yX1_bits cX1_bits 5 (some .int), Cond.fieldLink RX1 39 "ThimbleSwapModel" "thimbles" "I", Cond.methodLink RX1 42 yX1_th, Cond.instanceMethod yX1_th, Cond.selects RX1 yX1_th yX1_th, Cond.code yX1_th cX1_th 3 (some .int), Cond.fieldLink RX1 9 "ThimbleSwapModel" "table" "[I", Cond.methodLink RX1 83 yX1_isLent, Cond.instanceMethod yX1_isLent, Cond.selects RX1 yX1_isLent yX1_isLent, Cond.code yX1_isLent cX1_isLent 2 (some .boolean), Cond.methodLink RX1 68 yJ6_bitCount_0f7a4, Cond.static yJ6_bitCount_0f7a4]
def wsX1_shows_r2 : List Cond := [Cond.initialized RJ6, Cond.code yJ6_bitCount_0f7a4 cJ6_bitCount_0f7a4 1 (some .int), Cond.constant RJ6 265 (1431655765), Cond.constant RJ6 266 (858993459), Cond.constant RJ6 267 (252645135), Cond.methodLink RX1 46 yX1_fail, Cond.instanceMethod yX1_fail, Cond.selects RX1 yX1_fail yX1_fail, Cond.code yX1_fail cX1_fail 2 (some .int)]
def wsX1_shows : List Cond := .code yX1_shows cX1_shows 2 (some .int) :: ((wsX1_shows_r1 ++ wsX1_shows_r2) ++ wsX10)
def wsX1_lacks_r1 : List Cond := [Cond.fieldLink RX1 28 "ThimbleSwapModel" "thrown" "I", Cond.methodLink RX1 54 yX1_isSet, Cond.static yX1_isSet, Cond.initialized RX1, Cond.code yX1_isSet cX1_isSet 1 (some .boolean), Cond.methodLink RX1 35 yX1_isIn, Cond.static yX1_isIn, Cond.code yX1_isIn cX1_isIn 3 (some .boolean), Cond.methodLink RX1 46 yX1_fail, Cond.instanceMethod yX1_fail, Cond.selects RX1 yX1_fail yX1_fail, Cond.code yX1_fail cX1_fail 2 (some .int), Cond.methodLink RX1 126 yX1_bits, Cond.instanceMethod yX1_bits, Cond.selects RX1 yX1_bits yX1_bits, Cond.code yX1_bits cX1_bits 5 (some .int), Cond.fieldLink RX1 39 "ThimbleSwapModel" "thimbles" "I", Cond.methodLink RX1 42 yX1_th, Cond.instanceMethod yX1_th, Cond.selects RX1 yX1_th yX1_th, Cond.code yX1_th cX1_th 3 (some .int), Cond.fieldLink RX1 9 "ThimbleSwapModel" "table" "[I", Cond.methodLink RX1 83 yX1_isLent, Cond.instanceMethod yX1_isLent]
def wsX1_lacks_r2 : List Cond := [Cond.selects RX1 yX1_isLent yX1_isLent, Cond.code yX1_isLent cX1_isLent 2 (some .boolean), Cond.methodLink RX1 68 yJ6_bitCount_0f7a4, Cond.static yJ6_bitCount_0f7a4, Cond.initialized RJ6, Cond.code yJ6_bitCount_0f7a4 cJ6_bitCount_0f7a4 1 (some .int), Cond.constant RJ6 265 (1431655765), Cond.constant RJ6 266 (858993459), Cond.constant RJ6 267 (252645135)]
def wsX1_lacks : List Cond := .code yX1_lacks cX1_lacks 2 (some .int) :: ((wsX1_lacks_r1 ++ wsX1_lacks_r2) ++ wsX10)
def wsX1_finest_r1 : List Cond := [Cond.fieldLink RX1 28 "ThimbleSwapModel" "thrown" "I", Cond.fieldLink RX1 32 "ThimbleSwapModel" "collectors" "I", Cond.methodLink RX1 54 yX1_isSet, Cond.static yX1_isSet, Cond.initialized RX1, Cond.code yX1_isSet cX1_isSet 1 (some .boolean), Cond.methodLink RX1 35 yX1_isIn, Cond.static yX1_isIn, Cond.code yX1_isIn cX1_isIn 3 (some .boolean), Cond.methodLink RX1 46 yX1_fail, Cond.instanceMethod yX1_fail, Cond.selects RX1 yX1_fail yX1_fail, Cond.code yX1_fail cX1_fail 2 (some .int), Cond.methodLink RX1 76 yX1_gather, Cond.instanceMethod yX1_gather, Cond.selects RX1 yX1_gather yX1_gather, Cond.code yX1_gather cX1_gather 5 (some .int), Cond.fieldLink RX1 25 "ThimbleSwapModel" "greatest" "[I", Cond.fieldLink RX1 39 "ThimbleSwapModel" "thimbles" "I", Cond.methodLink RX1 63 Lib.Math.max.name, Cond.static Lib.Math.max.name, Cond.initialized "java/lang/Math", Cond.code Lib.Math.max.name Lib.Math.max.code 2 (some .int), Cond.methodLink RX1 42 yX1_th]
def wsX1_finest_r2 : List Cond := [Cond.instanceMethod yX1_th, Cond.selects RX1 yX1_th yX1_th, Cond.code yX1_th cX1_th 3 (some .int), Cond.fieldLink RX1 9 "ThimbleSwapModel" "table" "[I", Cond.methodLink RX1 79 yX1_states, Cond.instanceMethod yX1_states, Cond.selects RX1 yX1_states yX1_states, Cond.code yX1_states cX1_states 6 (some .int)]
def wsX1_finest : List Cond := .code yX1_finest cX1_finest 7 (some .int) :: ((wsX1_finest_r1 ++ wsX1_finest_r2) ++ wsX10)
def wsX1_weekOn : List Cond := .code yX1_weekOn cX1_weekOn 3 (some .int) :: ([.fieldLink RX1 39 "ThimbleSwapModel" "thimbles" "I", .fieldLink RX1 22 "ThimbleSwapModel" "numbers" "[I", .methodLink RX1 63 Lib.Math.max.name, .static Lib.Math.max.name, .initialized "java/lang/Math", .code Lib.Math.max.name Lib.Math.max.code 2 (some .int), .fieldLink RX1 16 "ThimbleSwapModel" "grudges" "[I", .methodLink RX1 83 yX1_isLent, .instanceMethod yX1_isLent, .selects RX1 yX1_isLent yX1_isLent, .initialized RX1, .code yX1_isLent cX1_isLent 2 (some .boolean), .methodLink RX1 42 yX1_th, .instanceMethod yX1_th, .selects RX1 yX1_th yX1_th, .code yX1_th cX1_th 3 (some .int), .fieldLink RX1 9 "ThimbleSwapModel" "table" "[I", .methodLink RX1 95 yX1_set, .instanceMethod yX1_set, .selects RX1 yX1_set yX1_set, .code yX1_set cX1_set 4 none] ++ wsX10)
def wsX1_pass_r1 : List Cond := [Cond.fieldLink RX1 28 "ThimbleSwapModel" "thrown" "I", Cond.methodLink RX1 35 yX1_isIn, Cond.static yX1_isIn, Cond.initialized RX1, Cond.code yX1_isIn cX1_isIn 3 (some .boolean), Cond.methodLink RX1 46 yX1_fail, Cond.instanceMethod yX1_fail, Cond.selects RX1 yX1_fail yX1_fail, Cond.code yX1_fail cX1_fail 2 (some .int), Cond.methodLink RX1 130 yX1_weekOn, Cond.instanceMethod yX1_weekOn, Cond.selects RX1 yX1_weekOn yX1_weekOn, Cond.code yX1_weekOn cX1_weekOn 3 (some .int), Cond.fieldLink RX1 39 "ThimbleSwapModel" "thimbles" "I", Cond.fieldLink RX1 22 "ThimbleSwapModel" "numbers" "[I", Cond.methodLink RX1 63 Lib.Math.max.name, Cond.static Lib.Math.max.name, Cond.initialized "java/lang/Math", Cond.code Lib.Math.max.name Lib.Math.max.code 2 (some .int), Cond.fieldLink RX1 16 "ThimbleSwapModel" "grudges" "[I", Cond.methodLink RX1 83 yX1_isLent, Cond.instanceMethod yX1_isLent, Cond.selects RX1 yX1_isLent yX1_isLent, Cond.code yX1_isLent cX1_isLent 2 (some .boolean)]
def wsX1_pass_r2 : List Cond := [Cond.methodLink RX1 42 yX1_th, Cond.instanceMethod yX1_th, Cond.selects RX1 yX1_th yX1_th, Cond.code yX1_th cX1_th 3 (some .int), Cond.fieldLink RX1 9 "ThimbleSwapModel" "table" "[I", Cond.methodLink RX1 95 yX1_set, Cond.instanceMethod yX1_set, Cond.selects RX1 yX1_set yX1_set, Cond.code yX1_set cX1_set 4 none]
def wsX1_pass : List Cond := .code yX1_pass cX1_pass 4 (some .int) :: ((wsX1_pass_r1 ++ wsX1_pass_r2) ++ wsX10)
def wsX1_allWorth_r1 : List Cond := [Cond.fieldLink RX1 32 "ThimbleSwapModel" "collectors" "I", Cond.methodLink RX1 86 yX1_worth, Cond.instanceMethod yX1_worth, Cond.selects RX1 yX1_worth yX1_worth, Cond.initialized RX1, Cond.code yX1_worth cX1_worth 5 (some .int), Cond.fieldLink RX1 13 "ThimbleSwapModel" "likes" "[I", Cond.methodLink RX1 73 yX1_hallmarks, Cond.instanceMethod yX1_hallmarks, Cond.selects RX1 yX1_hallmarks yX1_hallmarks, Cond.code yX1_hallmarks cX1_hallmarks 4 (some .int), Cond.fieldLink RX1 39 "ThimbleSwapModel" "thimbles" "I", Cond.methodLink RX1 42 yX1_th, Cond.instanceMethod yX1_th, Cond.selects RX1 yX1_th yX1_th, Cond.code yX1_th cX1_th 3 (some .int), Cond.fieldLink RX1 9 "ThimbleSwapModel" "table" "[I", Cond.methodLink RX1 68 yJ6_bitCount_0f7a4, Cond.static yJ6_bitCount_0f7a4, Cond.initialized RJ6, Cond.code yJ6_bitCount_0f7a4 cJ6_bitCount_0f7a4 1 (some .int), Cond.constant RJ6 265 (1431655765), Cond.constant RJ6 266 (858993459), Cond.constant RJ6 267 (252645135)]
def wsX1_allWorth_r2 : List Cond := [Cond.methodLink RX1 76 yX1_gather, Cond.instanceMethod yX1_gather, Cond.selects RX1 yX1_gather yX1_gather, Cond.code yX1_gather cX1_gather 5 (some .int), Cond.fieldLink RX1 25 "ThimbleSwapModel" "greatest" "[I", Cond.methodLink RX1 63 Lib.Math.max.name, Cond.static Lib.Math.max.name, Cond.initialized "java/lang/Math", Cond.code Lib.Math.max.name Lib.Math.max.code 2 (some .int), Cond.methodLink RX1 79 yX1_states, Cond.instanceMethod yX1_states, Cond.selects RX1 yX1_states yX1_states, Cond.code yX1_states cX1_states 6 (some .int)]
def wsX1_allWorth : List Cond := .code yX1_allWorth cX1_allWorth 3 (some .int) :: ((wsX1_allWorth_r1 ++ wsX1_allWorth_r2) ++ wsX10)
def wsX1_counted_r1 : List Cond := [Cond.fieldLink RX1 22 "ThimbleSwapModel" "numbers" "[I", Cond.fieldLink RX1 32 "ThimbleSwapModel" "collectors" "I", Cond.fieldLink RX1 39 "ThimbleSwapModel" "thimbles" "I", Cond.methodLink RX1 83 yX1_isLent, Cond.instanceMethod yX1_isLent, Cond.selects RX1 yX1_isLent yX1_isLent, Cond.initialized RX1, Cond.code yX1_isLent cX1_isLent 2 (some .boolean), Cond.methodLink RX1 42 yX1_th, Cond.instanceMethod yX1_th, Cond.selects RX1 yX1_th yX1_th, Cond.code yX1_th cX1_th 3 (some .int), Cond.fieldLink RX1 9 "ThimbleSwapModel" "table" "[I", Cond.methodLink RX1 133 yX1_allWorth, Cond.instanceMethod yX1_allWorth, Cond.selects RX1 yX1_allWorth yX1_allWorth, Cond.code yX1_allWorth cX1_allWorth 3 (some .int), Cond.methodLink RX1 86 yX1_worth, Cond.instanceMethod yX1_worth, Cond.selects RX1 yX1_worth yX1_worth, Cond.code yX1_worth cX1_worth 5 (some .int), Cond.fieldLink RX1 13 "ThimbleSwapModel" "likes" "[I", Cond.methodLink RX1 73 yX1_hallmarks, Cond.instanceMethod yX1_hallmarks]
def wsX1_counted_r2 : List Cond := [Cond.selects RX1 yX1_hallmarks yX1_hallmarks, Cond.code yX1_hallmarks cX1_hallmarks 4 (some .int), Cond.methodLink RX1 68 yJ6_bitCount_0f7a4, Cond.static yJ6_bitCount_0f7a4, Cond.initialized RJ6, Cond.code yJ6_bitCount_0f7a4 cJ6_bitCount_0f7a4 1 (some .int), Cond.constant RJ6 265 (1431655765), Cond.constant RJ6 266 (858993459), Cond.constant RJ6 267 (252645135), Cond.methodLink RX1 76 yX1_gather, Cond.instanceMethod yX1_gather, Cond.selects RX1 yX1_gather yX1_gather, Cond.code yX1_gather cX1_gather 5 (some .int), Cond.fieldLink RX1 25 "ThimbleSwapModel" "greatest" "[I", Cond.methodLink RX1 63 Lib.Math.max.name, Cond.static Lib.Math.max.name, Cond.initialized "java/lang/Math", Cond.code Lib.Math.max.name Lib.Math.max.code 2 (some .int), Cond.methodLink RX1 79 yX1_states, Cond.instanceMethod yX1_states, Cond.selects RX1 yX1_states yX1_states, Cond.code yX1_states cX1_states 6 (some .int)]
def wsX1_counted : List Cond := .code yX1_counted cX1_counted 4 (some .int) :: ((wsX1_counted_r1 ++ wsX1_counted_r2) ++ wsX10)
def wsX1_count_r1 : List Cond := [Cond.fieldLink RX1 28 "ThimbleSwapModel" "thrown" "I", Cond.methodLink RX1 35 yX1_isIn, Cond.static yX1_isIn, Cond.initialized RX1, Cond.code yX1_isIn cX1_isIn 3 (some .boolean), Cond.methodLink RX1 136 yX1_counted, Cond.instanceMethod yX1_counted, Cond.selects RX1 yX1_counted yX1_counted, Cond.code yX1_counted cX1_counted 4 (some .int), Cond.fieldLink RX1 22 "ThimbleSwapModel" "numbers" "[I", Cond.fieldLink RX1 32 "ThimbleSwapModel" "collectors" "I", Cond.fieldLink RX1 39 "ThimbleSwapModel" "thimbles" "I", Cond.methodLink RX1 83 yX1_isLent, Cond.instanceMethod yX1_isLent, Cond.selects RX1 yX1_isLent yX1_isLent, Cond.code yX1_isLent cX1_isLent 2 (some .boolean), Cond.methodLink RX1 42 yX1_th, Cond.instanceMethod yX1_th, Cond.selects RX1 yX1_th yX1_th, Cond.code yX1_th cX1_th 3 (some .int), Cond.fieldLink RX1 9 "ThimbleSwapModel" "table" "[I", Cond.methodLink RX1 133 yX1_allWorth, Cond.instanceMethod yX1_allWorth, Cond.selects RX1 yX1_allWorth yX1_allWorth]
def wsX1_count_r2 : List Cond := [Cond.code yX1_allWorth cX1_allWorth 3 (some .int), Cond.methodLink RX1 86 yX1_worth, Cond.instanceMethod yX1_worth, Cond.selects RX1 yX1_worth yX1_worth, Cond.code yX1_worth cX1_worth 5 (some .int), Cond.fieldLink RX1 13 "ThimbleSwapModel" "likes" "[I", Cond.methodLink RX1 73 yX1_hallmarks, Cond.instanceMethod yX1_hallmarks, Cond.selects RX1 yX1_hallmarks yX1_hallmarks, Cond.code yX1_hallmarks cX1_hallmarks 4 (some .int), Cond.methodLink RX1 68 yJ6_bitCount_0f7a4, Cond.static yJ6_bitCount_0f7a4, Cond.initialized RJ6, Cond.code yJ6_bitCount_0f7a4 cJ6_bitCount_0f7a4 1 (some .int), Cond.constant RJ6 265 (1431655765), Cond.constant RJ6 266 (858993459), Cond.constant RJ6 267 (252645135), Cond.methodLink RX1 76 yX1_gather, Cond.instanceMethod yX1_gather, Cond.selects RX1 yX1_gather yX1_gather, Cond.code yX1_gather cX1_gather 5 (some .int), Cond.fieldLink RX1 25 "ThimbleSwapModel" "greatest" "[I", Cond.methodLink RX1 63 Lib.Math.max.name, Cond.static Lib.Math.max.name]
def wsX1_count_r3 : List Cond := [Cond.initialized "java/lang/Math", Cond.code Lib.Math.max.name Lib.Math.max.code 2 (some .int), Cond.methodLink RX1 79 yX1_states, Cond.instanceMethod yX1_states, Cond.selects RX1 yX1_states yX1_states, Cond.code yX1_states cX1_states 6 (some .int), Cond.methodLink RX1 46 yX1_fail, Cond.instanceMethod yX1_fail, Cond.selects RX1 yX1_fail yX1_fail, Cond.code yX1_fail cX1_fail 2 (some .int)]
def wsX1_count : List Cond := .code yX1_count cX1_count 2 (some .int) :: ((wsX1_count_r1 ++ (wsX1_count_r2 ++ wsX1_count_r3)) ++ wsX10)
def wsX1_mean_r1 : List Cond := [Cond.fieldLink RX1 28 "ThimbleSwapModel" "thrown" "I", Cond.fieldLink RX1 39 "ThimbleSwapModel" "thimbles" "I", Cond.methodLink RX1 133 yX1_allWorth, Cond.instanceMethod yX1_allWorth, Cond.selects RX1 yX1_allWorth yX1_allWorth, Cond.initialized RX1, Cond.code yX1_allWorth cX1_allWorth 3 (some .int), Cond.fieldLink RX1 32 "ThimbleSwapModel" "collectors" "I", Cond.methodLink RX1 86 yX1_worth, Cond.instanceMethod yX1_worth, Cond.selects RX1 yX1_worth yX1_worth, Cond.code yX1_worth cX1_worth 5 (some .int), Cond.fieldLink RX1 13 "ThimbleSwapModel" "likes" "[I", Cond.methodLink RX1 73 yX1_hallmarks, Cond.instanceMethod yX1_hallmarks, Cond.selects RX1 yX1_hallmarks yX1_hallmarks, Cond.code yX1_hallmarks cX1_hallmarks 4 (some .int), Cond.methodLink RX1 42 yX1_th, Cond.instanceMethod yX1_th, Cond.selects RX1 yX1_th yX1_th, Cond.code yX1_th cX1_th 3 (some .int), Cond.fieldLink RX1 9 "ThimbleSwapModel" "table" "[I", Cond.methodLink RX1 68 yJ6_bitCount_0f7a4, Cond.static yJ6_bitCount_0f7a4]
def wsX1_mean_r2 : List Cond := [Cond.initialized RJ6, Cond.code yJ6_bitCount_0f7a4 cJ6_bitCount_0f7a4 1 (some .int), Cond.constant RJ6 265 (1431655765), Cond.constant RJ6 266 (858993459), Cond.constant RJ6 267 (252645135), Cond.methodLink RX1 76 yX1_gather, Cond.instanceMethod yX1_gather, Cond.selects RX1 yX1_gather yX1_gather, Cond.code yX1_gather cX1_gather 5 (some .int), Cond.fieldLink RX1 25 "ThimbleSwapModel" "greatest" "[I", Cond.methodLink RX1 63 Lib.Math.max.name, Cond.static Lib.Math.max.name, Cond.initialized "java/lang/Math", Cond.code Lib.Math.max.name Lib.Math.max.code 2 (some .int), Cond.methodLink RX1 79 yX1_states, Cond.instanceMethod yX1_states, Cond.selects RX1 yX1_states yX1_states, Cond.code yX1_states cX1_states 6 (some .int)]
def wsX1_mean : List Cond := .code yX1_mean cX1_mean 1 (some .double) :: ((wsX1_mean_r1 ++ wsX1_mean_r2) ++ wsX10)
def wsX1_digest_r1 : List Cond := [Cond.fieldLink RX1 28 "ThimbleSwapModel" "thrown" "I", Cond.constantLong RX1 139 (761), Cond.constantLong RX1 141 (31), Cond.fieldLink RX1 32 "ThimbleSwapModel" "collectors" "I", Cond.fieldLink RX1 13 "ThimbleSwapModel" "likes" "[I", Cond.fieldLink RX1 16 "ThimbleSwapModel" "grudges" "[I", Cond.fieldLink RX1 39 "ThimbleSwapModel" "thimbles" "I", Cond.methodLink RX1 136 yX1_counted, Cond.instanceMethod yX1_counted, Cond.selects RX1 yX1_counted yX1_counted, Cond.initialized RX1, Cond.code yX1_counted cX1_counted 4 (some .int), Cond.fieldLink RX1 22 "ThimbleSwapModel" "numbers" "[I", Cond.methodLink RX1 83 yX1_isLent, Cond.instanceMethod yX1_isLent, Cond.selects RX1 yX1_isLent yX1_isLent, Cond.code yX1_isLent cX1_isLent 2 (some .boolean), Cond.methodLink RX1 42 yX1_th, Cond.instanceMethod yX1_th, Cond.selects RX1 yX1_th yX1_th, Cond.code yX1_th cX1_th 3 (some .int), Cond.fieldLink RX1 9 "ThimbleSwapModel" "table" "[I", Cond.methodLink RX1 133 yX1_allWorth, Cond.instanceMethod yX1_allWorth]
def wsX1_digest_r2 : List Cond := [Cond.selects RX1 yX1_allWorth yX1_allWorth, Cond.code yX1_allWorth cX1_allWorth 3 (some .int), Cond.methodLink RX1 86 yX1_worth, Cond.instanceMethod yX1_worth, Cond.selects RX1 yX1_worth yX1_worth, Cond.code yX1_worth cX1_worth 5 (some .int), Cond.methodLink RX1 73 yX1_hallmarks, Cond.instanceMethod yX1_hallmarks, Cond.selects RX1 yX1_hallmarks yX1_hallmarks, Cond.code yX1_hallmarks cX1_hallmarks 4 (some .int), Cond.methodLink RX1 68 yJ6_bitCount_0f7a4, Cond.static yJ6_bitCount_0f7a4, Cond.initialized RJ6, Cond.code yJ6_bitCount_0f7a4 cJ6_bitCount_0f7a4 1 (some .int), Cond.constant RJ6 265 (1431655765), Cond.constant RJ6 266 (858993459), Cond.constant RJ6 267 (252645135), Cond.methodLink RX1 76 yX1_gather, Cond.instanceMethod yX1_gather, Cond.selects RX1 yX1_gather yX1_gather, Cond.code yX1_gather cX1_gather 5 (some .int), Cond.fieldLink RX1 25 "ThimbleSwapModel" "greatest" "[I", Cond.methodLink RX1 63 Lib.Math.max.name, Cond.static Lib.Math.max.name]
def wsX1_digest_r3 : List Cond := [Cond.initialized "java/lang/Math", Cond.code Lib.Math.max.name Lib.Math.max.code 2 (some .int), Cond.methodLink RX1 79 yX1_states, Cond.instanceMethod yX1_states, Cond.selects RX1 yX1_states yX1_states, Cond.code yX1_states cX1_states 6 (some .int), Cond.methodLink RX1 89 yX1_collectorTold, Cond.instanceMethod yX1_collectorTold, Cond.selects RX1 yX1_collectorTold yX1_collectorTold, Cond.code yX1_collectorTold cX1_collectorTold 5 (some .int), Cond.fieldLink RX1 19 "ThimbleSwapModel" "swaps" "[I"]
def wsX1_digest : List Cond := .code yX1_digest cX1_digest 5 (some .long) :: ((wsX1_digest_r1 ++ (wsX1_digest_r2 ++ wsX1_digest_r3)) ++ wsX10)
def wsJ9_max_7cf53 : List Cond := .code yJ9_max_7cf53 cJ9_max_7cf53 2 (some .int) :: ([])
def wsJ9_min_7cf53 : List Cond := .code yJ9_min_7cf53 cJ9_min_7cf53 2 (some .int) :: ([])
def wsL_join : List Cond := .codeWith yL_join cL_join 3 (some .int) [(0, 8, 11, 13)] :: ([.classLink RL 13 "java/lang/IllegalStateException", .methodLink RL 7 yX0_join, .instanceMethod yX0_join, .selects RX0 yX0_join yX0_join, .initialized RX0, .code yX0_join cX0_join 2 (some .int), .classLink RX0 49 "java/lang/IllegalStateException", .initialized "java/lang/IllegalStateException", .fieldLink RX0 45 "ThimbleSwap" "collectors" "I", .fieldLink RX0 33 "ThimbleSwap" "likings" "[[I", .methodLink RX0 56 yJ7_fill_53178, .static yJ7_fill_53178, .initialized RJ7, .code yJ7_fill_53178 cJ7_fill_53178 4 none] ++ wsX00 ++ (vx_atS RX0 53 "java/lang/IllegalStateException" ["java/lang/RuntimeException", "java/lang/Exception"]).filter goodWord)
def wsL_find_r1 : List Cond := [Cond.classLink RL 19 "java/lang/IndexOutOfBoundsException", Cond.classLink RL 21 "java/lang/IllegalArgumentException", Cond.classLink RL 13 "java/lang/IllegalStateException", Cond.methodLink RL 15 yX0_find, Cond.instanceMethod yX0_find, Cond.selects RX0 yX0_find yX0_find, Cond.initialized RX0, Cond.code yX0_find cX0_find 7 (some .int), Cond.classLink RX0 70 "java/lang/IllegalArgumentException", Cond.initialized "java/lang/IllegalArgumentException", Cond.classLink RX0 49 "java/lang/IllegalStateException", Cond.initialized "java/lang/IllegalStateException", Cond.fieldLink RX0 75 "ThimbleSwap" "thimbles" "I", Cond.fieldLink RX0 9 "ThimbleSwap" "setOf" "[I", Cond.fieldLink RX0 13 "ThimbleSwap" "numberOf" "[I", Cond.fieldLink RX0 16 "ThimbleSwap" "hallmarkOf" "[I", Cond.fieldLink RX0 19 "ThimbleSwap" "stateOf" "[I", Cond.fieldLink RX0 22 "ThimbleSwap" "ownerOf" "[I", Cond.fieldLink RX0 25 "ThimbleSwap" "lentTill" "[I", Cond.methodLink RX0 62 yX0_requireCollector, Cond.instanceMethod yX0_requireCollector, Cond.selects RX0 yX0_requireCollector yX0_requireCollector, Cond.code yX0_requireCollector cX0_requireCollector 2 none, Cond.classLink RX0 207 "java/lang/IndexOutOfBoundsException"]
def wsL_find_r2 : List Cond := [Cond.initialized "java/lang/IndexOutOfBoundsException", Cond.fieldLink RX0 45 "ThimbleSwap" "collectors" "I", Cond.methodLink RX0 66 yX0_isBelow, Cond.static yX0_isBelow, Cond.code yX0_isBelow cX0_isBelow 2 (some .boolean)]
def wsL_find : List Cond := .codeWith yL_find cL_find 8 (some .int) [(0, 16, 19, 19), (0, 16, 23, 21), (0, 16, 27, 13)] :: ((wsL_find_r1 ++ wsL_find_r2) ++ wsX00 ++ (vx_atS RX0 74 "java/lang/IllegalArgumentException" ["java/lang/RuntimeException", "java/lang/Exception"]).filter goodWord ++ (vx_atS RX0 53 "java/lang/IllegalStateException" ["java/lang/RuntimeException", "java/lang/Exception"]).filter goodWord ++ (vx_atS RX0 211 "java/lang/IndexOutOfBoundsException" ["java/lang/RuntimeException", "java/lang/Exception"]).filter goodWord)
def wsL_like : List Cond := .codeWith yL_like cL_like 6 (some .int) [(0, 12, 15, 19), (0, 12, 19, 21)] :: ([.classLink RL 19 "java/lang/IndexOutOfBoundsException", .classLink RL 21 "java/lang/IllegalArgumentException", .methodLink RL 23 yX0_like, .instanceMethod yX0_like, .selects RX0 yX0_like yX0_like, .initialized RX0, .code yX0_like cX0_like 5 (some .int), .classLink RX0 70 "java/lang/IllegalArgumentException", .initialized "java/lang/IllegalArgumentException", .fieldLink RX0 33 "ThimbleSwap" "likings" "[[I", .methodLink RX0 62 yX0_requireCollector, .instanceMethod yX0_requireCollector, .selects RX0 yX0_requireCollector yX0_requireCollector, .code yX0_requireCollector cX0_requireCollector 2 none, .classLink RX0 207 "java/lang/IndexOutOfBoundsException", .initialized "java/lang/IndexOutOfBoundsException", .fieldLink RX0 45 "ThimbleSwap" "collectors" "I", .methodLink RX0 66 yX0_isBelow, .static yX0_isBelow, .code yX0_isBelow cX0_isBelow 2 (some .boolean), .methodLink RX0 80 yX0_requireSet, .static yX0_requireSet, .code yX0_requireSet cX0_requireSet 1 none] ++ wsX00 ++ (vx_atS RX0 74 "java/lang/IllegalArgumentException" ["java/lang/RuntimeException", "java/lang/Exception"]).filter goodWord ++ (vx_atS RX0 211 "java/lang/IndexOutOfBoundsException" ["java/lang/RuntimeException", "java/lang/Exception"]).filter goodWord)
def wsL_collector_r1 : List Cond := [Cond.classLink RL 19 "java/lang/IndexOutOfBoundsException", Cond.methodLink RL 27 yX0_collector, Cond.instanceMethod yX0_collector, Cond.selects RX0 yX0_collector yX0_collector, Cond.initialized RX0, Cond.code yX0_collector cX0_collector 3 (some .int), Cond.fieldLink RX0 39 "ThimbleSwap" "swapsOf" "[I", Cond.methodLink RX0 62 yX0_requireCollector, Cond.instanceMethod yX0_requireCollector, Cond.selects RX0 yX0_requireCollector yX0_requireCollector, Cond.code yX0_requireCollector cX0_requireCollector 2 none, Cond.classLink RX0 207 "java/lang/IndexOutOfBoundsException", Cond.initialized "java/lang/IndexOutOfBoundsException", Cond.fieldLink RX0 45 "ThimbleSwap" "collectors" "I", Cond.methodLink RX0 66 yX0_isBelow, Cond.static yX0_isBelow, Cond.code yX0_isBelow cX0_isBelow 2 (some .boolean), Cond.methodLink RX0 85 yX0_requireRow, Cond.static yX0_requireRow, Cond.code yX0_requireRow cX0_requireRow 2 none, Cond.methodLink RX0 89 yX0_thimblesOf, Cond.instanceMethod yX0_thimblesOf, Cond.selects RX0 yX0_thimblesOf yX0_thimblesOf, Cond.code yX0_thimblesOf cX0_thimblesOf 4 (some .int)]
def wsL_collector_r2 : List Cond := [Cond.fieldLink RX0 75 "ThimbleSwap" "thimbles" "I", Cond.fieldLink RX0 22 "ThimbleSwap" "ownerOf" "[I", Cond.methodLink RX0 93 yX0_thimblesLentBy, Cond.instanceMethod yX0_thimblesLentBy, Cond.selects RX0 yX0_thimblesLentBy yX0_thimblesLentBy, Cond.code yX0_thimblesLentBy cX0_thimblesLentBy 4 (some .int), Cond.methodLink RX0 220 yX0_isLent, Cond.instanceMethod yX0_isLent, Cond.selects RX0 yX0_isLent yX0_isLent, Cond.code yX0_isLent cX0_isLent 2 (some .boolean), Cond.fieldLink RX0 25 "ThimbleSwap" "lentTill" "[I", Cond.methodLink RX0 96 yX0_differentHallmarks, Cond.instanceMethod yX0_differentHallmarks, Cond.selects RX0 yX0_differentHallmarks yX0_differentHallmarks, Cond.code yX0_differentHallmarks cX0_differentHallmarks 2 (some .int), Cond.fieldLink RX0 230 "ThimbleSwap" "hallmarksLaidOut" "I", Cond.methodLink RX0 164 yX0_layOutOwn, Cond.instanceMethod yX0_layOutOwn, Cond.selects RX0 yX0_layOutOwn yX0_layOutOwn, Cond.code yX0_layOutOwn cX0_layOutOwn 2 none, Cond.methodLink RX0 226 yX0_layOut, Cond.instanceMethod yX0_layOut, Cond.selects RX0 yX0_layOut yX0_layOut, Cond.code yX0_layOut cX0_layOut 6 none]
def wsL_collector_r3 : List Cond := [Cond.fieldLink RX0 42 "ThimbleSwap" "greatestStates" "[I", Cond.fieldLink RX0 9 "ThimbleSwap" "setOf" "[I", Cond.fieldLink RX0 13 "ThimbleSwap" "numberOf" "[I", Cond.fieldLink RX0 19 "ThimbleSwap" "stateOf" "[I", Cond.methodLink RX0 233 Lib.Math.max.name, Cond.static Lib.Math.max.name, Cond.initialized "java/lang/Math", Cond.code Lib.Math.max.name Lib.Math.max.code 2 (some .int), Cond.fieldLink RX0 16 "ThimbleSwap" "hallmarkOf" "[I", Cond.methodLink RX0 56 yJ7_fill_53178, Cond.static yJ7_fill_53178, Cond.initialized RJ7, Cond.code yJ7_fill_53178 cJ7_fill_53178 4 none, Cond.methodLink RX0 156 yJ6_bitCount_0f7a4, Cond.static yJ6_bitCount_0f7a4, Cond.initialized RJ6, Cond.code yJ6_bitCount_0f7a4 cJ6_bitCount_0f7a4 1 (some .int), Cond.constant RJ6 265 (1431655765), Cond.constant RJ6 266 (858993459), Cond.constant RJ6 267 (252645135), Cond.methodLink RX0 99 yX0_worthNow, Cond.instanceMethod yX0_worthNow, Cond.selects RX0 yX0_worthNow yX0_worthNow, Cond.code yX0_worthNow cX0_worthNow 2 (some .int)]
def wsL_collector_r4 : List Cond := [Cond.methodLink RX0 238 yX0_worthLaidOut, Cond.instanceMethod yX0_worthLaidOut, Cond.selects RX0 yX0_worthLaidOut yX0_worthLaidOut, Cond.code yX0_worthLaidOut cX0_worthLaidOut 5 (some .int), Cond.fieldLink RX0 33 "ThimbleSwap" "likings" "[[I", Cond.methodLink RX0 167 yX0_numbersLaidOut, Cond.instanceMethod yX0_numbersLaidOut, Cond.selects RX0 yX0_numbersLaidOut yX0_numbersLaidOut, Cond.code yX0_numbersLaidOut cX0_numbersLaidOut 4 (some .int), Cond.methodLink RX0 170 yX0_statesLaidOut, Cond.instanceMethod yX0_statesLaidOut, Cond.selects RX0 yX0_statesLaidOut yX0_statesLaidOut, Cond.code yX0_statesLaidOut cX0_statesLaidOut 4 (some .int), Cond.methodLink RX0 102 yX0_wholeSets, Cond.instanceMethod yX0_wholeSets, Cond.selects RX0 yX0_wholeSets yX0_wholeSets, Cond.code yX0_wholeSets cX0_wholeSets 4 (some .int), Cond.methodLink RX0 105 yX0_allGrudgesOf, Cond.instanceMethod yX0_allGrudgesOf, Cond.selects RX0 yX0_allGrudgesOf yX0_allGrudgesOf, Cond.code yX0_allGrudgesOf cX0_allGrudgesOf 4 (some .int), Cond.fieldLink RX0 36 "ThimbleSwap" "grudges" "[[I"]
def wsL_collector : List Cond := .codeWith yL_collector cL_collector 5 (some .int) [(0, 10, 13, 19)] :: ((wsL_collector_r1 ++ (wsL_collector_r2 ++ (wsL_collector_r3 ++ wsL_collector_r4))) ++ wsX00 ++ (vx_atS RX0 211 "java/lang/IndexOutOfBoundsException" ["java/lang/RuntimeException", "java/lang/Exception"]).filter goodWord)
def wsL_grudge : List Cond := .codeWith yL_grudge cL_grudge 5 (some .int) [(0, 10, 13, 19)] :: ([.classLink RL 19 "java/lang/IndexOutOfBoundsException", .methodLink RL 31 yX0_grudge, .instanceMethod yX0_grudge, .selects RX0 yX0_grudge yX0_grudge, .initialized RX0, .code yX0_grudge cX0_grudge 3 (some .int), .fieldLink RX0 36 "ThimbleSwap" "grudges" "[[I", .methodLink RX0 62 yX0_requireCollector, .instanceMethod yX0_requireCollector, .selects RX0 yX0_requireCollector yX0_requireCollector, .code yX0_requireCollector cX0_requireCollector 2 none, .classLink RX0 207 "java/lang/IndexOutOfBoundsException", .initialized "java/lang/IndexOutOfBoundsException", .fieldLink RX0 45 "ThimbleSwap" "collectors" "I", .methodLink RX0 66 yX0_isBelow, .static yX0_isBelow, .code yX0_isBelow cX0_isBelow 2 (some .boolean)] ++ wsX00 ++ (vx_atS RX0 211 "java/lang/IndexOutOfBoundsException" ["java/lang/RuntimeException", "java/lang/Exception"]).filter goodWord)
def wsL_thimble_r1 : List Cond := [Cond.classLink RL 19 "java/lang/IndexOutOfBoundsException", Cond.methodLink RL 34 yX0_thimble, Cond.instanceMethod yX0_thimble, Cond.selects RX0 yX0_thimble yX0_thimble, Cond.initialized RX0, Cond.code yX0_thimble cX0_thimble 3 (some .int), Cond.fieldLink RX0 9 "ThimbleSwap" "setOf" "[I", Cond.fieldLink RX0 13 "ThimbleSwap" "numberOf" "[I", Cond.fieldLink RX0 16 "ThimbleSwap" "hallmarkOf" "[I", Cond.fieldLink RX0 19 "ThimbleSwap" "stateOf" "[I", Cond.fieldLink RX0 22 "ThimbleSwap" "ownerOf" "[I", Cond.fieldLink RX0 25 "ThimbleSwap" "lentTill" "[I", Cond.methodLink RX0 108 yX0_requireThimble, Cond.instanceMethod yX0_requireThimble, Cond.selects RX0 yX0_requireThimble yX0_requireThimble, Cond.code yX0_requireThimble cX0_requireThimble 2 none, Cond.classLink RX0 207 "java/lang/IndexOutOfBoundsException", Cond.initialized "java/lang/IndexOutOfBoundsException", Cond.fieldLink RX0 75 "ThimbleSwap" "thimbles" "I", Cond.methodLink RX0 66 yX0_isBelow, Cond.static yX0_isBelow, Cond.code yX0_isBelow cX0_isBelow 2 (some .boolean), Cond.methodLink RX0 85 yX0_requireRow, Cond.static yX0_requireRow]
def wsL_thimble_r2 : List Cond := [Cond.code yX0_requireRow cX0_requireRow 2 none]
def wsL_thimble : List Cond := .codeWith yL_thimble cL_thimble 5 (some .int) [(0, 10, 13, 19)] :: ((wsL_thimble_r1 ++ wsL_thimble_r2) ++ wsX00 ++ (vx_atS RX0 211 "java/lang/IndexOutOfBoundsException" ["java/lang/RuntimeException", "java/lang/Exception"]).filter goodWord)
def wsL_gains_r1 : List Cond := [Cond.classLink RL 19 "java/lang/IndexOutOfBoundsException", Cond.classLink RL 21 "java/lang/IllegalArgumentException", Cond.methodLink RL 37 yX0_gains, Cond.instanceMethod yX0_gains, Cond.selects RX0 yX0_gains yX0_gains, Cond.initialized RX0, Cond.code yX0_gains cX0_gains 3 (some .int), Cond.methodLink RX0 108 yX0_requireThimble, Cond.instanceMethod yX0_requireThimble, Cond.selects RX0 yX0_requireThimble yX0_requireThimble, Cond.code yX0_requireThimble cX0_requireThimble 2 none, Cond.classLink RX0 207 "java/lang/IndexOutOfBoundsException", Cond.initialized "java/lang/IndexOutOfBoundsException", Cond.fieldLink RX0 75 "ThimbleSwap" "thimbles" "I", Cond.methodLink RX0 66 yX0_isBelow, Cond.static yX0_isBelow, Cond.code yX0_isBelow cX0_isBelow 2 (some .boolean), Cond.methodLink RX0 111 yX0_requireTwoOwners, Cond.instanceMethod yX0_requireTwoOwners, Cond.selects RX0 yX0_requireTwoOwners yX0_requireTwoOwners, Cond.code yX0_requireTwoOwners cX0_requireTwoOwners 3 none, Cond.classLink RX0 70 "java/lang/IllegalArgumentException", Cond.initialized "java/lang/IllegalArgumentException", Cond.fieldLink RX0 22 "ThimbleSwap" "ownerOf" "[I"]
def wsL_gains_r2 : List Cond := [Cond.methodLink RX0 114 yX0_gainOfOwner, Cond.instanceMethod yX0_gainOfOwner, Cond.selects RX0 yX0_gainOfOwner yX0_gainOfOwner, Cond.code yX0_gainOfOwner cX0_gainOfOwner 4 (some .int), Cond.methodLink RX0 241 yX0_worthAfter, Cond.instanceMethod yX0_worthAfter, Cond.selects RX0 yX0_worthAfter yX0_worthAfter, Cond.code yX0_worthAfter cX0_worthAfter 4 (some .int), Cond.methodLink RX0 226 yX0_layOut, Cond.instanceMethod yX0_layOut, Cond.selects RX0 yX0_layOut yX0_layOut, Cond.code yX0_layOut cX0_layOut 6 none, Cond.fieldLink RX0 42 "ThimbleSwap" "greatestStates" "[I", Cond.fieldLink RX0 230 "ThimbleSwap" "hallmarksLaidOut" "I", Cond.fieldLink RX0 9 "ThimbleSwap" "setOf" "[I", Cond.fieldLink RX0 13 "ThimbleSwap" "numberOf" "[I", Cond.fieldLink RX0 19 "ThimbleSwap" "stateOf" "[I", Cond.methodLink RX0 233 Lib.Math.max.name, Cond.static Lib.Math.max.name, Cond.initialized "java/lang/Math", Cond.code Lib.Math.max.name Lib.Math.max.code 2 (some .int), Cond.fieldLink RX0 16 "ThimbleSwap" "hallmarkOf" "[I", Cond.methodLink RX0 56 yJ7_fill_53178, Cond.static yJ7_fill_53178]
def wsL_gains_r3 : List Cond := [Cond.initialized RJ7, Cond.code yJ7_fill_53178 cJ7_fill_53178 4 none, Cond.methodLink RX0 238 yX0_worthLaidOut, Cond.instanceMethod yX0_worthLaidOut, Cond.selects RX0 yX0_worthLaidOut yX0_worthLaidOut, Cond.code yX0_worthLaidOut cX0_worthLaidOut 5 (some .int), Cond.fieldLink RX0 33 "ThimbleSwap" "likings" "[[I", Cond.methodLink RX0 156 yJ6_bitCount_0f7a4, Cond.static yJ6_bitCount_0f7a4, Cond.initialized RJ6, Cond.code yJ6_bitCount_0f7a4 cJ6_bitCount_0f7a4 1 (some .int), Cond.constant RJ6 265 (1431655765), Cond.constant RJ6 266 (858993459), Cond.constant RJ6 267 (252645135), Cond.methodLink RX0 167 yX0_numbersLaidOut, Cond.instanceMethod yX0_numbersLaidOut, Cond.selects RX0 yX0_numbersLaidOut yX0_numbersLaidOut, Cond.code yX0_numbersLaidOut cX0_numbersLaidOut 4 (some .int), Cond.methodLink RX0 170 yX0_statesLaidOut, Cond.instanceMethod yX0_statesLaidOut, Cond.selects RX0 yX0_statesLaidOut yX0_statesLaidOut, Cond.code yX0_statesLaidOut cX0_statesLaidOut 4 (some .int), Cond.methodLink RX0 99 yX0_worthNow, Cond.instanceMethod yX0_worthNow]
def wsL_gains_r4 : List Cond := [Cond.selects RX0 yX0_worthNow yX0_worthNow, Cond.code yX0_worthNow cX0_worthNow 2 (some .int), Cond.methodLink RX0 164 yX0_layOutOwn, Cond.instanceMethod yX0_layOutOwn, Cond.selects RX0 yX0_layOutOwn yX0_layOutOwn, Cond.code yX0_layOutOwn cX0_layOutOwn 2 none]
def wsL_gains : List Cond := .codeWith yL_gains cL_gains 5 (some .int) [(0, 10, 13, 19), (0, 10, 17, 21)] :: ((wsL_gains_r1 ++ (wsL_gains_r2 ++ (wsL_gains_r3 ++ wsL_gains_r4))) ++ wsX00 ++ (vx_atS RX0 211 "java/lang/IndexOutOfBoundsException" ["java/lang/RuntimeException", "java/lang/Exception"]).filter goodWord ++ (vx_atS RX0 74 "java/lang/IllegalArgumentException" ["java/lang/RuntimeException", "java/lang/Exception"]).filter goodWord)
def wsL_swap_r1 : List Cond := [Cond.classLink RL 19 "java/lang/IndexOutOfBoundsException", Cond.classLink RL 21 "java/lang/IllegalArgumentException", Cond.classLink RL 13 "java/lang/IllegalStateException", Cond.methodLink RL 40 yX0_swap, Cond.instanceMethod yX0_swap, Cond.selects RX0 yX0_swap yX0_swap, Cond.initialized RX0, Cond.code yX0_swap cX0_swap 7 (some .int), Cond.fieldLink RX0 22 "ThimbleSwap" "ownerOf" "[I", Cond.fieldLink RX0 128 "ThimbleSwap" "swapsRefused" "I", Cond.methodLink RX0 108 yX0_requireThimble, Cond.instanceMethod yX0_requireThimble, Cond.selects RX0 yX0_requireThimble yX0_requireThimble, Cond.code yX0_requireThimble cX0_requireThimble 2 none, Cond.classLink RX0 207 "java/lang/IndexOutOfBoundsException", Cond.initialized "java/lang/IndexOutOfBoundsException", Cond.fieldLink RX0 75 "ThimbleSwap" "thimbles" "I", Cond.methodLink RX0 66 yX0_isBelow, Cond.static yX0_isBelow, Cond.code yX0_isBelow cX0_isBelow 2 (some .boolean), Cond.methodLink RX0 111 yX0_requireTwoOwners, Cond.instanceMethod yX0_requireTwoOwners, Cond.selects RX0 yX0_requireTwoOwners yX0_requireTwoOwners, Cond.code yX0_requireTwoOwners cX0_requireTwoOwners 3 none]
def wsL_swap_r2 : List Cond := [Cond.classLink RX0 70 "java/lang/IllegalArgumentException", Cond.initialized "java/lang/IllegalArgumentException", Cond.methodLink RX0 118 yX0_requireAtHome, Cond.instanceMethod yX0_requireAtHome, Cond.selects RX0 yX0_requireAtHome yX0_requireAtHome, Cond.code yX0_requireAtHome cX0_requireAtHome 2 none, Cond.classLink RX0 49 "java/lang/IllegalStateException", Cond.initialized "java/lang/IllegalStateException", Cond.methodLink RX0 220 yX0_isLent, Cond.instanceMethod yX0_isLent, Cond.selects RX0 yX0_isLent yX0_isLent, Cond.code yX0_isLent cX0_isLent 2 (some .boolean), Cond.fieldLink RX0 25 "ThimbleSwap" "lentTill" "[I", Cond.methodLink RX0 114 yX0_gainOfOwner, Cond.instanceMethod yX0_gainOfOwner, Cond.selects RX0 yX0_gainOfOwner yX0_gainOfOwner, Cond.code yX0_gainOfOwner cX0_gainOfOwner 4 (some .int), Cond.methodLink RX0 241 yX0_worthAfter, Cond.instanceMethod yX0_worthAfter, Cond.selects RX0 yX0_worthAfter yX0_worthAfter, Cond.code yX0_worthAfter cX0_worthAfter 4 (some .int), Cond.methodLink RX0 226 yX0_layOut, Cond.instanceMethod yX0_layOut, Cond.selects RX0 yX0_layOut yX0_layOut]
def wsL_swap_r3 : List Cond := [Cond.code yX0_layOut cX0_layOut 6 none, Cond.fieldLink RX0 42 "ThimbleSwap" "greatestStates" "[I", Cond.fieldLink RX0 230 "ThimbleSwap" "hallmarksLaidOut" "I", Cond.fieldLink RX0 9 "ThimbleSwap" "setOf" "[I", Cond.fieldLink RX0 13 "ThimbleSwap" "numberOf" "[I", Cond.fieldLink RX0 19 "ThimbleSwap" "stateOf" "[I", Cond.methodLink RX0 233 Lib.Math.max.name, Cond.static Lib.Math.max.name, Cond.initialized "java/lang/Math", Cond.code Lib.Math.max.name Lib.Math.max.code 2 (some .int), Cond.fieldLink RX0 16 "ThimbleSwap" "hallmarkOf" "[I", Cond.methodLink RX0 56 yJ7_fill_53178, Cond.static yJ7_fill_53178, Cond.initialized RJ7, Cond.code yJ7_fill_53178 cJ7_fill_53178 4 none, Cond.methodLink RX0 238 yX0_worthLaidOut, Cond.instanceMethod yX0_worthLaidOut, Cond.selects RX0 yX0_worthLaidOut yX0_worthLaidOut, Cond.code yX0_worthLaidOut cX0_worthLaidOut 5 (some .int), Cond.fieldLink RX0 33 "ThimbleSwap" "likings" "[[I", Cond.methodLink RX0 156 yJ6_bitCount_0f7a4, Cond.static yJ6_bitCount_0f7a4, Cond.initialized RJ6, Cond.code yJ6_bitCount_0f7a4 cJ6_bitCount_0f7a4 1 (some .int)]
def wsL_swap_r4 : List Cond := [Cond.constant RJ6 265 (1431655765), Cond.constant RJ6 266 (858993459), Cond.constant RJ6 267 (252645135), Cond.methodLink RX0 167 yX0_numbersLaidOut, Cond.instanceMethod yX0_numbersLaidOut, Cond.selects RX0 yX0_numbersLaidOut yX0_numbersLaidOut, Cond.code yX0_numbersLaidOut cX0_numbersLaidOut 4 (some .int), Cond.methodLink RX0 170 yX0_statesLaidOut, Cond.instanceMethod yX0_statesLaidOut, Cond.selects RX0 yX0_statesLaidOut yX0_statesLaidOut, Cond.code yX0_statesLaidOut cX0_statesLaidOut 4 (some .int), Cond.methodLink RX0 99 yX0_worthNow, Cond.instanceMethod yX0_worthNow, Cond.selects RX0 yX0_worthNow yX0_worthNow, Cond.code yX0_worthNow cX0_worthNow 2 (some .int), Cond.methodLink RX0 164 yX0_layOutOwn, Cond.instanceMethod yX0_layOutOwn, Cond.selects RX0 yX0_layOutOwn yX0_layOutOwn, Cond.code yX0_layOutOwn cX0_layOutOwn 2 none, Cond.methodLink RX0 121 yX0_isEnough, Cond.instanceMethod yX0_isEnough, Cond.selects RX0 yX0_isEnough yX0_isEnough, Cond.code yX0_isEnough cX0_isEnough 4 (some .boolean), Cond.fieldLink RX0 36 "ThimbleSwap" "grudges" "[[I"]
def wsL_swap_r5 : List Cond := [Cond.methodLink RX0 125 yX0_changeHands, Cond.instanceMethod yX0_changeHands, Cond.selects RX0 yX0_changeHands yX0_changeHands, Cond.code yX0_changeHands cX0_changeHands 5 none, Cond.fieldLink RX0 39 "ThimbleSwap" "swapsOf" "[I", Cond.fieldLink RX0 181 "ThimbleSwap" "swapsAgreed" "I", Cond.methodLink RX0 248 yX0_soften, Cond.instanceMethod yX0_soften, Cond.selects RX0 yX0_soften yX0_soften, Cond.code yX0_soften cX0_soften 3 none, Cond.methodLink RX0 131 yX0_resent, Cond.instanceMethod yX0_resent, Cond.selects RX0 yX0_resent yX0_resent, Cond.code yX0_resent cX0_resent 3 none, Cond.methodLink RX0 251 Lib.Math.min.name, Cond.static Lib.Math.min.name, Cond.code Lib.Math.min.name Lib.Math.min.code 2 (some .int)]
def wsL_swap : List Cond := .codeWith yL_swap cL_swap 5 (some .int) [(0, 10, 13, 19), (0, 10, 17, 21), (0, 10, 21, 13)] :: ((wsL_swap_r1 ++ (wsL_swap_r2 ++ (wsL_swap_r3 ++ (wsL_swap_r4 ++ wsL_swap_r5)))) ++ wsX00 ++ (vx_atS RX0 211 "java/lang/IndexOutOfBoundsException" ["java/lang/RuntimeException", "java/lang/Exception"]).filter goodWord ++ (vx_atS RX0 74 "java/lang/IllegalArgumentException" ["java/lang/RuntimeException", "java/lang/Exception"]).filter goodWord ++ (vx_atS RX0 53 "java/lang/IllegalStateException" ["java/lang/RuntimeException", "java/lang/Exception"]).filter goodWord)
def wsL_best_r1 : List Cond := [Cond.classLink RL 19 "java/lang/IndexOutOfBoundsException", Cond.classLink RL 21 "java/lang/IllegalArgumentException", Cond.methodLink RL 43 yX0_best, Cond.instanceMethod yX0_best, Cond.selects RX0 yX0_best yX0_best, Cond.initialized RX0, Cond.code yX0_best cX0_best 3 (some .int), Cond.classLink RX0 70 "java/lang/IllegalArgumentException", Cond.initialized "java/lang/IllegalArgumentException", Cond.methodLink RX0 62 yX0_requireCollector, Cond.instanceMethod yX0_requireCollector, Cond.selects RX0 yX0_requireCollector yX0_requireCollector, Cond.code yX0_requireCollector cX0_requireCollector 2 none, Cond.classLink RX0 207 "java/lang/IndexOutOfBoundsException", Cond.initialized "java/lang/IndexOutOfBoundsException", Cond.fieldLink RX0 45 "ThimbleSwap" "collectors" "I", Cond.methodLink RX0 66 yX0_isBelow, Cond.static yX0_isBelow, Cond.code yX0_isBelow cX0_isBelow 2 (some .boolean), Cond.methodLink RX0 136 yX0_bestSwapOf, Cond.instanceMethod yX0_bestSwapOf, Cond.selects RX0 yX0_bestSwapOf yX0_bestSwapOf, Cond.code yX0_bestSwapOf cX0_bestSwapOf 11 (some .int), Cond.fieldLink RX0 75 "ThimbleSwap" "thimbles" "I"]
def wsL_best_r2 : List Cond := [Cond.methodLink RX0 99 yX0_worthNow, Cond.instanceMethod yX0_worthNow, Cond.selects RX0 yX0_worthNow yX0_worthNow, Cond.code yX0_worthNow cX0_worthNow 2 (some .int), Cond.methodLink RX0 164 yX0_layOutOwn, Cond.instanceMethod yX0_layOutOwn, Cond.selects RX0 yX0_layOutOwn yX0_layOutOwn, Cond.code yX0_layOutOwn cX0_layOutOwn 2 none, Cond.methodLink RX0 226 yX0_layOut, Cond.instanceMethod yX0_layOut, Cond.selects RX0 yX0_layOut yX0_layOut, Cond.code yX0_layOut cX0_layOut 6 none, Cond.fieldLink RX0 42 "ThimbleSwap" "greatestStates" "[I", Cond.fieldLink RX0 230 "ThimbleSwap" "hallmarksLaidOut" "I", Cond.fieldLink RX0 22 "ThimbleSwap" "ownerOf" "[I", Cond.fieldLink RX0 9 "ThimbleSwap" "setOf" "[I", Cond.fieldLink RX0 13 "ThimbleSwap" "numberOf" "[I", Cond.fieldLink RX0 19 "ThimbleSwap" "stateOf" "[I", Cond.methodLink RX0 233 Lib.Math.max.name, Cond.static Lib.Math.max.name, Cond.initialized "java/lang/Math", Cond.code Lib.Math.max.name Lib.Math.max.code 2 (some .int), Cond.fieldLink RX0 16 "ThimbleSwap" "hallmarkOf" "[I", Cond.methodLink RX0 56 yJ7_fill_53178]
def wsL_best_r3 : List Cond := [Cond.static yJ7_fill_53178, Cond.initialized RJ7, Cond.code yJ7_fill_53178 cJ7_fill_53178 4 none, Cond.methodLink RX0 238 yX0_worthLaidOut, Cond.instanceMethod yX0_worthLaidOut, Cond.selects RX0 yX0_worthLaidOut yX0_worthLaidOut, Cond.code yX0_worthLaidOut cX0_worthLaidOut 5 (some .int), Cond.fieldLink RX0 33 "ThimbleSwap" "likings" "[[I", Cond.methodLink RX0 156 yJ6_bitCount_0f7a4, Cond.static yJ6_bitCount_0f7a4, Cond.initialized RJ6, Cond.code yJ6_bitCount_0f7a4 cJ6_bitCount_0f7a4 1 (some .int), Cond.constant RJ6 265 (1431655765), Cond.constant RJ6 266 (858993459), Cond.constant RJ6 267 (252645135), Cond.methodLink RX0 167 yX0_numbersLaidOut, Cond.instanceMethod yX0_numbersLaidOut, Cond.selects RX0 yX0_numbersLaidOut yX0_numbersLaidOut, Cond.code yX0_numbersLaidOut cX0_numbersLaidOut 4 (some .int), Cond.methodLink RX0 170 yX0_statesLaidOut, Cond.instanceMethod yX0_statesLaidOut, Cond.selects RX0 yX0_statesLaidOut yX0_statesLaidOut, Cond.code yX0_statesLaidOut cX0_statesLaidOut 4 (some .int), Cond.methodLink RX0 245 yX0_isAtHomeWith]
def wsL_best_r4 : List Cond := [Cond.instanceMethod yX0_isAtHomeWith, Cond.selects RX0 yX0_isAtHomeWith yX0_isAtHomeWith, Cond.code yX0_isAtHomeWith cX0_isAtHomeWith 3 (some .boolean), Cond.methodLink RX0 220 yX0_isLent, Cond.instanceMethod yX0_isLent, Cond.selects RX0 yX0_isLent yX0_isLent, Cond.code yX0_isLent cX0_isLent 2 (some .boolean), Cond.fieldLink RX0 25 "ThimbleSwap" "lentTill" "[I", Cond.methodLink RX0 241 yX0_worthAfter, Cond.instanceMethod yX0_worthAfter, Cond.selects RX0 yX0_worthAfter yX0_worthAfter, Cond.code yX0_worthAfter cX0_worthAfter 4 (some .int), Cond.methodLink RX0 121 yX0_isEnough, Cond.instanceMethod yX0_isEnough, Cond.selects RX0 yX0_isEnough yX0_isEnough, Cond.code yX0_isEnough cX0_isEnough 4 (some .boolean), Cond.fieldLink RX0 36 "ThimbleSwap" "grudges" "[[I"]
def wsL_best : List Cond := .codeWith yL_best cL_best 5 (some .int) [(0, 10, 13, 19), (0, 10, 17, 21)] :: ((wsL_best_r1 ++ (wsL_best_r2 ++ (wsL_best_r3 ++ wsL_best_r4))) ++ wsX00 ++ (vx_atS RX0 74 "java/lang/IllegalArgumentException" ["java/lang/RuntimeException", "java/lang/Exception"]).filter goodWord ++ (vx_atS RX0 211 "java/lang/IndexOutOfBoundsException" ["java/lang/RuntimeException", "java/lang/Exception"]).filter goodWord)
def wsL_ring_r1 : List Cond := [Cond.classLink RL 19 "java/lang/IndexOutOfBoundsException", Cond.classLink RL 21 "java/lang/IllegalArgumentException", Cond.methodLink RL 46 yX0_ring, Cond.instanceMethod yX0_ring, Cond.selects RX0 yX0_ring yX0_ring, Cond.initialized RX0, Cond.code yX0_ring cX0_ring 4 (some .int), Cond.methodLink RX0 108 yX0_requireThimble, Cond.instanceMethod yX0_requireThimble, Cond.selects RX0 yX0_requireThimble yX0_requireThimble, Cond.code yX0_requireThimble cX0_requireThimble 2 none, Cond.classLink RX0 207 "java/lang/IndexOutOfBoundsException", Cond.initialized "java/lang/IndexOutOfBoundsException", Cond.fieldLink RX0 75 "ThimbleSwap" "thimbles" "I", Cond.methodLink RX0 66 yX0_isBelow, Cond.static yX0_isBelow, Cond.code yX0_isBelow cX0_isBelow 2 (some .boolean), Cond.methodLink RX0 111 yX0_requireTwoOwners, Cond.instanceMethod yX0_requireTwoOwners, Cond.selects RX0 yX0_requireTwoOwners yX0_requireTwoOwners, Cond.code yX0_requireTwoOwners cX0_requireTwoOwners 3 none, Cond.classLink RX0 70 "java/lang/IllegalArgumentException", Cond.initialized "java/lang/IllegalArgumentException", Cond.fieldLink RX0 22 "ThimbleSwap" "ownerOf" "[I"]
def wsL_ring_r2 : List Cond := [Cond.methodLink RX0 114 yX0_gainOfOwner, Cond.instanceMethod yX0_gainOfOwner, Cond.selects RX0 yX0_gainOfOwner yX0_gainOfOwner, Cond.code yX0_gainOfOwner cX0_gainOfOwner 4 (some .int), Cond.methodLink RX0 241 yX0_worthAfter, Cond.instanceMethod yX0_worthAfter, Cond.selects RX0 yX0_worthAfter yX0_worthAfter, Cond.code yX0_worthAfter cX0_worthAfter 4 (some .int), Cond.methodLink RX0 226 yX0_layOut, Cond.instanceMethod yX0_layOut, Cond.selects RX0 yX0_layOut yX0_layOut, Cond.code yX0_layOut cX0_layOut 6 none, Cond.fieldLink RX0 42 "ThimbleSwap" "greatestStates" "[I", Cond.fieldLink RX0 230 "ThimbleSwap" "hallmarksLaidOut" "I", Cond.fieldLink RX0 9 "ThimbleSwap" "setOf" "[I", Cond.fieldLink RX0 13 "ThimbleSwap" "numberOf" "[I", Cond.fieldLink RX0 19 "ThimbleSwap" "stateOf" "[I", Cond.methodLink RX0 233 Lib.Math.max.name, Cond.static Lib.Math.max.name, Cond.initialized "java/lang/Math", Cond.code Lib.Math.max.name Lib.Math.max.code 2 (some .int), Cond.fieldLink RX0 16 "ThimbleSwap" "hallmarkOf" "[I", Cond.methodLink RX0 56 yJ7_fill_53178, Cond.static yJ7_fill_53178]
def wsL_ring_r3 : List Cond := [Cond.initialized RJ7, Cond.code yJ7_fill_53178 cJ7_fill_53178 4 none, Cond.methodLink RX0 238 yX0_worthLaidOut, Cond.instanceMethod yX0_worthLaidOut, Cond.selects RX0 yX0_worthLaidOut yX0_worthLaidOut, Cond.code yX0_worthLaidOut cX0_worthLaidOut 5 (some .int), Cond.fieldLink RX0 33 "ThimbleSwap" "likings" "[[I", Cond.methodLink RX0 156 yJ6_bitCount_0f7a4, Cond.static yJ6_bitCount_0f7a4, Cond.initialized RJ6, Cond.code yJ6_bitCount_0f7a4 cJ6_bitCount_0f7a4 1 (some .int), Cond.constant RJ6 265 (1431655765), Cond.constant RJ6 266 (858993459), Cond.constant RJ6 267 (252645135), Cond.methodLink RX0 167 yX0_numbersLaidOut, Cond.instanceMethod yX0_numbersLaidOut, Cond.selects RX0 yX0_numbersLaidOut yX0_numbersLaidOut, Cond.code yX0_numbersLaidOut cX0_numbersLaidOut 4 (some .int), Cond.methodLink RX0 170 yX0_statesLaidOut, Cond.instanceMethod yX0_statesLaidOut, Cond.selects RX0 yX0_statesLaidOut yX0_statesLaidOut, Cond.code yX0_statesLaidOut cX0_statesLaidOut 4 (some .int), Cond.methodLink RX0 99 yX0_worthNow, Cond.instanceMethod yX0_worthNow]
def wsL_ring_r4 : List Cond := [Cond.selects RX0 yX0_worthNow yX0_worthNow, Cond.code yX0_worthNow cX0_worthNow 2 (some .int), Cond.methodLink RX0 164 yX0_layOutOwn, Cond.instanceMethod yX0_layOutOwn, Cond.selects RX0 yX0_layOutOwn yX0_layOutOwn, Cond.code yX0_layOutOwn cX0_layOutOwn 2 none, Cond.methodLink RX0 139 yX0_oneIfAbove0, Cond.static yX0_oneIfAbove0, Cond.code yX0_oneIfAbove0 cX0_oneIfAbove0 1 (some .int)]
def wsL_ring : List Cond := .codeWith yL_ring cL_ring 6 (some .int) [(0, 12, 15, 19), (0, 12, 19, 21)] :: ((wsL_ring_r1 ++ (wsL_ring_r2 ++ (wsL_ring_r3 ++ wsL_ring_r4))) ++ wsX00 ++ (vx_atS RX0 211 "java/lang/IndexOutOfBoundsException" ["java/lang/RuntimeException", "java/lang/Exception"]).filter goodWord ++ (vx_atS RX0 74 "java/lang/IllegalArgumentException" ["java/lang/RuntimeException", "java/lang/Exception"]).filter goodWord)
def wsL_fair_r1 : List Cond := [Cond.classLink RL 21 "java/lang/IllegalArgumentException", Cond.methodLink RL 49 yX0_fair, Cond.instanceMethod yX0_fair, Cond.selects RX0 yX0_fair yX0_fair, Cond.initialized RX0, Cond.code yX0_fair cX0_fair 4 (some .int), Cond.classLink RX0 70 "java/lang/IllegalArgumentException", Cond.initialized "java/lang/IllegalArgumentException", Cond.methodLink RX0 144 yX0_bestSwapOfFirstPair, Cond.instanceMethod yX0_bestSwapOfFirstPair, Cond.selects RX0 yX0_bestSwapOfFirstPair yX0_bestSwapOfFirstPair, Cond.code yX0_bestSwapOfFirstPair cX0_bestSwapOfFirstPair 4 (some .int), Cond.fieldLink RX0 45 "ThimbleSwap" "collectors" "I", Cond.methodLink RX0 136 yX0_bestSwapOf, Cond.instanceMethod yX0_bestSwapOf, Cond.selects RX0 yX0_bestSwapOf yX0_bestSwapOf, Cond.code yX0_bestSwapOf cX0_bestSwapOf 11 (some .int), Cond.fieldLink RX0 75 "ThimbleSwap" "thimbles" "I", Cond.methodLink RX0 99 yX0_worthNow, Cond.instanceMethod yX0_worthNow, Cond.selects RX0 yX0_worthNow yX0_worthNow, Cond.code yX0_worthNow cX0_worthNow 2 (some .int), Cond.methodLink RX0 164 yX0_layOutOwn, Cond.instanceMethod yX0_layOutOwn]
def wsL_fair_r2 : List Cond := [Cond.selects RX0 yX0_layOutOwn yX0_layOutOwn, Cond.code yX0_layOutOwn cX0_layOutOwn 2 none, Cond.methodLink RX0 226 yX0_layOut, Cond.instanceMethod yX0_layOut, Cond.selects RX0 yX0_layOut yX0_layOut, Cond.code yX0_layOut cX0_layOut 6 none, Cond.fieldLink RX0 42 "ThimbleSwap" "greatestStates" "[I", Cond.fieldLink RX0 230 "ThimbleSwap" "hallmarksLaidOut" "I", Cond.fieldLink RX0 22 "ThimbleSwap" "ownerOf" "[I", Cond.fieldLink RX0 9 "ThimbleSwap" "setOf" "[I", Cond.fieldLink RX0 13 "ThimbleSwap" "numberOf" "[I", Cond.fieldLink RX0 19 "ThimbleSwap" "stateOf" "[I", Cond.methodLink RX0 233 Lib.Math.max.name, Cond.static Lib.Math.max.name, Cond.initialized "java/lang/Math", Cond.code Lib.Math.max.name Lib.Math.max.code 2 (some .int), Cond.fieldLink RX0 16 "ThimbleSwap" "hallmarkOf" "[I", Cond.methodLink RX0 56 yJ7_fill_53178, Cond.static yJ7_fill_53178, Cond.initialized RJ7, Cond.code yJ7_fill_53178 cJ7_fill_53178 4 none, Cond.methodLink RX0 238 yX0_worthLaidOut, Cond.instanceMethod yX0_worthLaidOut, Cond.selects RX0 yX0_worthLaidOut yX0_worthLaidOut]
def wsL_fair_r3 : List Cond := [Cond.code yX0_worthLaidOut cX0_worthLaidOut 5 (some .int), Cond.fieldLink RX0 33 "ThimbleSwap" "likings" "[[I", Cond.methodLink RX0 156 yJ6_bitCount_0f7a4, Cond.static yJ6_bitCount_0f7a4, Cond.initialized RJ6, Cond.code yJ6_bitCount_0f7a4 cJ6_bitCount_0f7a4 1 (some .int), Cond.constant RJ6 265 (1431655765), Cond.constant RJ6 266 (858993459), Cond.constant RJ6 267 (252645135), Cond.methodLink RX0 167 yX0_numbersLaidOut, Cond.instanceMethod yX0_numbersLaidOut, Cond.selects RX0 yX0_numbersLaidOut yX0_numbersLaidOut, Cond.code yX0_numbersLaidOut cX0_numbersLaidOut 4 (some .int), Cond.methodLink RX0 170 yX0_statesLaidOut, Cond.instanceMethod yX0_statesLaidOut, Cond.selects RX0 yX0_statesLaidOut yX0_statesLaidOut, Cond.code yX0_statesLaidOut cX0_statesLaidOut 4 (some .int), Cond.methodLink RX0 245 yX0_isAtHomeWith, Cond.instanceMethod yX0_isAtHomeWith, Cond.selects RX0 yX0_isAtHomeWith yX0_isAtHomeWith, Cond.code yX0_isAtHomeWith cX0_isAtHomeWith 3 (some .boolean), Cond.methodLink RX0 220 yX0_isLent, Cond.instanceMethod yX0_isLent, Cond.selects RX0 yX0_isLent yX0_isLent]
def wsL_fair_r4 : List Cond := [Cond.code yX0_isLent cX0_isLent 2 (some .boolean), Cond.fieldLink RX0 25 "ThimbleSwap" "lentTill" "[I", Cond.methodLink RX0 241 yX0_worthAfter, Cond.instanceMethod yX0_worthAfter, Cond.selects RX0 yX0_worthAfter yX0_worthAfter, Cond.code yX0_worthAfter cX0_worthAfter 4 (some .int), Cond.methodLink RX0 121 yX0_isEnough, Cond.instanceMethod yX0_isEnough, Cond.selects RX0 yX0_isEnough yX0_isEnough, Cond.code yX0_isEnough cX0_isEnough 4 (some .boolean), Cond.fieldLink RX0 36 "ThimbleSwap" "grudges" "[[I", Cond.methodLink RX0 125 yX0_changeHands, Cond.instanceMethod yX0_changeHands, Cond.selects RX0 yX0_changeHands yX0_changeHands, Cond.code yX0_changeHands cX0_changeHands 5 none, Cond.fieldLink RX0 39 "ThimbleSwap" "swapsOf" "[I", Cond.fieldLink RX0 181 "ThimbleSwap" "swapsAgreed" "I", Cond.methodLink RX0 248 yX0_soften, Cond.instanceMethod yX0_soften, Cond.selects RX0 yX0_soften yX0_soften, Cond.code yX0_soften cX0_soften 3 none]
def wsL_fair : List Cond := .codeWith yL_fair cL_fair 4 (some .int) [(0, 9, 12, 21)] :: ((wsL_fair_r1 ++ (wsL_fair_r2 ++ (wsL_fair_r3 ++ wsL_fair_r4))) ++ wsX00 ++ (vx_atS RX0 74 "java/lang/IllegalArgumentException" ["java/lang/RuntimeException", "java/lang/Exception"]).filter goodWord)
def wsL_lend_r1 : List Cond := [Cond.classLink RL 19 "java/lang/IndexOutOfBoundsException", Cond.classLink RL 21 "java/lang/IllegalArgumentException", Cond.classLink RL 13 "java/lang/IllegalStateException", Cond.methodLink RL 53 yX0_lend, Cond.instanceMethod yX0_lend, Cond.selects RX0 yX0_lend yX0_lend, Cond.initialized RX0, Cond.code yX0_lend cX0_lend 3 (some .int), Cond.classLink RX0 70 "java/lang/IllegalArgumentException", Cond.initialized "java/lang/IllegalArgumentException", Cond.fieldLink RX0 25 "ThimbleSwap" "lentTill" "[I", Cond.fieldLink RX0 150 "ThimbleSwap" "week" "I", Cond.fieldLink RX0 28 "ThimbleSwap" "lentFor" "[I", Cond.methodLink RX0 108 yX0_requireThimble, Cond.instanceMethod yX0_requireThimble, Cond.selects RX0 yX0_requireThimble yX0_requireThimble, Cond.code yX0_requireThimble cX0_requireThimble 2 none, Cond.classLink RX0 207 "java/lang/IndexOutOfBoundsException", Cond.initialized "java/lang/IndexOutOfBoundsException", Cond.fieldLink RX0 75 "ThimbleSwap" "thimbles" "I", Cond.methodLink RX0 66 yX0_isBelow, Cond.static yX0_isBelow, Cond.code yX0_isBelow cX0_isBelow 2 (some .boolean), Cond.methodLink RX0 118 yX0_requireAtHome]
def wsL_lend_r2 : List Cond := [Cond.instanceMethod yX0_requireAtHome, Cond.selects RX0 yX0_requireAtHome yX0_requireAtHome, Cond.code yX0_requireAtHome cX0_requireAtHome 2 none, Cond.classLink RX0 49 "java/lang/IllegalStateException", Cond.initialized "java/lang/IllegalStateException", Cond.methodLink RX0 220 yX0_isLent, Cond.instanceMethod yX0_isLent, Cond.selects RX0 yX0_isLent yX0_isLent, Cond.code yX0_isLent cX0_isLent 2 (some .boolean)]
def wsL_lend : List Cond := .codeWith yL_lend cL_lend 5 (some .int) [(0, 10, 13, 19), (0, 10, 17, 21), (0, 10, 21, 13)] :: ((wsL_lend_r1 ++ wsL_lend_r2) ++ wsX00 ++ (vx_atS RX0 74 "java/lang/IllegalArgumentException" ["java/lang/RuntimeException", "java/lang/Exception"]).filter goodWord ++ (vx_atS RX0 211 "java/lang/IndexOutOfBoundsException" ["java/lang/RuntimeException", "java/lang/Exception"]).filter goodWord ++ (vx_atS RX0 53 "java/lang/IllegalStateException" ["java/lang/RuntimeException", "java/lang/Exception"]).filter goodWord)
def wsL_shows_r1 : List Cond := [Cond.classLink RL 19 "java/lang/IndexOutOfBoundsException", Cond.methodLink RL 56 yX0_shows, Cond.instanceMethod yX0_shows, Cond.selects RX0 yX0_shows yX0_shows, Cond.initialized RX0, Cond.code yX0_shows cX0_shows 2 (some .int), Cond.methodLink RX0 80 yX0_requireSet, Cond.static yX0_requireSet, Cond.code yX0_requireSet cX0_requireSet 1 none, Cond.classLink RX0 207 "java/lang/IndexOutOfBoundsException", Cond.initialized "java/lang/IndexOutOfBoundsException", Cond.methodLink RX0 66 yX0_isBelow, Cond.static yX0_isBelow, Cond.code yX0_isBelow cX0_isBelow 2 (some .boolean), Cond.methodLink RX0 153 yX0_numbersShown, Cond.instanceMethod yX0_numbersShown, Cond.selects RX0 yX0_numbersShown yX0_numbersShown, Cond.code yX0_numbersShown cX0_numbersShown 4 (some .int), Cond.fieldLink RX0 75 "ThimbleSwap" "thimbles" "I", Cond.fieldLink RX0 9 "ThimbleSwap" "setOf" "[I", Cond.fieldLink RX0 13 "ThimbleSwap" "numberOf" "[I", Cond.methodLink RX0 220 yX0_isLent, Cond.instanceMethod yX0_isLent, Cond.selects RX0 yX0_isLent yX0_isLent]
def wsL_shows_r2 : List Cond := [Cond.code yX0_isLent cX0_isLent 2 (some .boolean), Cond.fieldLink RX0 25 "ThimbleSwap" "lentTill" "[I", Cond.methodLink RX0 156 yJ6_bitCount_0f7a4, Cond.static yJ6_bitCount_0f7a4, Cond.initialized RJ6, Cond.code yJ6_bitCount_0f7a4 cJ6_bitCount_0f7a4 1 (some .int), Cond.constant RJ6 265 (1431655765), Cond.constant RJ6 266 (858993459), Cond.constant RJ6 267 (252645135)]
def wsL_shows : List Cond := .codeWith yL_shows cL_shows 4 (some .int) [(0, 9, 12, 19)] :: ((wsL_shows_r1 ++ wsL_shows_r2) ++ wsX00 ++ (vx_atS RX0 211 "java/lang/IndexOutOfBoundsException" ["java/lang/RuntimeException", "java/lang/Exception"]).filter goodWord)
def wsL_lacks_r1 : List Cond := [Cond.classLink RL 19 "java/lang/IndexOutOfBoundsException", Cond.methodLink RL 59 yX0_lacks, Cond.instanceMethod yX0_lacks, Cond.selects RX0 yX0_lacks yX0_lacks, Cond.initialized RX0, Cond.code yX0_lacks cX0_lacks 2 (some .int), Cond.methodLink RX0 80 yX0_requireSet, Cond.static yX0_requireSet, Cond.code yX0_requireSet cX0_requireSet 1 none, Cond.classLink RX0 207 "java/lang/IndexOutOfBoundsException", Cond.initialized "java/lang/IndexOutOfBoundsException", Cond.methodLink RX0 66 yX0_isBelow, Cond.static yX0_isBelow, Cond.code yX0_isBelow cX0_isBelow 2 (some .boolean), Cond.methodLink RX0 161 yX0_numbersFound, Cond.instanceMethod yX0_numbersFound, Cond.selects RX0 yX0_numbersFound yX0_numbersFound, Cond.code yX0_numbersFound cX0_numbersFound 4 (some .int), Cond.fieldLink RX0 75 "ThimbleSwap" "thimbles" "I", Cond.fieldLink RX0 9 "ThimbleSwap" "setOf" "[I", Cond.fieldLink RX0 13 "ThimbleSwap" "numberOf" "[I", Cond.methodLink RX0 156 yJ6_bitCount_0f7a4, Cond.static yJ6_bitCount_0f7a4, Cond.initialized RJ6]
def wsL_lacks_r2 : List Cond := [Cond.code yJ6_bitCount_0f7a4 cJ6_bitCount_0f7a4 1 (some .int), Cond.constant RJ6 265 (1431655765), Cond.constant RJ6 266 (858993459), Cond.constant RJ6 267 (252645135), Cond.methodLink RX0 153 yX0_numbersShown, Cond.instanceMethod yX0_numbersShown, Cond.selects RX0 yX0_numbersShown yX0_numbersShown, Cond.code yX0_numbersShown cX0_numbersShown 4 (some .int), Cond.methodLink RX0 220 yX0_isLent, Cond.instanceMethod yX0_isLent, Cond.selects RX0 yX0_isLent yX0_isLent, Cond.code yX0_isLent cX0_isLent 2 (some .boolean), Cond.fieldLink RX0 25 "ThimbleSwap" "lentTill" "[I"]
def wsL_lacks : List Cond := .codeWith yL_lacks cL_lacks 4 (some .int) [(0, 9, 12, 19)] :: ((wsL_lacks_r1 ++ wsL_lacks_r2) ++ wsX00 ++ (vx_atS RX0 211 "java/lang/IndexOutOfBoundsException" ["java/lang/RuntimeException", "java/lang/Exception"]).filter goodWord)
def wsL_finest_r1 : List Cond := [Cond.classLink RL 19 "java/lang/IndexOutOfBoundsException", Cond.methodLink RL 62 yX0_finest, Cond.instanceMethod yX0_finest, Cond.selects RX0 yX0_finest yX0_finest, Cond.initialized RX0, Cond.code yX0_finest cX0_finest 8 (some .int), Cond.fieldLink RX0 45 "ThimbleSwap" "collectors" "I", Cond.methodLink RX0 80 yX0_requireSet, Cond.static yX0_requireSet, Cond.code yX0_requireSet cX0_requireSet 1 none, Cond.classLink RX0 207 "java/lang/IndexOutOfBoundsException", Cond.initialized "java/lang/IndexOutOfBoundsException", Cond.methodLink RX0 66 yX0_isBelow, Cond.static yX0_isBelow, Cond.code yX0_isBelow cX0_isBelow 2 (some .boolean), Cond.methodLink RX0 164 yX0_layOutOwn, Cond.instanceMethod yX0_layOutOwn, Cond.selects RX0 yX0_layOutOwn yX0_layOutOwn, Cond.code yX0_layOutOwn cX0_layOutOwn 2 none, Cond.methodLink RX0 226 yX0_layOut, Cond.instanceMethod yX0_layOut, Cond.selects RX0 yX0_layOut yX0_layOut, Cond.code yX0_layOut cX0_layOut 6 none, Cond.fieldLink RX0 42 "ThimbleSwap" "greatestStates" "[I"]
def wsL_finest_r2 : List Cond := [Cond.fieldLink RX0 230 "ThimbleSwap" "hallmarksLaidOut" "I", Cond.fieldLink RX0 75 "ThimbleSwap" "thimbles" "I", Cond.fieldLink RX0 22 "ThimbleSwap" "ownerOf" "[I", Cond.fieldLink RX0 9 "ThimbleSwap" "setOf" "[I", Cond.fieldLink RX0 13 "ThimbleSwap" "numberOf" "[I", Cond.fieldLink RX0 19 "ThimbleSwap" "stateOf" "[I", Cond.methodLink RX0 233 Lib.Math.max.name, Cond.static Lib.Math.max.name, Cond.initialized "java/lang/Math", Cond.code Lib.Math.max.name Lib.Math.max.code 2 (some .int), Cond.fieldLink RX0 16 "ThimbleSwap" "hallmarkOf" "[I", Cond.methodLink RX0 56 yJ7_fill_53178, Cond.static yJ7_fill_53178, Cond.initialized RJ7, Cond.code yJ7_fill_53178 cJ7_fill_53178 4 none, Cond.methodLink RX0 167 yX0_numbersLaidOut, Cond.instanceMethod yX0_numbersLaidOut, Cond.selects RX0 yX0_numbersLaidOut yX0_numbersLaidOut, Cond.code yX0_numbersLaidOut cX0_numbersLaidOut 4 (some .int), Cond.methodLink RX0 170 yX0_statesLaidOut, Cond.instanceMethod yX0_statesLaidOut, Cond.selects RX0 yX0_statesLaidOut yX0_statesLaidOut, Cond.code yX0_statesLaidOut cX0_statesLaidOut 4 (some .int)]
def wsL_finest : List Cond := .codeWith yL_finest cL_finest 4 (some .int) [(0, 9, 12, 19)] :: ((wsL_finest_r1 ++ wsL_finest_r2) ++ wsX00 ++ (vx_atS RX0 211 "java/lang/IndexOutOfBoundsException" ["java/lang/RuntimeException", "java/lang/Exception"]).filter goodWord)
def wsL_pass_r1 : List Cond := [Cond.classLink RL 21 "java/lang/IllegalArgumentException", Cond.methodLink RL 65 yX0_pass, Cond.instanceMethod yX0_pass, Cond.selects RX0 yX0_pass yX0_pass, Cond.initialized RX0, Cond.code yX0_pass cX0_pass 4 (some .int), Cond.classLink RX0 70 "java/lang/IllegalArgumentException", Cond.initialized "java/lang/IllegalArgumentException", Cond.methodLink RX0 175 yX0_endWeek, Cond.instanceMethod yX0_endWeek, Cond.selects RX0 yX0_endWeek yX0_endWeek, Cond.code yX0_endWeek cX0_endWeek 3 (some .int), Cond.fieldLink RX0 75 "ThimbleSwap" "thimbles" "I", Cond.fieldLink RX0 25 "ThimbleSwap" "lentTill" "[I", Cond.fieldLink RX0 150 "ThimbleSwap" "week" "I", Cond.methodLink RX0 220 yX0_isLent, Cond.instanceMethod yX0_isLent, Cond.selects RX0 yX0_isLent yX0_isLent, Cond.code yX0_isLent cX0_isLent 2 (some .boolean), Cond.methodLink RX0 254 yX0_bringHome, Cond.instanceMethod yX0_bringHome, Cond.selects RX0 yX0_bringHome yX0_bringHome, Cond.code yX0_bringHome cX0_bringHome 2 none, Cond.fieldLink RX0 28 "ThimbleSwap" "lentFor" "[I"]
def wsL_pass_r2 : List Cond := [Cond.fieldLink RX0 19 "ThimbleSwap" "stateOf" "[I", Cond.methodLink RX0 233 Lib.Math.max.name, Cond.static Lib.Math.max.name, Cond.initialized "java/lang/Math", Cond.code Lib.Math.max.name Lib.Math.max.code 2 (some .int), Cond.methodLink RX0 257 yX0_softenAll, Cond.instanceMethod yX0_softenAll, Cond.selects RX0 yX0_softenAll yX0_softenAll, Cond.code yX0_softenAll cX0_softenAll 3 none, Cond.fieldLink RX0 45 "ThimbleSwap" "collectors" "I", Cond.methodLink RX0 248 yX0_soften, Cond.instanceMethod yX0_soften, Cond.selects RX0 yX0_soften yX0_soften, Cond.code yX0_soften cX0_soften 3 none, Cond.fieldLink RX0 36 "ThimbleSwap" "grudges" "[[I"]
def wsL_pass : List Cond := .codeWith yL_pass cL_pass 4 (some .int) [(0, 9, 12, 21)] :: ((wsL_pass_r1 ++ wsL_pass_r2) ++ wsX00 ++ (vx_atS RX0 74 "java/lang/IllegalArgumentException" ["java/lang/RuntimeException", "java/lang/Exception"]).filter goodWord)
def wsL_count_r1 : List Cond := [Cond.classLink RL 19 "java/lang/IndexOutOfBoundsException", Cond.methodLink RL 68 yX0_count, Cond.instanceMethod yX0_count, Cond.selects RX0 yX0_count yX0_count, Cond.initialized RX0, Cond.code yX0_count cX0_count 2 (some .int), Cond.fieldLink RX0 150 "ThimbleSwap" "week" "I", Cond.fieldLink RX0 45 "ThimbleSwap" "collectors" "I", Cond.fieldLink RX0 75 "ThimbleSwap" "thimbles" "I", Cond.fieldLink RX0 181 "ThimbleSwap" "swapsAgreed" "I", Cond.fieldLink RX0 128 "ThimbleSwap" "swapsRefused" "I", Cond.methodLink RX0 85 yX0_requireRow, Cond.static yX0_requireRow, Cond.code yX0_requireRow cX0_requireRow 2 none, Cond.classLink RX0 207 "java/lang/IndexOutOfBoundsException", Cond.initialized "java/lang/IndexOutOfBoundsException", Cond.methodLink RX0 66 yX0_isBelow, Cond.static yX0_isBelow, Cond.code yX0_isBelow cX0_isBelow 2 (some .boolean), Cond.methodLink RX0 178 yX0_thimblesLent, Cond.instanceMethod yX0_thimblesLent, Cond.selects RX0 yX0_thimblesLent yX0_thimblesLent, Cond.code yX0_thimblesLent cX0_thimblesLent 3 (some .int), Cond.methodLink RX0 220 yX0_isLent]
def wsL_count_r2 : List Cond := [Cond.instanceMethod yX0_isLent, Cond.selects RX0 yX0_isLent yX0_isLent, Cond.code yX0_isLent cX0_isLent 2 (some .boolean), Cond.fieldLink RX0 25 "ThimbleSwap" "lentTill" "[I", Cond.methodLink RX0 184 yX0_worthOfAll, Cond.instanceMethod yX0_worthOfAll, Cond.selects RX0 yX0_worthOfAll yX0_worthOfAll, Cond.code yX0_worthOfAll cX0_worthOfAll 3 (some .int), Cond.methodLink RX0 99 yX0_worthNow, Cond.instanceMethod yX0_worthNow, Cond.selects RX0 yX0_worthNow yX0_worthNow, Cond.code yX0_worthNow cX0_worthNow 2 (some .int), Cond.methodLink RX0 164 yX0_layOutOwn, Cond.instanceMethod yX0_layOutOwn, Cond.selects RX0 yX0_layOutOwn yX0_layOutOwn, Cond.code yX0_layOutOwn cX0_layOutOwn 2 none, Cond.methodLink RX0 226 yX0_layOut, Cond.instanceMethod yX0_layOut, Cond.selects RX0 yX0_layOut yX0_layOut, Cond.code yX0_layOut cX0_layOut 6 none, Cond.fieldLink RX0 42 "ThimbleSwap" "greatestStates" "[I", Cond.fieldLink RX0 230 "ThimbleSwap" "hallmarksLaidOut" "I", Cond.fieldLink RX0 22 "ThimbleSwap" "ownerOf" "[I", Cond.fieldLink RX0 9 "ThimbleSwap" "setOf" "[I"]
def wsL_count_r3 : List Cond := [Cond.fieldLink RX0 13 "ThimbleSwap" "numberOf" "[I", Cond.fieldLink RX0 19 "ThimbleSwap" "stateOf" "[I", Cond.methodLink RX0 233 Lib.Math.max.name, Cond.static Lib.Math.max.name, Cond.initialized "java/lang/Math", Cond.code Lib.Math.max.name Lib.Math.max.code 2 (some .int), Cond.fieldLink RX0 16 "ThimbleSwap" "hallmarkOf" "[I", Cond.methodLink RX0 56 yJ7_fill_53178, Cond.static yJ7_fill_53178, Cond.initialized RJ7, Cond.code yJ7_fill_53178 cJ7_fill_53178 4 none, Cond.methodLink RX0 238 yX0_worthLaidOut, Cond.instanceMethod yX0_worthLaidOut, Cond.selects RX0 yX0_worthLaidOut yX0_worthLaidOut, Cond.code yX0_worthLaidOut cX0_worthLaidOut 5 (some .int), Cond.fieldLink RX0 33 "ThimbleSwap" "likings" "[[I", Cond.methodLink RX0 156 yJ6_bitCount_0f7a4, Cond.static yJ6_bitCount_0f7a4, Cond.initialized RJ6, Cond.code yJ6_bitCount_0f7a4 cJ6_bitCount_0f7a4 1 (some .int), Cond.constant RJ6 265 (1431655765), Cond.constant RJ6 266 (858993459), Cond.constant RJ6 267 (252645135), Cond.methodLink RX0 167 yX0_numbersLaidOut]
def wsL_count_r4 : List Cond := [Cond.instanceMethod yX0_numbersLaidOut, Cond.selects RX0 yX0_numbersLaidOut yX0_numbersLaidOut, Cond.code yX0_numbersLaidOut cX0_numbersLaidOut 4 (some .int), Cond.methodLink RX0 170 yX0_statesLaidOut, Cond.instanceMethod yX0_statesLaidOut, Cond.selects RX0 yX0_statesLaidOut yX0_statesLaidOut, Cond.code yX0_statesLaidOut cX0_statesLaidOut 4 (some .int)]
def wsL_count : List Cond := .codeWith yL_count cL_count 4 (some .int) [(0, 9, 12, 19)] :: ((wsL_count_r1 ++ (wsL_count_r2 ++ (wsL_count_r3 ++ wsL_count_r4))) ++ wsX00 ++ (vx_atS RX0 211 "java/lang/IndexOutOfBoundsException" ["java/lang/RuntimeException", "java/lang/Exception"]).filter goodWord)
def wsL_law0_r1 : List Cond := [Cond.classLink RL 8 RX0, Cond.instantiable RX0 17, Cond.initialized RX0, Cond.classLink RL 72 RX1, Cond.instantiable RX1 9, Cond.initialized RX1, Cond.arrayClass .long, Cond.methodLink RL 71 yX0_init, Cond.instanceMethod yX0_init, Cond.code yX0_init cX0_init 1 none, Cond.methodLink RX0 1 objectInit, Cond.instanceMethod objectInit, Cond.code objectInit ⟨#[0xb1]⟩ 1 none, Cond.arrayClass .int, Cond.fieldLink RX0 9 "ThimbleSwap" "setOf" "[I", Cond.fieldLink RX0 13 "ThimbleSwap" "numberOf" "[I", Cond.fieldLink RX0 16 "ThimbleSwap" "hallmarkOf" "[I", Cond.fieldLink RX0 19 "ThimbleSwap" "stateOf" "[I", Cond.fieldLink RX0 22 "ThimbleSwap" "ownerOf" "[I", Cond.fieldLink RX0 25 "ThimbleSwap" "lentTill" "[I", Cond.fieldLink RX0 28 "ThimbleSwap" "lentFor" "[I", Cond.classLink RX0 31 "[[I", Cond.fieldLink RX0 33 "ThimbleSwap" "likings" "[[I", Cond.fieldLink RX0 36 "ThimbleSwap" "grudges" "[[I"]
def wsL_law0_r2 : List Cond := [Cond.fieldLink RX0 39 "ThimbleSwap" "swapsOf" "[I", Cond.fieldLink RX0 42 "ThimbleSwap" "greatestStates" "[I", Cond.methodLink RL 74 yX1_init, Cond.instanceMethod yX1_init, Cond.code yX1_init cX1_init 1 none, Cond.methodLink RX1 1 objectInit, Cond.fieldLink RX1 9 "ThimbleSwapModel" "table" "[I", Cond.fieldLink RX1 13 "ThimbleSwapModel" "likes" "[I", Cond.fieldLink RX1 16 "ThimbleSwapModel" "grudges" "[I", Cond.fieldLink RX1 19 "ThimbleSwapModel" "swaps" "[I", Cond.fieldLink RX1 22 "ThimbleSwapModel" "numbers" "[I", Cond.fieldLink RX1 25 "ThimbleSwapModel" "greatest" "[I", Cond.methodLink RL 75 yL_join, Cond.static yL_join, Cond.initialized RL, Cond.codeWith yL_join cL_join 3 (some .int) [(0, 8, 11, 13)], Cond.classLink RL 13 "java/lang/IllegalStateException", Cond.methodLink RL 7 yX0_join, Cond.instanceMethod yX0_join, Cond.selects RX0 yX0_join yX0_join, Cond.code yX0_join cX0_join 2 (some .int), Cond.classLink RX0 49 "java/lang/IllegalStateException", Cond.initialized "java/lang/IllegalStateException", Cond.fieldLink RX0 45 "ThimbleSwap" "collectors" "I"]
def wsL_law0_r3 : List Cond := [Cond.methodLink RX0 56 yJ7_fill_53178, Cond.static yJ7_fill_53178, Cond.initialized RJ7, Cond.code yJ7_fill_53178 cJ7_fill_53178 4 none, Cond.methodLink RL 80 yX1_join, Cond.instanceMethod yX1_join, Cond.selects RX1 yX1_join yX1_join, Cond.code yX1_join cX1_join 2 (some .int), Cond.fieldLink RX1 28 "ThimbleSwapModel" "thrown" "I", Cond.fieldLink RX1 32 "ThimbleSwapModel" "collectors" "I", Cond.methodLink RX1 46 yX1_fail, Cond.instanceMethod yX1_fail, Cond.selects RX1 yX1_fail yX1_fail, Cond.code yX1_fail cX1_fail 2 (some .int), Cond.methodLink RL 81 yX1_thrown, Cond.instanceMethod yX1_thrown, Cond.selects RX1 yX1_thrown yX1_thrown, Cond.code yX1_thrown cX1_thrown 1 (some .int), Cond.methodLink RL 84 yL_find, Cond.static yL_find, Cond.codeWith yL_find cL_find 8 (some .int) [(0, 16, 19, 19), (0, 16, 23, 21), (0, 16, 27, 13)], Cond.classLink RL 19 "java/lang/IndexOutOfBoundsException", Cond.classLink RL 21 "java/lang/IllegalArgumentException", Cond.methodLink RL 15 yX0_find]
def wsL_law0_r4 : List Cond := [Cond.instanceMethod yX0_find, Cond.selects RX0 yX0_find yX0_find, Cond.code yX0_find cX0_find 7 (some .int), Cond.classLink RX0 70 "java/lang/IllegalArgumentException", Cond.initialized "java/lang/IllegalArgumentException", Cond.fieldLink RX0 75 "ThimbleSwap" "thimbles" "I", Cond.methodLink RX0 62 yX0_requireCollector, Cond.instanceMethod yX0_requireCollector, Cond.selects RX0 yX0_requireCollector yX0_requireCollector, Cond.code yX0_requireCollector cX0_requireCollector 2 none, Cond.classLink RX0 207 "java/lang/IndexOutOfBoundsException", Cond.initialized "java/lang/IndexOutOfBoundsException", Cond.methodLink RX0 66 yX0_isBelow, Cond.static yX0_isBelow, Cond.code yX0_isBelow cX0_isBelow 2 (some .boolean), Cond.methodLink RL 87 yX1_find, Cond.instanceMethod yX1_find, Cond.selects RX1 yX1_find yX1_find, Cond.code yX1_find cX1_find 7 (some .int), Cond.fieldLink RX1 39 "ThimbleSwapModel" "thimbles" "I", Cond.methodLink RX1 57 arraycopyName, Cond.native arraycopyName, Cond.static arraycopyName, Cond.initialized "java/lang/System"]
def wsL_law0_r5 : List Cond := [Cond.methodLink RX1 50 yX1_isCollector, Cond.instanceMethod yX1_isCollector, Cond.selects RX1 yX1_isCollector yX1_isCollector, Cond.code yX1_isCollector cX1_isCollector 2 (some .boolean), Cond.methodLink RX1 35 yX1_isIn, Cond.static yX1_isIn, Cond.code yX1_isIn cX1_isIn 3 (some .boolean), Cond.methodLink RX1 54 yX1_isSet, Cond.static yX1_isSet, Cond.code yX1_isSet cX1_isSet 1 (some .boolean), Cond.methodLink RL 88 yL_like, Cond.static yL_like, Cond.codeWith yL_like cL_like 6 (some .int) [(0, 12, 15, 19), (0, 12, 19, 21)], Cond.methodLink RL 23 yX0_like, Cond.instanceMethod yX0_like, Cond.selects RX0 yX0_like yX0_like, Cond.code yX0_like cX0_like 5 (some .int), Cond.methodLink RX0 80 yX0_requireSet, Cond.static yX0_requireSet, Cond.code yX0_requireSet cX0_requireSet 1 none, Cond.methodLink RL 91 yX1_like, Cond.instanceMethod yX1_like, Cond.selects RX1 yX1_like yX1_like, Cond.code yX1_like cX1_like 5 (some .int)]
def wsL_law0_r6 : List Cond := [Cond.methodLink RL 92 yL_collector, Cond.static yL_collector, Cond.codeWith yL_collector cL_collector 5 (some .int) [(0, 10, 13, 19)], Cond.methodLink RL 27 yX0_collector, Cond.instanceMethod yX0_collector, Cond.selects RX0 yX0_collector yX0_collector, Cond.code yX0_collector cX0_collector 3 (some .int), Cond.methodLink RX0 85 yX0_requireRow, Cond.static yX0_requireRow, Cond.code yX0_requireRow cX0_requireRow 2 none, Cond.methodLink RX0 89 yX0_thimblesOf, Cond.instanceMethod yX0_thimblesOf, Cond.selects RX0 yX0_thimblesOf yX0_thimblesOf, Cond.code yX0_thimblesOf cX0_thimblesOf 4 (some .int), Cond.methodLink RX0 93 yX0_thimblesLentBy, Cond.instanceMethod yX0_thimblesLentBy, Cond.selects RX0 yX0_thimblesLentBy yX0_thimblesLentBy, Cond.code yX0_thimblesLentBy cX0_thimblesLentBy 4 (some .int), Cond.methodLink RX0 220 yX0_isLent, Cond.instanceMethod yX0_isLent, Cond.selects RX0 yX0_isLent yX0_isLent, Cond.code yX0_isLent cX0_isLent 2 (some .boolean), Cond.methodLink RX0 96 yX0_differentHallmarks, Cond.instanceMethod yX0_differentHallmarks]
def wsL_law0_r7 : List Cond := [Cond.selects RX0 yX0_differentHallmarks yX0_differentHallmarks, Cond.code yX0_differentHallmarks cX0_differentHallmarks 2 (some .int), Cond.fieldLink RX0 230 "ThimbleSwap" "hallmarksLaidOut" "I", Cond.methodLink RX0 164 yX0_layOutOwn, Cond.instanceMethod yX0_layOutOwn, Cond.selects RX0 yX0_layOutOwn yX0_layOutOwn, Cond.code yX0_layOutOwn cX0_layOutOwn 2 none, Cond.methodLink RX0 226 yX0_layOut, Cond.instanceMethod yX0_layOut, Cond.selects RX0 yX0_layOut yX0_layOut, Cond.code yX0_layOut cX0_layOut 6 none, Cond.methodLink RX0 233 Lib.Math.max.name, Cond.static Lib.Math.max.name, Cond.initialized "java/lang/Math", Cond.code Lib.Math.max.name Lib.Math.max.code 2 (some .int), Cond.methodLink RX0 156 yJ6_bitCount_0f7a4, Cond.static yJ6_bitCount_0f7a4, Cond.initialized RJ6, Cond.code yJ6_bitCount_0f7a4 cJ6_bitCount_0f7a4 1 (some .int), Cond.constant RJ6 265 (1431655765), Cond.constant RJ6 266 (858993459), Cond.constant RJ6 267 (252645135), Cond.methodLink RX0 99 yX0_worthNow, Cond.instanceMethod yX0_worthNow]
def wsL_law0_r8 : List Cond := [Cond.selects RX0 yX0_worthNow yX0_worthNow, Cond.code yX0_worthNow cX0_worthNow 2 (some .int), Cond.methodLink RX0 238 yX0_worthLaidOut, Cond.instanceMethod yX0_worthLaidOut, Cond.selects RX0 yX0_worthLaidOut yX0_worthLaidOut, Cond.code yX0_worthLaidOut cX0_worthLaidOut 5 (some .int), Cond.methodLink RX0 167 yX0_numbersLaidOut, Cond.instanceMethod yX0_numbersLaidOut, Cond.selects RX0 yX0_numbersLaidOut yX0_numbersLaidOut, Cond.code yX0_numbersLaidOut cX0_numbersLaidOut 4 (some .int), Cond.methodLink RX0 170 yX0_statesLaidOut, Cond.instanceMethod yX0_statesLaidOut, Cond.selects RX0 yX0_statesLaidOut yX0_statesLaidOut, Cond.code yX0_statesLaidOut cX0_statesLaidOut 4 (some .int), Cond.methodLink RX0 102 yX0_wholeSets, Cond.instanceMethod yX0_wholeSets, Cond.selects RX0 yX0_wholeSets yX0_wholeSets, Cond.code yX0_wholeSets cX0_wholeSets 4 (some .int), Cond.methodLink RX0 105 yX0_allGrudgesOf, Cond.instanceMethod yX0_allGrudgesOf, Cond.selects RX0 yX0_allGrudgesOf yX0_allGrudgesOf, Cond.code yX0_allGrudgesOf cX0_allGrudgesOf 4 (some .int), Cond.methodLink RL 95 yX1_collector, Cond.instanceMethod yX1_collector]
def wsL_law0_r9 : List Cond := [Cond.selects RX1 yX1_collector yX1_collector, Cond.code yX1_collector cX1_collector 3 (some .int), Cond.methodLink RX1 89 yX1_collectorTold, Cond.instanceMethod yX1_collectorTold, Cond.selects RX1 yX1_collectorTold yX1_collectorTold, Cond.code yX1_collectorTold cX1_collectorTold 5 (some .int), Cond.methodLink RX1 42 yX1_th, Cond.instanceMethod yX1_th, Cond.selects RX1 yX1_th yX1_th, Cond.code yX1_th cX1_th 3 (some .int), Cond.methodLink RX1 83 yX1_isLent, Cond.instanceMethod yX1_isLent, Cond.selects RX1 yX1_isLent yX1_isLent, Cond.code yX1_isLent cX1_isLent 2 (some .boolean), Cond.methodLink RX1 73 yX1_hallmarks, Cond.instanceMethod yX1_hallmarks, Cond.selects RX1 yX1_hallmarks yX1_hallmarks, Cond.code yX1_hallmarks cX1_hallmarks 4 (some .int), Cond.methodLink RX1 68 yJ6_bitCount_0f7a4, Cond.methodLink RX1 86 yX1_worth, Cond.instanceMethod yX1_worth, Cond.selects RX1 yX1_worth yX1_worth, Cond.code yX1_worth cX1_worth 5 (some .int), Cond.methodLink RX1 76 yX1_gather]
def wsL_law0_r10 : List Cond := [Cond.instanceMethod yX1_gather, Cond.selects RX1 yX1_gather yX1_gather, Cond.code yX1_gather cX1_gather 5 (some .int), Cond.methodLink RX1 63 Lib.Math.max.name, Cond.methodLink RX1 79 yX1_states, Cond.instanceMethod yX1_states, Cond.selects RX1 yX1_states yX1_states, Cond.code yX1_states cX1_states 6 (some .int), Cond.methodLink RL 96 yL_grudge, Cond.static yL_grudge, Cond.codeWith yL_grudge cL_grudge 5 (some .int) [(0, 10, 13, 19)], Cond.methodLink RL 31 yX0_grudge, Cond.instanceMethod yX0_grudge, Cond.selects RX0 yX0_grudge yX0_grudge, Cond.code yX0_grudge cX0_grudge 3 (some .int), Cond.methodLink RL 98 yX1_grudge, Cond.instanceMethod yX1_grudge, Cond.selects RX1 yX1_grudge yX1_grudge, Cond.code yX1_grudge cX1_grudge 3 (some .int), Cond.methodLink RL 99 yL_thimble, Cond.static yL_thimble, Cond.codeWith yL_thimble cL_thimble 5 (some .int) [(0, 10, 13, 19)], Cond.methodLink RL 34 yX0_thimble, Cond.instanceMethod yX0_thimble]
def wsL_law0_r11 : List Cond := [Cond.selects RX0 yX0_thimble yX0_thimble, Cond.code yX0_thimble cX0_thimble 3 (some .int), Cond.methodLink RX0 108 yX0_requireThimble, Cond.instanceMethod yX0_requireThimble, Cond.selects RX0 yX0_requireThimble yX0_requireThimble, Cond.code yX0_requireThimble cX0_requireThimble 2 none, Cond.methodLink RL 101 yX1_thimble, Cond.instanceMethod yX1_thimble, Cond.selects RX1 yX1_thimble yX1_thimble, Cond.code yX1_thimble cX1_thimble 3 (some .int), Cond.methodLink RX1 92 yX1_isThimble, Cond.instanceMethod yX1_isThimble, Cond.selects RX1 yX1_isThimble yX1_isThimble, Cond.code yX1_isThimble cX1_isThimble 2 (some .boolean), Cond.methodLink RL 102 yL_gains, Cond.static yL_gains, Cond.codeWith yL_gains cL_gains 5 (some .int) [(0, 10, 13, 19), (0, 10, 17, 21)], Cond.methodLink RL 37 yX0_gains, Cond.instanceMethod yX0_gains, Cond.selects RX0 yX0_gains yX0_gains, Cond.code yX0_gains cX0_gains 3 (some .int), Cond.methodLink RX0 111 yX0_requireTwoOwners, Cond.instanceMethod yX0_requireTwoOwners, Cond.selects RX0 yX0_requireTwoOwners yX0_requireTwoOwners]
def wsL_law0_r12 : List Cond := [Cond.code yX0_requireTwoOwners cX0_requireTwoOwners 3 none, Cond.methodLink RX0 114 yX0_gainOfOwner, Cond.instanceMethod yX0_gainOfOwner, Cond.selects RX0 yX0_gainOfOwner yX0_gainOfOwner, Cond.code yX0_gainOfOwner cX0_gainOfOwner 4 (some .int), Cond.methodLink RX0 241 yX0_worthAfter, Cond.instanceMethod yX0_worthAfter, Cond.selects RX0 yX0_worthAfter yX0_worthAfter, Cond.code yX0_worthAfter cX0_worthAfter 4 (some .int), Cond.methodLink RL 104 yX1_gains, Cond.instanceMethod yX1_gains, Cond.selects RX1 yX1_gains yX1_gains, Cond.code yX1_gains cX1_gains 3 (some .int), Cond.methodLink RX1 103 yX1_gain, Cond.instanceMethod yX1_gain, Cond.selects RX1 yX1_gain yX1_gain, Cond.code yX1_gain cX1_gain 6 (some .int), Cond.methodLink RX1 99 yX1_exchange, Cond.instanceMethod yX1_exchange, Cond.selects RX1 yX1_exchange yX1_exchange, Cond.code yX1_exchange cX1_exchange 4 none, Cond.methodLink RX1 95 yX1_set, Cond.instanceMethod yX1_set, Cond.selects RX1 yX1_set yX1_set]
def wsL_law0_r13 : List Cond := [Cond.code yX1_set cX1_set 4 none, Cond.methodLink RL 105 yL_swap, Cond.static yL_swap, Cond.codeWith yL_swap cL_swap 5 (some .int) [(0, 10, 13, 19), (0, 10, 17, 21), (0, 10, 21, 13)], Cond.methodLink RL 40 yX0_swap, Cond.instanceMethod yX0_swap, Cond.selects RX0 yX0_swap yX0_swap, Cond.code yX0_swap cX0_swap 7 (some .int), Cond.fieldLink RX0 128 "ThimbleSwap" "swapsRefused" "I", Cond.methodLink RX0 118 yX0_requireAtHome, Cond.instanceMethod yX0_requireAtHome, Cond.selects RX0 yX0_requireAtHome yX0_requireAtHome, Cond.code yX0_requireAtHome cX0_requireAtHome 2 none, Cond.methodLink RX0 121 yX0_isEnough, Cond.instanceMethod yX0_isEnough, Cond.selects RX0 yX0_isEnough yX0_isEnough, Cond.code yX0_isEnough cX0_isEnough 4 (some .boolean), Cond.methodLink RX0 125 yX0_changeHands, Cond.instanceMethod yX0_changeHands, Cond.selects RX0 yX0_changeHands yX0_changeHands, Cond.code yX0_changeHands cX0_changeHands 5 none, Cond.fieldLink RX0 181 "ThimbleSwap" "swapsAgreed" "I", Cond.methodLink RX0 248 yX0_soften, Cond.instanceMethod yX0_soften]
def wsL_law0_r14 : List Cond := [Cond.selects RX0 yX0_soften yX0_soften, Cond.code yX0_soften cX0_soften 3 none, Cond.methodLink RX0 131 yX0_resent, Cond.instanceMethod yX0_resent, Cond.selects RX0 yX0_resent yX0_resent, Cond.code yX0_resent cX0_resent 3 none, Cond.methodLink RX0 251 Lib.Math.min.name, Cond.static Lib.Math.min.name, Cond.code Lib.Math.min.name Lib.Math.min.code 2 (some .int), Cond.methodLink RL 107 yX1_swap, Cond.instanceMethod yX1_swap, Cond.selects RX1 yX1_swap yX1_swap, Cond.code yX1_swap cX1_swap 3 (some .int), Cond.methodLink RX1 116 yX1_swapped, Cond.instanceMethod yX1_swapped, Cond.selects RX1 yX1_swapped yX1_swapped, Cond.code yX1_swapped cX1_swapped 7 (some .int), Cond.methodLink RX1 109 yX1_isEnough, Cond.instanceMethod yX1_isEnough, Cond.selects RX1 yX1_isEnough yX1_isEnough, Cond.code yX1_isEnough cX1_isEnough 3 (some .boolean), Cond.methodLink RX1 113 yX1_weigh, Cond.instanceMethod yX1_weigh, Cond.selects RX1 yX1_weigh yX1_weigh]
def wsL_law0_r15 : List Cond := [Cond.code yX1_weigh cX1_weigh 4 none, Cond.methodLink RX1 106 Lib.Math.min.name, Cond.methodLink RL 108 yL_best, Cond.static yL_best, Cond.codeWith yL_best cL_best 5 (some .int) [(0, 10, 13, 19), (0, 10, 17, 21)], Cond.methodLink RL 43 yX0_best, Cond.instanceMethod yX0_best, Cond.selects RX0 yX0_best yX0_best, Cond.code yX0_best cX0_best 3 (some .int), Cond.methodLink RX0 136 yX0_bestSwapOf, Cond.instanceMethod yX0_bestSwapOf, Cond.selects RX0 yX0_bestSwapOf yX0_bestSwapOf, Cond.code yX0_bestSwapOf cX0_bestSwapOf 11 (some .int), Cond.methodLink RX0 245 yX0_isAtHomeWith, Cond.instanceMethod yX0_isAtHomeWith, Cond.selects RX0 yX0_isAtHomeWith yX0_isAtHomeWith, Cond.code yX0_isAtHomeWith cX0_isAtHomeWith 3 (some .boolean), Cond.methodLink RL 110 yX1_best, Cond.instanceMethod yX1_best, Cond.selects RX1 yX1_best yX1_best, Cond.code yX1_best cX1_best 3 (some .int), Cond.methodLink RX1 119 yX1_bestOf, Cond.instanceMethod yX1_bestOf, Cond.selects RX1 yX1_bestOf yX1_bestOf]
def wsL_law0_r16 : List Cond := [Cond.code yX1_bestOf cX1_bestOf 8 (some .int), Cond.methodLink RL 111 yL_ring, Cond.static yL_ring, Cond.codeWith yL_ring cL_ring 6 (some .int) [(0, 12, 15, 19), (0, 12, 19, 21)], Cond.methodLink RL 46 yX0_ring, Cond.instanceMethod yX0_ring, Cond.selects RX0 yX0_ring yX0_ring, Cond.code yX0_ring cX0_ring 4 (some .int), Cond.methodLink RX0 139 yX0_oneIfAbove0, Cond.static yX0_oneIfAbove0, Cond.code yX0_oneIfAbove0 cX0_oneIfAbove0 1 (some .int), Cond.methodLink RL 113 yX1_ring, Cond.instanceMethod yX1_ring, Cond.selects RX1 yX1_ring yX1_ring, Cond.code yX1_ring cX1_ring 7 (some .int), Cond.methodLink RL 114 yL_fair, Cond.static yL_fair, Cond.codeWith yL_fair cL_fair 4 (some .int) [(0, 9, 12, 21)], Cond.methodLink RL 49 yX0_fair, Cond.instanceMethod yX0_fair, Cond.selects RX0 yX0_fair yX0_fair, Cond.code yX0_fair cX0_fair 4 (some .int), Cond.methodLink RX0 144 yX0_bestSwapOfFirstPair, Cond.instanceMethod yX0_bestSwapOfFirstPair]
def wsL_law0_r17 : List Cond := [Cond.selects RX0 yX0_bestSwapOfFirstPair yX0_bestSwapOfFirstPair, Cond.code yX0_bestSwapOfFirstPair cX0_bestSwapOfFirstPair 4 (some .int), Cond.methodLink RL 117 yX1_fair, Cond.instanceMethod yX1_fair, Cond.selects RX1 yX1_fair yX1_fair, Cond.code yX1_fair cX1_fair 3 (some .int), Cond.methodLink RX1 122 yX1_swapsOnce, Cond.instanceMethod yX1_swapsOnce, Cond.selects RX1 yX1_swapsOnce yX1_swapsOnce, Cond.code yX1_swapsOnce cX1_swapsOnce 4 (some .boolean), Cond.methodLink RL 118 yL_lend, Cond.static yL_lend, Cond.codeWith yL_lend cL_lend 5 (some .int) [(0, 10, 13, 19), (0, 10, 17, 21), (0, 10, 21, 13)], Cond.methodLink RL 53 yX0_lend, Cond.instanceMethod yX0_lend, Cond.selects RX0 yX0_lend yX0_lend, Cond.code yX0_lend cX0_lend 3 (some .int), Cond.fieldLink RX0 150 "ThimbleSwap" "week" "I", Cond.methodLink RL 120 yX1_lend, Cond.instanceMethod yX1_lend, Cond.selects RX1 yX1_lend yX1_lend, Cond.code yX1_lend cX1_lend 3 (some .int), Cond.methodLink RL 121 yL_shows, Cond.static yL_shows]
def wsL_law0_r18 : List Cond := [Cond.codeWith yL_shows cL_shows 4 (some .int) [(0, 9, 12, 19)], Cond.methodLink RL 56 yX0_shows, Cond.instanceMethod yX0_shows, Cond.selects RX0 yX0_shows yX0_shows, Cond.code yX0_shows cX0_shows 2 (some .int), Cond.methodLink RX0 153 yX0_numbersShown, Cond.instanceMethod yX0_numbersShown, Cond.selects RX0 yX0_numbersShown yX0_numbersShown, Cond.code yX0_numbersShown cX0_numbersShown 4 (some .int), Cond.methodLink RL 123 yX1_shows, Cond.instanceMethod yX1_shows, Cond.selects RX1 yX1_shows yX1_shows, Cond.code yX1_shows cX1_shows 2 (some .int), Cond.methodLink RX1 126 yX1_bits, Cond.instanceMethod yX1_bits, Cond.selects RX1 yX1_bits yX1_bits, Cond.code yX1_bits cX1_bits 5 (some .int), Cond.methodLink RL 124 yL_lacks, Cond.static yL_lacks, Cond.codeWith yL_lacks cL_lacks 4 (some .int) [(0, 9, 12, 19)], Cond.methodLink RL 59 yX0_lacks, Cond.instanceMethod yX0_lacks, Cond.selects RX0 yX0_lacks yX0_lacks, Cond.code yX0_lacks cX0_lacks 2 (some .int)]
def wsL_law0_r19 : List Cond := [Cond.methodLink RX0 161 yX0_numbersFound, Cond.instanceMethod yX0_numbersFound, Cond.selects RX0 yX0_numbersFound yX0_numbersFound, Cond.code yX0_numbersFound cX0_numbersFound 4 (some .int), Cond.methodLink RL 126 yX1_lacks, Cond.instanceMethod yX1_lacks, Cond.selects RX1 yX1_lacks yX1_lacks, Cond.code yX1_lacks cX1_lacks 2 (some .int), Cond.methodLink RL 127 yL_finest, Cond.static yL_finest, Cond.codeWith yL_finest cL_finest 4 (some .int) [(0, 9, 12, 19)], Cond.methodLink RL 62 yX0_finest, Cond.instanceMethod yX0_finest, Cond.selects RX0 yX0_finest yX0_finest, Cond.code yX0_finest cX0_finest 8 (some .int), Cond.methodLink RL 129 yX1_finest, Cond.instanceMethod yX1_finest, Cond.selects RX1 yX1_finest yX1_finest, Cond.code yX1_finest cX1_finest 7 (some .int), Cond.methodLink RL 130 yL_pass, Cond.static yL_pass, Cond.codeWith yL_pass cL_pass 4 (some .int) [(0, 9, 12, 21)], Cond.methodLink RL 65 yX0_pass, Cond.instanceMethod yX0_pass]
def wsL_law0_r20 : List Cond := [Cond.selects RX0 yX0_pass yX0_pass, Cond.code yX0_pass cX0_pass 4 (some .int), Cond.methodLink RX0 175 yX0_endWeek, Cond.instanceMethod yX0_endWeek, Cond.selects RX0 yX0_endWeek yX0_endWeek, Cond.code yX0_endWeek cX0_endWeek 3 (some .int), Cond.methodLink RX0 254 yX0_bringHome, Cond.instanceMethod yX0_bringHome, Cond.selects RX0 yX0_bringHome yX0_bringHome, Cond.code yX0_bringHome cX0_bringHome 2 none, Cond.methodLink RX0 257 yX0_softenAll, Cond.instanceMethod yX0_softenAll, Cond.selects RX0 yX0_softenAll yX0_softenAll, Cond.code yX0_softenAll cX0_softenAll 3 none, Cond.methodLink RL 132 yX1_pass, Cond.instanceMethod yX1_pass, Cond.selects RX1 yX1_pass yX1_pass, Cond.code yX1_pass cX1_pass 4 (some .int), Cond.methodLink RX1 130 yX1_weekOn, Cond.instanceMethod yX1_weekOn, Cond.selects RX1 yX1_weekOn yX1_weekOn, Cond.code yX1_weekOn cX1_weekOn 3 (some .int), Cond.methodLink RL 133 yL_count, Cond.static yL_count]
def wsL_law0_r21 : List Cond := [Cond.codeWith yL_count cL_count 4 (some .int) [(0, 9, 12, 19)], Cond.methodLink RL 68 yX0_count, Cond.instanceMethod yX0_count, Cond.selects RX0 yX0_count yX0_count, Cond.code yX0_count cX0_count 2 (some .int), Cond.methodLink RX0 178 yX0_thimblesLent, Cond.instanceMethod yX0_thimblesLent, Cond.selects RX0 yX0_thimblesLent yX0_thimblesLent, Cond.code yX0_thimblesLent cX0_thimblesLent 3 (some .int), Cond.methodLink RX0 184 yX0_worthOfAll, Cond.instanceMethod yX0_worthOfAll, Cond.selects RX0 yX0_worthOfAll yX0_worthOfAll, Cond.code yX0_worthOfAll cX0_worthOfAll 3 (some .int), Cond.methodLink RL 135 yX1_count, Cond.instanceMethod yX1_count, Cond.selects RX1 yX1_count yX1_count, Cond.code yX1_count cX1_count 2 (some .int), Cond.methodLink RX1 136 yX1_counted, Cond.instanceMethod yX1_counted, Cond.selects RX1 yX1_counted yX1_counted, Cond.code yX1_counted cX1_counted 4 (some .int), Cond.methodLink RX1 133 yX1_allWorth, Cond.instanceMethod yX1_allWorth, Cond.selects RX1 yX1_allWorth yX1_allWorth]
def wsL_law0_r22 : List Cond := [Cond.code yX1_allWorth cX1_allWorth 3 (some .int), Cond.methodLink RL 136 yX0_mean, Cond.instanceMethod yX0_mean, Cond.selects RX0 yX0_mean yX0_mean, Cond.code yX0_mean cX0_mean 1 (some .double), Cond.methodLink RL 140 yX1_mean, Cond.instanceMethod yX1_mean, Cond.selects RX1 yX1_mean yX1_mean, Cond.code yX1_mean cX1_mean 1 (some .double), Cond.methodLink RL 141 yX0_digest, Cond.instanceMethod yX0_digest, Cond.selects RX0 yX0_digest yX0_digest, Cond.code yX0_digest cX0_digest 4 (some .long), Cond.constantLong RX0 187 (761), Cond.constantLong RX0 189 (31), Cond.methodLink RX0 191 yX0_count, Cond.methodLink RX0 194 yX0_digestWithCollector, Cond.instanceMethod yX0_digestWithCollector, Cond.selects RX0 yX0_digestWithCollector yX0_digestWithCollector, Cond.code yX0_digestWithCollector cX0_digestWithCollector 7 (some .long), Cond.methodLink RX0 201 yX0_collector, Cond.methodLink RX0 198 yX0_digestWithThimble, Cond.instanceMethod yX0_digestWithThimble, Cond.selects RX0 yX0_digestWithThimble yX0_digestWithThimble]
def wsL_law0_r23 : List Cond := [Cond.code yX0_digestWithThimble cX0_digestWithThimble 7 (some .long), Cond.methodLink RX0 204 yX0_thimble, Cond.methodLink RL 145 yX1_digest, Cond.instanceMethod yX1_digest, Cond.selects RX1 yX1_digest yX1_digest, Cond.code yX1_digest cX1_digest 5 (some .long), Cond.constantLong RX1 139 (761), Cond.constantLong RX1 141 (31)]
def wsL_law0 : List Cond := (wsL_law0_r1 ++ (wsL_law0_r2 ++ (wsL_law0_r3 ++ (wsL_law0_r4 ++ (wsL_law0_r5 ++ (wsL_law0_r6 ++ (wsL_law0_r7 ++ (wsL_law0_r8 ++ (wsL_law0_r9 ++ (wsL_law0_r10 ++ (wsL_law0_r11 ++ (wsL_law0_r12 ++ (wsL_law0_r13 ++ (wsL_law0_r14 ++ (wsL_law0_r15 ++ (wsL_law0_r16 ++ (wsL_law0_r17 ++ (wsL_law0_r18 ++ (wsL_law0_r19 ++ (wsL_law0_r20 ++ (wsL_law0_r21 ++ (wsL_law0_r22 ++ wsL_law0_r23)))))))))))))))))))))) ++ wsX00 ++ wsX10 ++ ([] : List Cond)
def wsL_law : List Cond := wsL_law0 ++ (vx_atS RX0 53 "java/lang/IllegalStateException" ["java/lang/RuntimeException", "java/lang/Exception"]).filter goodWord ++ (vx_atS RX0 74 "java/lang/IllegalArgumentException" ["java/lang/RuntimeException", "java/lang/Exception"]).filter goodWord ++ (vx_atS RX0 211 "java/lang/IndexOutOfBoundsException" ["java/lang/RuntimeException", "java/lang/Exception"]).filter goodWord
set_option maxRecDepth 20000 in
theorem wsL_places {big : List Cond} (ws : List Cond) (ps : List Nat) (hp : ws = ps.filterMap (fun i => big[i]?)) : ∀ w ∈ ws, w ∈ big := by
  intro w hw
  rw [hp] at hw
  obtain ⟨i, -, hi⟩ := List.mem_filterMap.mp hw
  exact List.mem_of_getElem? hi
theorem wsL_law0_r1_in : ∀ w ∈ wsL_law0_r1, w ∈ lw_tbl := wsL_places wsL_law0_r1 [70, 71, 58, 542, 543, 59, 758, 72, 73, 74, 75, 76, 77, 132, 85, 86, 87, 88, 89, 90, 91, 78, 92, 93] (by decide +kernel)
theorem wsL_law0_r2_in : ∀ w ∈ wsL_law0_r2, w ∈ lw_tbl := wsL_places wsL_law0_r2 [94, 95, 544, 545, 546, 547, 551, 552, 553, 554, 555, 556, 315, 316, 57, 317, 318, 319, 320, 321, 322, 323, 63, 81] (by decide +kernel)
theorem wsL_law0_r3_in : ∀ w ∈ wsL_law0_r3, w ∈ lw_tbl := wsL_places wsL_law0_r3 [153, 154, 64, 155, 580, 581, 582, 583, 548, 549, 584, 586, 35, 587, 576, 577, 578, 579, 339, 340, 341, 342, 343, 344] (by decide +kernel)
theorem wsL_law0_r4_in : ∀ w ∈ wsL_law0_r4, w ∈ lw_tbl := wsL_places wsL_law0_r4 [345, 346, 347, 348, 66, 82, 277, 279, 11, 280, 193, 65, 190, 191, 192, 588, 589, 590, 591, 550, 602, 604, 603, 67] (by decide +kernel)
theorem wsL_law0_r5_in : ∀ w ∈ wsL_law0_r5, w ∈ lw_tbl := wsL_places wsL_law0_r5 [592, 594, 36, 595, 596, 597, 598, 599, 600, 601, 365, 366, 367, 368, 369, 370, 371, 372, 373, 374, 605, 606, 607, 608] (by decide +kernel)
theorem wsL_law0_r6_in : ∀ w ∈ wsL_law0_r6, w ∈ lw_tbl := wsL_places wsL_law0_r6 [377, 378, 379, 380, 274, 275, 276, 187, 188, 189, 282, 284, 12, 285, 286, 288, 13, 289, 265, 267, 9, 268, 290, 292] (by decide +kernel)
theorem wsL_law0_r7_in : ∀ w ∈ wsL_law0_r7, w ∈ lw_tbl := wsL_places wsL_law0_r7 [14, 293, 96, 145, 147, 2, 148, 149, 151, 3, 152, 156, 157, 68, 158, 163, 164, 69, 165, 166, 167, 168, 141, 143] (by decide +kernel)
theorem wsL_law0_r8_in : ∀ w ∈ wsL_law0_r8, w ∈ lw_tbl := wsL_places wsL_law0_r8 [1, 144, 159, 161, 4, 162, 169, 171, 5, 172, 173, 175, 6, 176, 294, 296, 15, 297, 298, 300, 16, 301, 609, 610] (by decide +kernel)
theorem wsL_law0_r9_in : ∀ w ∈ wsL_law0_r9, w ∈ lw_tbl := wsL_places wsL_law0_r9 [611, 612, 613, 615, 37, 616, 617, 619, 38, 620, 621, 623, 39, 624, 625, 627, 40, 628, 629, 630, 632, 41, 633, 634] (by decide +kernel)
theorem wsL_law0_r10_in : ∀ w ∈ wsL_law0_r10, w ∈ lw_tbl := wsL_places wsL_law0_r10 [636, 42, 637, 638, 639, 641, 43, 642, 381, 382, 383, 384, 385, 386, 387, 643, 644, 645, 646, 388, 389, 390, 391, 307] (by decide +kernel)
theorem wsL_law0_r11_in : ∀ w ∈ wsL_law0_r11, w ∈ lw_tbl := wsL_places wsL_law0_r11 [308, 309, 310, 312, 18, 313, 647, 648, 649, 650, 651, 653, 44, 654, 392, 393, 394, 395, 396, 397, 398, 399, 401, 19] (by decide +kernel)
theorem wsL_law0_r12_in : ∀ w ∈ wsL_law0_r12, w ∈ lw_tbl := wsL_places wsL_law0_r12 [402, 404, 406, 20, 407, 408, 410, 21, 411, 655, 656, 657, 658, 659, 661, 45, 662, 663, 665, 46, 666, 667, 669, 47] (by decide +kernel)
theorem wsL_law0_r13_in : ∀ w ∈ wsL_law0_r13, w ∈ lw_tbl := wsL_places wsL_law0_r13 [670, 412, 413, 414, 415, 416, 417, 418, 84, 419, 421, 22, 422, 424, 426, 23, 427, 428, 430, 24, 431, 83, 432, 434] (by decide +kernel)
theorem wsL_law0_r14_in : ∀ w ∈ wsL_law0_r14, w ∈ lw_tbl := wsL_places wsL_law0_r14 [25, 435, 436, 438, 26, 439, 440, 441, 442, 671, 672, 673, 674, 675, 677, 48, 678, 679, 681, 49, 682, 683, 685, 50] (by decide +kernel)
theorem wsL_law0_r15_in : ∀ w ∈ wsL_law0_r15, w ∈ lw_tbl := wsL_places wsL_law0_r15 [686, 687, 443, 444, 445, 446, 447, 448, 449, 451, 453, 27, 454, 455, 457, 28, 458, 688, 689, 690, 691, 692, 694, 51] (by decide +kernel)
theorem wsL_law0_r16_in : ∀ w ∈ wsL_law0_r16, w ∈ lw_tbl := wsL_places wsL_law0_r16 [695, 459, 460, 461, 462, 463, 464, 465, 466, 467, 468, 696, 697, 698, 699, 469, 470, 471, 472, 473, 474, 475, 477, 479] (by decide +kernel)
theorem wsL_law0_r17_in : ∀ w ∈ wsL_law0_r17, w ∈ lw_tbl := wsL_places wsL_law0_r17 [29, 480, 700, 701, 702, 703, 704, 706, 52, 707, 481, 482, 483, 484, 485, 486, 487, 80, 708, 709, 710, 711, 489, 490] (by decide +kernel)
theorem wsL_law0_r18_in : ∀ w ∈ wsL_law0_r18, w ∈ lw_tbl := wsL_places wsL_law0_r18 [491, 492, 493, 494, 495, 496, 498, 30, 499, 712, 713, 714, 715, 716, 718, 53, 719, 500, 501, 502, 503, 504, 505, 506] (by decide +kernel)
theorem wsL_law0_r19_in : ∀ w ∈ wsL_law0_r19, w ∈ lw_tbl := wsL_places wsL_law0_r19 [507, 509, 31, 510, 720, 721, 722, 723, 511, 512, 513, 514, 515, 516, 517, 724, 725, 726, 727, 518, 519, 520, 521, 522] (by decide +kernel)
theorem wsL_law0_r20_in : ∀ w ∈ wsL_law0_r20, w ∈ lw_tbl := wsL_places wsL_law0_r20 [523, 524, 526, 528, 32, 529, 530, 532, 33, 533, 534, 536, 34, 537, 728, 729, 730, 731, 732, 734, 54, 735, 538, 539] (by decide +kernel)
theorem wsL_law0_r21_in : ∀ w ∈ wsL_law0_r21, w ∈ lw_tbl := wsL_places wsL_law0_r21 [540, 541, 184, 185, 186, 261, 263, 8, 264, 137, 139, 0, 140, 736, 737, 738, 739, 740, 742, 55, 743, 744, 746, 56] (by decide +kernel)
theorem wsL_law0_r22_in : ∀ w ∈ wsL_law0_r22, w ∈ lw_tbl := wsL_places wsL_law0_r22 [747, 133, 134, 135, 136, 748, 749, 750, 751, 177, 178, 179, 180, 181, 182, 183, 269, 271, 10, 272, 273, 302, 304, 17] (by decide +kernel)
theorem wsL_law0_r23_in : ∀ w ∈ wsL_law0_r23, w ∈ lw_tbl := wsL_places wsL_law0_r23 [305, 306, 752, 753, 754, 755, 756, 757] (by decide +kernel)
theorem wsL_law0_x : ∀ w ∈ wsX00, w ∈ lw_tbl := wsL_places wsX00 [97, 99, 101, 103, 105, 107, 109, 111, 113, 115, 117, 119, 121, 123, 125, 127, 129] (by decide +kernel)
theorem wsL_law0_m : ∀ w ∈ wsX10, w ∈ lw_tbl := wsL_places wsX10 [557, 559, 561, 563, 565, 567, 569, 571, 573] (by decide +kernel)
theorem wsL_law_in0 : ∀ w ∈ wsL_law0, w ∈ lw_tbl := List.forall_mem_append.mpr ⟨List.forall_mem_append.mpr ⟨List.forall_mem_append.mpr ⟨List.forall_mem_append.mpr ⟨wsL_law0_r1_in, List.forall_mem_append.mpr ⟨wsL_law0_r2_in, List.forall_mem_append.mpr ⟨wsL_law0_r3_in, List.forall_mem_append.mpr ⟨wsL_law0_r4_in, List.forall_mem_append.mpr ⟨wsL_law0_r5_in, List.forall_mem_append.mpr ⟨wsL_law0_r6_in, List.forall_mem_append.mpr ⟨wsL_law0_r7_in, List.forall_mem_append.mpr ⟨wsL_law0_r8_in, List.forall_mem_append.mpr ⟨wsL_law0_r9_in, List.forall_mem_append.mpr ⟨wsL_law0_r10_in, List.forall_mem_append.mpr ⟨wsL_law0_r11_in, List.forall_mem_append.mpr ⟨wsL_law0_r12_in, List.forall_mem_append.mpr ⟨wsL_law0_r13_in, List.forall_mem_append.mpr ⟨wsL_law0_r14_in, List.forall_mem_append.mpr ⟨wsL_law0_r15_in, List.forall_mem_append.mpr ⟨wsL_law0_r16_in, List.forall_mem_append.mpr ⟨wsL_law0_r17_in, List.forall_mem_append.mpr ⟨wsL_law0_r18_in, List.forall_mem_append.mpr ⟨wsL_law0_r19_in, List.forall_mem_append.mpr ⟨wsL_law0_r20_in, List.forall_mem_append.mpr ⟨wsL_law0_r21_in, List.forall_mem_append.mpr ⟨wsL_law0_r22_in, wsL_law0_r23_in⟩⟩⟩⟩⟩⟩⟩⟩⟩⟩⟩⟩⟩⟩⟩⟩⟩⟩⟩⟩⟩⟩, wsL_law0_x⟩, wsL_law0_m⟩, (fun w h => absurd h List.not_mem_nil)⟩
theorem wsL_law_x0 : ∀ w ∈ (vx_atS RX0 53 "java/lang/IllegalStateException" ["java/lang/RuntimeException", "java/lang/Exception"]).filter goodWord, w ∈ lw_tbl := by decide +kernel
theorem wsL_law_x1 : ∀ w ∈ (vx_atS RX0 74 "java/lang/IllegalArgumentException" ["java/lang/RuntimeException", "java/lang/Exception"]).filter goodWord, w ∈ lw_tbl := by decide +kernel
theorem wsL_law_x2 : ∀ w ∈ (vx_atS RX0 211 "java/lang/IndexOutOfBoundsException" ["java/lang/RuntimeException", "java/lang/Exception"]).filter goodWord, w ∈ lw_tbl := by decide +kernel
theorem wsL_law_in : ∀ w ∈ wsL_law, w ∈ lw_tbl := fun w h => (List.mem_append.mp h).elim (fun h => (List.mem_append.mp h).elim (fun h => (List.mem_append.mp h).elim (fun h => wsL_law_in0 w h) (fun h => wsL_law_x0 w h)) (fun h => wsL_law_x1 w h)) (fun h => wsL_law_x2 w h)
theorem inlX0 : ∀ w ∈ wsX00, w ∈ wsL_law := fun _ h => List.mem_append_left _ (List.mem_append_left _ (List.mem_append_left _ (List.mem_append_left _ (List.mem_append_left _ (List.mem_append_right _ h)))))
theorem inX0 : ∀ w ∈ wsX00, w ∈ lw_tbl := fun w h => wsL_law_in w (inlX0 w h)
theorem inlX1 : ∀ w ∈ wsX10, w ∈ wsL_law := fun _ h => List.mem_append_left _ (List.mem_append_left _ (List.mem_append_left _ (List.mem_append_left _ (List.mem_append_right _ h))))
theorem inX1 : ∀ w ∈ wsX10, w ∈ lw_tbl := fun w h => wsL_law_in w (inlX1 w h)
theorem inJx145de : ∀ w ∈ wsJx145de0, w ∈ lw_tbl := by decide +kernel
theorem inJ6 : ∀ w ∈ wsJ60, w ∈ lw_tbl := by decide +kernel
theorem inJ9 : ∀ w ∈ wsJ90, w ∈ lw_tbl := by decide +kernel
theorem inJ0 : ∀ w ∈ wsJ00, w ∈ lw_tbl := by decide +kernel
theorem inJ10 : ∀ w ∈ wsJ100, w ∈ lw_tbl := by decide +kernel
theorem inJ7 : ∀ w ∈ wsJ70, w ∈ lw_tbl := by decide +kernel
abbrev vwCl : List vw_C := [(RX0, TX0, 17), (RX1, TX1, 9)]
end
section
/-! ===== the walk over a world: one bundle of what a method's walk keeps fixed, one judgement, a row an instruction ===== -/
abbrev jj_E : Type := (Program × Launch × Env × Room) × (State × MethodId × Array Value × List Frame × Method × Code) × (va_G × (Nat → Prop))
abbrev jj_W (E : jj_E) (H : Heap) (locs : List Loc) (k n : Nat) (Q : State → Prop) (g : JFrame) : Prop := W E.1.1 E.1.2.1 E.1.2.2.1 E.1.2.2.2 E.2.1.1 E.2.1.2.1 E.2.1.2.2.1 E.2.1.2.2.2.1 E.2.1.2.2.2.2.1 E.2.1.2.2.2.2.2 H locs k n Q g
def jj_J (E : jj_E) (k n : Nat) (Q : State → Prop) (ws : va_W) (pc : Nat) (lv : List (Nat × Value)) (st : List Value) : Prop :=
  ∀ (H : Heap) (locs : List Loc) (ls : Array Slot), va_P E.2.2.1 vwCl ws H → va_D E.2.2.2 ws → va_S E.2.2.2 E.2.1.1.heap H locs → lv_has ls E.2.1.2.2.2.2.2.maxLocals lv → jj_W E H locs k n Q (F0 E.2.1.2.1 pc ls st)
def jj_C (cc : ByteArray) (nL : Nat) (ret : Option FieldType) (Ts : List Cond) (own : String) (rm : Room) (tys : List (ClassId × FieldType)) (E : jj_E) : Prop :=
  E.1.1.tables.exec = Jvm.exec ∧ E.2.1.2.2.2.2.2.code = cc ∧ E.2.1.2.2.2.2.2.maxLocals = nL ∧ E.2.1.1.vm.findClass own = some E.2.1.2.1.cls ∧ (∀ w ∈ Ts, w.before E.2.1.2.2.1 E.2.1.1 = true) ∧ va_K E.2.2.1 vwCl tys E.2.1.1 ∧ (∀ q : Nat, E.2.1.1.heap.size ≤ q → E.2.2.2 q) ∧ E.2.1.2.2.2.2.1.sig.returnType = ret ∧ E.2.1.2.2.2.2.1.locks = false ∧ E.1.2.2.2 = rm
def jj_lk : List (Nat × Value) → Nat → Option Value
  | [], _ => none
  | q :: r, i => bif Nat.beq q.1 i then some q.2 else jj_lk r i
theorem jj_lk_mem : ∀ (lv : List (Nat × Value)) (i : Nat) (v : Value), jj_lk lv i = some v → (i, v) ∈ lv
  | [], _, _, h => by cases h
  | q :: r, i, v, h => by
    cases hq : Nat.beq q.1 i with
    | true =>
      simp only [jj_lk, hq, cond_true] at h
      cases h
      have e : q.1 = i := Nat.eq_of_beq_eq_true hq
      subst e
      exact List.mem_cons_self
    | false =>
      simp only [jj_lk, hq, cond_false] at h
      exact List.mem_cons_of_mem _ (jj_lk_mem r i v h)
theorem jj_at {ls : Array Slot} {nL : Nat} {lv : List (Nat × Value)} (h : lv_has ls nL lv) {i : Nat} {v : Value} (hk : jj_lk lv i = some v) : ls[i]? = some (.val v) := h.2.2 (i, v) (jj_lk_mem lv i v hk)
section JJ
variable {cc : ByteArray} {nL : Nat} {ret : Option FieldType} {Ts : List Cond} {own : String} {rm : Room} {tys : List (ClassId × FieldType)} {E : jj_E} {k n : Nat} {Q : State → Prop} {ws : va_W} {pc : Nat} {lv : List (Nat × Value)} {rest : List Value}
theorem jj_lv {lv' : List (Nat × Value)} (h : jj_J E k n Q ws pc lv' rest) (e : lv = lv') : jj_J E k n Q ws pc lv rest := e ▸ h
theorem jj_sub (ks : List Nat) {lv' : List (Nat × Value)} (hl : lv_pick lv ks = lv') (h : jj_J E k n Q ws pc lv' rest) : jj_J E k n Q ws pc lv rest := fun H locs ls hP hD hS hl0 => h H locs ls hP hD hS (lv_sub hl0 ks hl)
theorem jj_ws {ws' : va_W} (e : ws = ws') (h : jj_J E k n Q ws' pc lv rest) : jj_J E k n Q ws pc lv rest := e ▸ h
theorem jj_st {st st' : List Value} (e : st = st') (h : jj_J E k n Q ws pc lv st') : jj_J E k n Q ws pc lv st := e ▸ h
theorem jj_topi {x y : Int32} (e : x = y) (h : jj_J E k n Q ws pc lv (.int y :: rest)) : jj_J E k n Q ws pc lv (.int x :: rest) := e ▸ h
theorem jj_topl {x y : Int64} (e : x = y) (h : jj_J E k n Q ws pc lv (.long y :: rest)) : jj_J E k n Q ws pc lv (.long x :: rest) := e ▸ h
theorem jj_name {x : Int32} (h : ∀ y : Int32, y = x → jj_J E k n Q ws pc lv (.int y :: rest)) : jj_J E k n Q ws pc lv (.int x :: rest) := h x rfl
theorem jj_namel {x : Int64} (h : ∀ y : Int64, y = x → jj_J E k n Q ws pc lv (.long y :: rest)) : jj_J E k n Q ws pc lv (.long x :: rest) := h x rfl
theorem jj_widen {k' n' : Nat} (h1 : k ≤ k') (h2 : n ≤ n') (h : jj_J E k' n' Q ws pc lv rest) : jj_J E k n Q ws pc lv rest := fun H locs ls hP hD hS hl => W.widen h1 h2 (h H locs ls hP hD hS hl)
theorem jj_for {P : Nat → Prop} {N : Nat} (hend : P N) (hstep : ∀ i, i < N → P (i + 1) → P i) : ∀ i, i ≤ N → P i := by
  intro i hi
  obtain ⟨d, hd⟩ : ∃ d, N = i + d := ⟨N - i, by omega⟩
  induction d generalizing i with
  | zero => rw [show i = N by omega]; exact hend
  | succ d ih => exact hstep i (by omega) (ih (i + 1) (by omega) (by omega))

theorem jj_iconst (hC : jj_C cc nL ret Ts own rm tys E) {z : Int} {v : Int32} (hd : decode cc pc = .ok (.iconst z, 1)) (hv : Int32.ofInt z = v) (hk : jj_J E k n Q ws (pc + 1) lv (.int v :: rest)) : jj_J E k n Q ws (pc) lv (rest) := fun H locs ls hP hD hS hl => lv_iconst hC.1 hC.2.1 hd hv (hk H locs ls hP hD hS hl)
theorem jj_bipush (hC : jj_C cc nL ret Ts own rm tys E) {z : Int} {v : Int32} (hd : decode cc pc = .ok (.bipush z, 2)) (hv : (Int8.ofInt z).toInt32 = v) (hk : jj_J E k n Q ws (pc + 2) lv (.int v :: rest)) : jj_J E k n Q ws (pc) lv (rest) := fun H locs ls hP hD hS hl => lv_bipush hC.1 hC.2.1 hd hv (hk H locs ls hP hD hS hl)
theorem jj_sipush (hC : jj_C cc nL ret Ts own rm tys E) {z : Int} {v : Int32} (hd : decode cc pc = .ok (.sipush z, 3)) (hv : (Int16.ofInt z).toInt32 = v) (hk : jj_J E k n Q ws (pc + 3) lv (.int v :: rest)) : jj_J E k n Q ws (pc) lv (rest) := fun H locs ls hP hD hS hl => lv_sipush hC.1 hC.2.1 hd hv (hk H locs ls hP hD hS hl)
theorem jj_dconst0 (hC : jj_C cc nL ret Ts own rm tys E)  (hd : decode cc pc = .ok (.dconst 0, 1))  (hk : jj_J E k n Q ws (pc + 1) lv (.double FP.dconst0 :: rest)) : jj_J E k n Q ws (pc) lv (rest) := fun H locs ls hP hD hS hl => lv_dconst0 hC.1 hC.2.1 hd  (hk H locs ls hP hD hS hl)
theorem jj_iload_n (hC : jj_C cc nL ret Ts own rm tys E) {q : Fin 4} {x : Int32} (hd : decode cc pc = .ok (.iload_n q, 1)) (h : jj_lk lv q.val = some (.int x)) (hk : jj_J E k n Q ws (pc + 1) lv (.int x :: rest)) : jj_J E k n Q ws (pc) lv (rest) := fun H locs ls hP hD hS hl => lv_iload_n hC.1 hC.2.1 hd rfl (jj_at hl h) (hk H locs ls hP hD hS hl)
theorem jj_iload (hC : jj_C cc nL ret Ts own rm tys E) {i : Nat} {x : Int32} (hd : decode cc pc = .ok (.iload i, 2)) (h : jj_lk lv i = some (.int x)) (hk : jj_J E k n Q ws (pc + 2) lv (.int x :: rest)) : jj_J E k n Q ws (pc) lv (rest) := fun H locs ls hP hD hS hl => lv_iload hC.1 hC.2.1 hd (jj_at hl h) (hk H locs ls hP hD hS hl)
theorem jj_istore_n (hC : jj_C cc nL ret Ts own rm tys E) {q0 : Fin 4} {x : Int32} (hd : decode cc pc = .ok (.istore_n q0, 1)) (hn : q0.val < nL) (ks : List Nat) {lv' : List (Nat × Value)} (hl2 : lv_pick ((q0.val, Value.int x) :: lv.filter (fun q => !(q.1 == q0.val) && !(q.1 + 1 == q0.val && q.2.category == 2))) ks = lv') (hk : jj_J E k n Q ws (pc + 1) lv' (rest)) : jj_J E k n Q ws (pc) lv (.int x :: rest) := fun H locs ls hP hD hS hl => lv_istore_n hC.1 hC.2.1 hd rfl hl (by rw [hC.2.2.1]; exact hn) rfl (fun ls2 hl3 => hk H locs ls2 hP hD hS (lv_sub hl3 ks hl2))
theorem jj_istore (hC : jj_C cc nL ret Ts own rm tys E) {i : Nat} {x : Int32} (hd : decode cc pc = .ok (.istore i, 2)) (hn : i < nL) (ks : List Nat) {lv' : List (Nat × Value)} (hl2 : lv_pick ((i, Value.int x) :: lv.filter (fun q => !(q.1 == i) && !(q.1 + 1 == i && q.2.category == 2))) ks = lv') (hk : jj_J E k n Q ws (pc + 2) lv' (rest)) : jj_J E k n Q ws (pc) lv (.int x :: rest) := fun H locs ls hP hD hS hl => lv_istore hC.1 hC.2.1 hd hl (by rw [hC.2.2.1]; exact hn) rfl (fun ls2 hl3 => hk H locs ls2 hP hD hS (lv_sub hl3 ks hl2))
theorem jj_lload_n (hC : jj_C cc nL ret Ts own rm tys E) {q : Fin 4} {x : Int64} (hd : decode cc pc = .ok (.lload_n q, 1)) (h : jj_lk lv q.val = some (.long x)) (hk : jj_J E k n Q ws (pc + 1) lv (.long x :: rest)) : jj_J E k n Q ws (pc) lv (rest) := fun H locs ls hP hD hS hl => lv_lload_n hC.1 hC.2.1 hd rfl (jj_at hl h) (hk H locs ls hP hD hS hl)
theorem jj_lload (hC : jj_C cc nL ret Ts own rm tys E) {i : Nat} {x : Int64} (hd : decode cc pc = .ok (.lload i, 2)) (h : jj_lk lv i = some (.long x)) (hk : jj_J E k n Q ws (pc + 2) lv (.long x :: rest)) : jj_J E k n Q ws (pc) lv (rest) := fun H locs ls hP hD hS hl => lv_lload hC.1 hC.2.1 hd (jj_at hl h) (hk H locs ls hP hD hS hl)
theorem jj_lstore_n (hC : jj_C cc nL ret Ts own rm tys E) {q0 : Fin 4} {x : Int64} (hd : decode cc pc = .ok (.lstore_n q0, 1)) (hn : q0.val + 1 < nL) (ks : List Nat) {lv' : List (Nat × Value)} (hl2 : lv_pick ((q0.val, Value.long x) :: lv.filter (fun q => !(q.1 == q0.val) && (!(q.1 == q0.val + 1) && !(q.1 + 1 == q0.val && q.2.category == 2)))) ks = lv') (hk : jj_J E k n Q ws (pc + 1) lv' (rest)) : jj_J E k n Q ws (pc) lv (.long x :: rest) := fun H locs ls hP hD hS hl => lv_lstore_n hC.1 hC.2.1 hd rfl hl (by rw [hC.2.2.1]; exact hn) rfl (fun ls2 hl3 => hk H locs ls2 hP hD hS (lv_sub hl3 ks hl2))
theorem jj_lstore (hC : jj_C cc nL ret Ts own rm tys E) {i : Nat} {x : Int64} (hd : decode cc pc = .ok (.lstore i, 2)) (hn : i + 1 < nL) (ks : List Nat) {lv' : List (Nat × Value)} (hl2 : lv_pick ((i, Value.long x) :: lv.filter (fun q => !(q.1 == i) && (!(q.1 == i + 1) && !(q.1 + 1 == i && q.2.category == 2)))) ks = lv') (hk : jj_J E k n Q ws (pc + 2) lv' (rest)) : jj_J E k n Q ws (pc) lv (.long x :: rest) := fun H locs ls hP hD hS hl => lv_lstore hC.1 hC.2.1 hd hl (by rw [hC.2.2.1]; exact hn) rfl (fun ls2 hl3 => hk H locs ls2 hP hD hS (lv_sub hl3 ks hl2))
theorem jj_aload_n (hC : jj_C cc nL ret Ts own rm tys E) {q : Fin 4} {x : Nat} (hd : decode cc pc = .ok (.aload_n q, 1)) (h : jj_lk lv q.val = some (.ref x)) (hk : jj_J E k n Q ws (pc + 1) lv (.ref x :: rest)) : jj_J E k n Q ws (pc) lv (rest) := fun H locs ls hP hD hS hl => lv_aload_n hC.1 hC.2.1 hd rfl (jj_at hl h) (hk H locs ls hP hD hS hl)
theorem jj_aload (hC : jj_C cc nL ret Ts own rm tys E) {i : Nat} {x : Nat} (hd : decode cc pc = .ok (.aload i, 2)) (h : jj_lk lv i = some (.ref x)) (hk : jj_J E k n Q ws (pc + 2) lv (.ref x :: rest)) : jj_J E k n Q ws (pc) lv (rest) := fun H locs ls hP hD hS hl => lv_aload hC.1 hC.2.1 hd (jj_at hl h) (hk H locs ls hP hD hS hl)
theorem jj_astore_n (hC : jj_C cc nL ret Ts own rm tys E) {q0 : Fin 4} {x : Nat} (hd : decode cc pc = .ok (.astore_n q0, 1)) (hn : q0.val < nL) (ks : List Nat) {lv' : List (Nat × Value)} (hl2 : lv_pick ((q0.val, Value.ref x) :: lv.filter (fun q => !(q.1 == q0.val) && !(q.1 + 1 == q0.val && q.2.category == 2))) ks = lv') (hk : jj_J E k n Q ws (pc + 1) lv' (rest)) : jj_J E k n Q ws (pc) lv (.ref x :: rest) := fun H locs ls hP hD hS hl => lv_astore_n hC.1 hC.2.1 hd rfl hl (by rw [hC.2.2.1]; exact hn) rfl (fun ls2 hl3 => hk H locs ls2 hP hD hS (lv_sub hl3 ks hl2))
theorem jj_astore (hC : jj_C cc nL ret Ts own rm tys E) {i : Nat} {x : Nat} (hd : decode cc pc = .ok (.astore i, 2)) (hn : i < nL) (ks : List Nat) {lv' : List (Nat × Value)} (hl2 : lv_pick ((i, Value.ref x) :: lv.filter (fun q => !(q.1 == i) && !(q.1 + 1 == i && q.2.category == 2))) ks = lv') (hk : jj_J E k n Q ws (pc + 2) lv' (rest)) : jj_J E k n Q ws (pc) lv (.ref x :: rest) := fun H locs ls hP hD hS hl => lv_astore hC.1 hC.2.1 hd hl (by rw [hC.2.2.1]; exact hn) rfl (fun ls2 hl3 => hk H locs ls2 hP hD hS (lv_sub hl3 ks hl2))
theorem jj_dload_n (hC : jj_C cc nL ret Ts own rm tys E) {q : Fin 4} {x : UInt64} (hd : decode cc pc = .ok (.dload_n q, 1)) (h : jj_lk lv q.val = some (.double x)) (hk : jj_J E k n Q ws (pc + 1) lv (.double x :: rest)) : jj_J E k n Q ws (pc) lv (rest) := fun H locs ls hP hD hS hl => lv_dload_n hC.1 hC.2.1 hd rfl (jj_at hl h) (hk H locs ls hP hD hS hl)
theorem jj_dload (hC : jj_C cc nL ret Ts own rm tys E) {i : Nat} {x : UInt64} (hd : decode cc pc = .ok (.dload i, 2)) (h : jj_lk lv i = some (.double x)) (hk : jj_J E k n Q ws (pc + 2) lv (.double x :: rest)) : jj_J E k n Q ws (pc) lv (rest) := fun H locs ls hP hD hS hl => lv_dload hC.1 hC.2.1 hd (jj_at hl h) (hk H locs ls hP hD hS hl)
theorem jj_dstore_n (hC : jj_C cc nL ret Ts own rm tys E) {q0 : Fin 4} {x : UInt64} (hd : decode cc pc = .ok (.dstore_n q0, 1)) (hn : q0.val + 1 < nL) (ks : List Nat) {lv' : List (Nat × Value)} (hl2 : lv_pick ((q0.val, Value.double x) :: lv.filter (fun q => !(q.1 == q0.val) && (!(q.1 == q0.val + 1) && !(q.1 + 1 == q0.val && q.2.category == 2)))) ks = lv') (hk : jj_J E k n Q ws (pc + 1) lv' (rest)) : jj_J E k n Q ws (pc) lv (.double x :: rest) := fun H locs ls hP hD hS hl => lv_dstore_n hC.1 hC.2.1 hd rfl hl (by rw [hC.2.2.1]; exact hn) rfl (fun ls2 hl3 => hk H locs ls2 hP hD hS (lv_sub hl3 ks hl2))
theorem jj_dstore (hC : jj_C cc nL ret Ts own rm tys E) {i : Nat} {x : UInt64} (hd : decode cc pc = .ok (.dstore i, 2)) (hn : i + 1 < nL) (ks : List Nat) {lv' : List (Nat × Value)} (hl2 : lv_pick ((i, Value.double x) :: lv.filter (fun q => !(q.1 == i) && (!(q.1 == i + 1) && !(q.1 + 1 == i && q.2.category == 2)))) ks = lv') (hk : jj_J E k n Q ws (pc + 2) lv' (rest)) : jj_J E k n Q ws (pc) lv (.double x :: rest) := fun H locs ls hP hD hS hl => lv_dstore hC.1 hC.2.1 hd hl (by rw [hC.2.2.1]; exact hn) rfl (fun ls2 hl3 => hk H locs ls2 hP hD hS (lv_sub hl3 ks hl2))
theorem jj_iinc (hC : jj_C cc nL ret Ts own rm tys E) {i : Nat} {d : Int} {x v : Int32} (hd : decode cc pc = .ok (.iinc i d, 3)) (h : jj_lk lv i = some (.int x)) (hv : x + Int32.ofInt d = v) (hn : i < nL) (ks : List Nat) {lv' : List (Nat × Value)} (hl2 : lv_pick ((i, Value.int v) :: lv.filter (fun q => !(q.1 == i) && !(q.1 + 1 == i && q.2.category == 2))) ks = lv') (hk : jj_J E k n Q ws (pc + 3) lv' (rest)) : jj_J E k n Q ws (pc) lv (rest) := by
  intro H locs ls hP hD hS hl
  obtain ⟨k9, hk9⟩ := List.getElem?_of_mem (jj_lk_mem lv i _ h)
  exact lv_iinc hC.1 hC.2.1 hd hl hk9 hv (by rw [hC.2.2.1]; exact hn) rfl (fun ls2 hl3 => hk H locs ls2 hP hD hS (lv_sub hl3 ks hl2))
theorem jj_iadd (hC : jj_C cc nL ret Ts own rm tys E) {x y : Int32} (hd : decode cc pc = .ok (.iadd, 1))  (hk : jj_J E k n Q ws (pc + 1) lv (.int (x + y) :: rest)) : jj_J E k n Q ws (pc) lv (.int y :: .int x :: rest) := fun H locs ls hP hD hS hl => lv_iadd hC.1 hC.2.1 hd  (hk H locs ls hP hD hS hl)
theorem jj_isub (hC : jj_C cc nL ret Ts own rm tys E) {x y : Int32} (hd : decode cc pc = .ok (.isub, 1))  (hk : jj_J E k n Q ws (pc + 1) lv (.int (x - y) :: rest)) : jj_J E k n Q ws (pc) lv (.int y :: .int x :: rest) := fun H locs ls hP hD hS hl => lv_isub hC.1 hC.2.1 hd  (hk H locs ls hP hD hS hl)
theorem jj_imul (hC : jj_C cc nL ret Ts own rm tys E) {x y : Int32} (hd : decode cc pc = .ok (.imul, 1))  (hk : jj_J E k n Q ws (pc + 1) lv (.int (x * y) :: rest)) : jj_J E k n Q ws (pc) lv (.int y :: .int x :: rest) := fun H locs ls hP hD hS hl => lv_imul hC.1 hC.2.1 hd  (hk H locs ls hP hD hS hl)
theorem jj_iand (hC : jj_C cc nL ret Ts own rm tys E) {x y : Int32} (hd : decode cc pc = .ok (.iand, 1))  (hk : jj_J E k n Q ws (pc + 1) lv (.int (x &&& y) :: rest)) : jj_J E k n Q ws (pc) lv (.int y :: .int x :: rest) := fun H locs ls hP hD hS hl => lv_iand hC.1 hC.2.1 hd  (hk H locs ls hP hD hS hl)
theorem jj_ior (hC : jj_C cc nL ret Ts own rm tys E) {x y : Int32} (hd : decode cc pc = .ok (.ior, 1))  (hk : jj_J E k n Q ws (pc + 1) lv (.int (x ||| y) :: rest)) : jj_J E k n Q ws (pc) lv (.int y :: .int x :: rest) := fun H locs ls hP hD hS hl => lv_ior hC.1 hC.2.1 hd  (hk H locs ls hP hD hS hl)
theorem jj_ixor (hC : jj_C cc nL ret Ts own rm tys E) {x y : Int32} (hd : decode cc pc = .ok (.ixor, 1))  (hk : jj_J E k n Q ws (pc + 1) lv (.int (x ^^^ y) :: rest)) : jj_J E k n Q ws (pc) lv (.int y :: .int x :: rest) := fun H locs ls hP hD hS hl => lv_ixor hC.1 hC.2.1 hd  (hk H locs ls hP hD hS hl)
theorem jj_ishl (hC : jj_C cc nL ret Ts own rm tys E) {x y : Int32} (hd : decode cc pc = .ok (.ishl, 1))  (hk : jj_J E k n Q ws (pc + 1) lv (.int (x <<< (y &&& 31)) :: rest)) : jj_J E k n Q ws (pc) lv (.int y :: .int x :: rest) := fun H locs ls hP hD hS hl => lv_ishl hC.1 hC.2.1 hd  (hk H locs ls hP hD hS hl)
theorem jj_idiv (hC : jj_C cc nL ret Ts own rm tys E) {x y : Int32} (hd : decode cc pc = .ok (.idiv, 1)) (hne : ¬ y = 0) (hk : jj_J E k n Q ws (pc + 1) lv (.int (x / y) :: rest)) : jj_J E k n Q ws (pc) lv (.int y :: .int x :: rest) := fun H locs ls hP hD hS hl => lv_idiv hC.1 hC.2.1 hd hne (hk H locs ls hP hD hS hl)
theorem jj_irem (hC : jj_C cc nL ret Ts own rm tys E) {x y : Int32} (hd : decode cc pc = .ok (.irem, 1)) (hne : ¬ y = 0) (hk : jj_J E k n Q ws (pc + 1) lv (.int (x - x / y * y) :: rest)) : jj_J E k n Q ws (pc) lv (.int y :: .int x :: rest) := fun H locs ls hP hD hS hl => lv_irem hC.1 hC.2.1 hd hne (hk H locs ls hP hD hS hl)
theorem jj_iushr (hC : jj_C cc nL ret Ts own rm tys E) {x y v : Int32} (hd : decode cc pc = .ok (.iushr, 1)) (hv : (x.toUInt32 >>> (y.toUInt32 &&& Int32.toUInt32 31)).toInt32 = v) (hk : jj_J E k n Q ws (pc + 1) lv (.int v :: rest)) : jj_J E k n Q ws (pc) lv (.int y :: .int x :: rest) := fun H locs ls hP hD hS hl => lv_iushr hC.1 hC.2.1 hd hv (hk H locs ls hP hD hS hl)
theorem jj_ladd (hC : jj_C cc nL ret Ts own rm tys E) {x y : Int64} (hd : decode cc pc = .ok (.ladd, 1))  (hk : jj_J E k n Q ws (pc + 1) lv (.long (x + y) :: rest)) : jj_J E k n Q ws (pc) lv (.long y :: .long x :: rest) := fun H locs ls hP hD hS hl => lv_ladd hC.1 hC.2.1 hd  (hk H locs ls hP hD hS hl)
theorem jj_lmul (hC : jj_C cc nL ret Ts own rm tys E) {x y : Int64} (hd : decode cc pc = .ok (.lmul, 1))  (hk : jj_J E k n Q ws (pc + 1) lv (.long (x * y) :: rest)) : jj_J E k n Q ws (pc) lv (.long y :: .long x :: rest) := fun H locs ls hP hD hS hl => lv_lmul hC.1 hC.2.1 hd  (hk H locs ls hP hD hS hl)
theorem jj_i2l (hC : jj_C cc nL ret Ts own rm tys E) {x : Int32} (hd : decode cc pc = .ok (.i2l, 1))  (hk : jj_J E k n Q ws (pc + 1) lv (.long x.toInt64 :: rest)) : jj_J E k n Q ws (pc) lv (.int x :: rest) := fun H locs ls hP hD hS hl => lv_i2l hC.1 hC.2.1 hd rfl (hk H locs ls hP hD hS hl)
theorem jj_i2d (hC : jj_C cc nL ret Ts own rm tys E) {x : Int32} (hd : decode cc pc = .ok (.i2d, 1))  (hk : jj_J E k n Q ws (pc + 1) lv (.double (FP.i2d x) :: rest)) : jj_J E k n Q ws (pc) lv (.int x :: rest) := fun H locs ls hP hD hS hl => lv_i2d hC.1 hC.2.1 hd  (hk H locs ls hP hD hS hl)
theorem jj_ddiv (hC : jj_C cc nL ret Ts own rm tys E) {x y : UInt64} (hd : decode cc pc = .ok (.ddiv, 1)) (hne : vf_n64 (FP.ddiv x y)) (hk : jj_J E k n Q ws (pc + 1) lv (.double (FP.ddiv x y) :: rest)) : jj_J E k n Q ws (pc) lv (.double y :: .double x :: rest) := fun H locs ls hP hD hS hl => lv_ddiv hC.1 hC.2.1 hd hne (hk H locs ls hP hD hS hl)
theorem jj_lcmp (hC : jj_C cc nL ret Ts own rm tys E) {x y : Int64} (hd : decode cc pc = .ok (.lcmp, 1))  (hk : jj_J E k n Q ws (pc + 1) lv (.int (lg_cmp x y) :: rest)) : jj_J E k n Q ws (pc) lv (.long y :: .long x :: rest) := fun H locs ls hP hD hS hl => W.lcmp hC.1 hC.2.1 hd  (hk H locs ls hP hD hS hl)
theorem jj_dcmp (hC : jj_C cc nL ret Ts own rm tys E) {x y : UInt64} {op : CmpOp} (hd : decode cc pc = .ok (.dcmp op, 1))  (hk : jj_J E k n Q ws (pc + 1) lv (.int (Op.cmpValue (FP.dcmp x y) op) :: rest)) : jj_J E k n Q ws (pc) lv (.double y :: .double x :: rest) := fun H locs ls hP hD hS hl => lv_dcmp hC.1 hC.2.1 hd  (hk H locs ls hP hD hS hl)
theorem jj_dup (hC : jj_C cc nL ret Ts own rm tys E) {va : Value} (hd : decode cc pc = .ok (.dup, 1)) (h1 : va.category = 1) (hk : jj_J E k n Q ws (pc + 1) lv (va :: va :: rest)) : jj_J E k n Q ws (pc) lv (va :: rest) := fun H locs ls hP hD hS hl => lv_dup hC.1 hC.2.1 hd h1 (hk H locs ls hP hD hS hl)
theorem jj_pop (hC : jj_C cc nL ret Ts own rm tys E) {va : Value} (hd : decode cc pc = .ok (.pop, 1)) (h1 : va.category = 1) (hk : jj_J E k n Q ws (pc + 1) lv (rest)) : jj_J E k n Q ws (pc) lv (va :: rest) := fun H locs ls hP hD hS hl => lv_pop hC.1 hC.2.1 hd h1 (hk H locs ls hP hD hS hl)
theorem jj_dup2 (hC : jj_C cc nL ret Ts own rm tys E) {va vb : Value} (hd : decode cc pc = .ok (.dup2, 1)) (h1 : va.category = 1) (h2 : vb.category = 1) (hk : jj_J E k n Q ws (pc + 1) lv (va :: vb :: va :: vb :: rest)) : jj_J E k n Q ws (pc) lv (va :: vb :: rest) := fun H locs ls hP hD hS hl => lv_dup2_11 hC.1 hC.2.1 hd h1 h2 (hk H locs ls hP hD hS hl)
/-! numbers that are nI of a natural -/
theorem jj_iaddN (hC : jj_C cc nL ret Ts own rm tys E) {a b : Nat} (hd : decode cc pc = .ok (.iadd, 1)) (hk : jj_J E k n Q ws (pc + 1) lv (.int (nI (a + b)) :: rest)) : jj_J E k n Q ws (pc) lv (.int (nI b) :: .int (nI a) :: rest) := jj_iadd hC hd (jj_topi (nI_add a b) hk)
theorem jj_imulN (hC : jj_C cc nL ret Ts own rm tys E) {a b : Nat} (hd : decode cc pc = .ok (.imul, 1)) (hk : jj_J E k n Q ws (pc + 1) lv (.int (nI (a * b)) :: rest)) : jj_J E k n Q ws (pc) lv (.int (nI b) :: .int (nI a) :: rest) := jj_imul hC hd (jj_topi (pk_mul a b) hk)
theorem jj_isubN (hC : jj_C cc nL ret Ts own rm tys E) {a b : Nat} (hd : decode cc pc = .ok (.isub, 1)) (hle : b ≤ a) (hk : jj_J E k n Q ws (pc + 1) lv (.int (nI (a - b)) :: rest)) : jj_J E k n Q ws (pc) lv (.int (nI b) :: .int (nI a) :: rest) := jj_isub hC hd (jj_topi (pk_sub hle) hk)
theorem jj_idivN (hC : jj_C cc nL ret Ts own rm tys E) {a b : Nat} (hd : decode cc pc = .ok (.idiv, 1)) (ha : a < 2 ^ 31) (h0 : 0 < b) (hb : b < 2 ^ 31) (hk : jj_J E k n Q ws (pc + 1) lv (.int (nI (a / b)) :: rest)) : jj_J E k n Q ws (pc) lv (.int (nI b) :: .int (nI a) :: rest) := jj_idiv hC hd (nI_ne0 h0 hb) (jj_topi (pk_div ha h0 hb) hk)
theorem jj_iremN (hC : jj_C cc nL ret Ts own rm tys E) {a b : Nat} (hd : decode cc pc = .ok (.irem, 1)) (ha : a < 2 ^ 31) (h0 : 0 < b) (hb : b < 2 ^ 31) (hk : jj_J E k n Q ws (pc + 1) lv (.int (nI (a % b)) :: rest)) : jj_J E k n Q ws (pc) lv (.int (nI b) :: .int (nI a) :: rest) := jj_irem hC hd (nI_ne0 h0 hb) (jj_topi (pk_rem ha h0 hb) hk)
theorem jj_if_eq (hC : jj_C cc nL ret Ts own rm tys E) {x : Int32} {off : Int} {tgt : Nat} (hd : decode cc pc = .ok (.ifCond .eq off, 3)) (ht : (pc : Int) + off = (tgt : Int)) (kt : x = 0 → jj_J E k n Q ws (tgt) lv (rest)) (kf : ¬ x = 0 → jj_J E k n Q ws (pc + 3) lv (rest)) : jj_J E k n Q ws (pc) lv (.int x :: rest) := fun H locs ls hP hD hS hl => lv_if_eq hC.1 hC.2.1 hd ht (fun h => kt h H locs ls hP hD hS hl) (fun h => kf h H locs ls hP hD hS hl)
theorem jj_if_eqT (hC : jj_C cc nL ret Ts own rm tys E) {x : Int32} {off : Int} {tgt : Nat} (hd : decode cc pc = .ok (.ifCond .eq off, 3)) (ht : (pc : Int) + off = (tgt : Int)) (h : x = 0) (kt : jj_J E k n Q ws (tgt) lv (rest)) : jj_J E k n Q ws (pc) lv (.int x :: rest) := jj_if_eq hC hd ht (fun _ => kt) (fun h2 => absurd h h2)
theorem jj_if_eqF (hC : jj_C cc nL ret Ts own rm tys E) {x : Int32} {off : Int} {tgt : Nat} (hd : decode cc pc = .ok (.ifCond .eq off, 3)) (ht : (pc : Int) + off = (tgt : Int)) (h : ¬ x = 0) (kf : jj_J E k n Q ws (pc + 3) lv (rest)) : jj_J E k n Q ws (pc) lv (.int x :: rest) := jj_if_eq hC hd ht (fun h2 => absurd h2 h) (fun _ => kf)
theorem jj_if_ne (hC : jj_C cc nL ret Ts own rm tys E) {x : Int32} {off : Int} {tgt : Nat} (hd : decode cc pc = .ok (.ifCond .ne off, 3)) (ht : (pc : Int) + off = (tgt : Int)) (kt : ¬ x = 0 → jj_J E k n Q ws (tgt) lv (rest)) (kf : x = 0 → jj_J E k n Q ws (pc + 3) lv (rest)) : jj_J E k n Q ws (pc) lv (.int x :: rest) := fun H locs ls hP hD hS hl => lv_if_ne hC.1 hC.2.1 hd ht (fun h => kt h H locs ls hP hD hS hl) (fun h => kf h H locs ls hP hD hS hl)
theorem jj_if_neT (hC : jj_C cc nL ret Ts own rm tys E) {x : Int32} {off : Int} {tgt : Nat} (hd : decode cc pc = .ok (.ifCond .ne off, 3)) (ht : (pc : Int) + off = (tgt : Int)) (h : ¬ x = 0) (kt : jj_J E k n Q ws (tgt) lv (rest)) : jj_J E k n Q ws (pc) lv (.int x :: rest) := jj_if_ne hC hd ht (fun _ => kt) (fun h2 => absurd h2 h)
theorem jj_if_neF (hC : jj_C cc nL ret Ts own rm tys E) {x : Int32} {off : Int} {tgt : Nat} (hd : decode cc pc = .ok (.ifCond .ne off, 3)) (ht : (pc : Int) + off = (tgt : Int)) (h : x = 0) (kf : jj_J E k n Q ws (pc + 3) lv (rest)) : jj_J E k n Q ws (pc) lv (.int x :: rest) := jj_if_ne hC hd ht (fun h2 => absurd h h2) (fun _ => kf)
theorem jj_if_lt (hC : jj_C cc nL ret Ts own rm tys E) {x : Int32} {off : Int} {tgt : Nat} (hd : decode cc pc = .ok (.ifCond .lt off, 3)) (ht : (pc : Int) + off = (tgt : Int)) (kt : x < 0 → jj_J E k n Q ws (tgt) lv (rest)) (kf : ¬ x < 0 → jj_J E k n Q ws (pc + 3) lv (rest)) : jj_J E k n Q ws (pc) lv (.int x :: rest) := fun H locs ls hP hD hS hl => lv_if_lt hC.1 hC.2.1 hd ht (fun h => kt h H locs ls hP hD hS hl) (fun h => kf h H locs ls hP hD hS hl)
theorem jj_if_ltT (hC : jj_C cc nL ret Ts own rm tys E) {x : Int32} {off : Int} {tgt : Nat} (hd : decode cc pc = .ok (.ifCond .lt off, 3)) (ht : (pc : Int) + off = (tgt : Int)) (h : x < 0) (kt : jj_J E k n Q ws (tgt) lv (rest)) : jj_J E k n Q ws (pc) lv (.int x :: rest) := jj_if_lt hC hd ht (fun _ => kt) (fun h2 => absurd h h2)
theorem jj_if_ltF (hC : jj_C cc nL ret Ts own rm tys E) {x : Int32} {off : Int} {tgt : Nat} (hd : decode cc pc = .ok (.ifCond .lt off, 3)) (ht : (pc : Int) + off = (tgt : Int)) (h : ¬ x < 0) (kf : jj_J E k n Q ws (pc + 3) lv (rest)) : jj_J E k n Q ws (pc) lv (.int x :: rest) := jj_if_lt hC hd ht (fun h2 => absurd h2 h) (fun _ => kf)
theorem jj_if_ge (hC : jj_C cc nL ret Ts own rm tys E) {x : Int32} {off : Int} {tgt : Nat} (hd : decode cc pc = .ok (.ifCond .ge off, 3)) (ht : (pc : Int) + off = (tgt : Int)) (kt : 0 ≤ x → jj_J E k n Q ws (tgt) lv (rest)) (kf : ¬ 0 ≤ x → jj_J E k n Q ws (pc + 3) lv (rest)) : jj_J E k n Q ws (pc) lv (.int x :: rest) := fun H locs ls hP hD hS hl => lv_if_ge hC.1 hC.2.1 hd ht (fun h => kt h H locs ls hP hD hS hl) (fun h => kf h H locs ls hP hD hS hl)
theorem jj_if_geT (hC : jj_C cc nL ret Ts own rm tys E) {x : Int32} {off : Int} {tgt : Nat} (hd : decode cc pc = .ok (.ifCond .ge off, 3)) (ht : (pc : Int) + off = (tgt : Int)) (h : 0 ≤ x) (kt : jj_J E k n Q ws (tgt) lv (rest)) : jj_J E k n Q ws (pc) lv (.int x :: rest) := jj_if_ge hC hd ht (fun _ => kt) (fun h2 => absurd h h2)
theorem jj_if_geF (hC : jj_C cc nL ret Ts own rm tys E) {x : Int32} {off : Int} {tgt : Nat} (hd : decode cc pc = .ok (.ifCond .ge off, 3)) (ht : (pc : Int) + off = (tgt : Int)) (h : ¬ 0 ≤ x) (kf : jj_J E k n Q ws (pc + 3) lv (rest)) : jj_J E k n Q ws (pc) lv (.int x :: rest) := jj_if_ge hC hd ht (fun h2 => absurd h2 h) (fun _ => kf)
theorem jj_if_gt (hC : jj_C cc nL ret Ts own rm tys E) {x : Int32} {off : Int} {tgt : Nat} (hd : decode cc pc = .ok (.ifCond .gt off, 3)) (ht : (pc : Int) + off = (tgt : Int)) (kt : 0 < x → jj_J E k n Q ws (tgt) lv (rest)) (kf : ¬ 0 < x → jj_J E k n Q ws (pc + 3) lv (rest)) : jj_J E k n Q ws (pc) lv (.int x :: rest) := fun H locs ls hP hD hS hl => lv_if_gt hC.1 hC.2.1 hd ht (fun h => kt h H locs ls hP hD hS hl) (fun h => kf h H locs ls hP hD hS hl)
theorem jj_if_gtT (hC : jj_C cc nL ret Ts own rm tys E) {x : Int32} {off : Int} {tgt : Nat} (hd : decode cc pc = .ok (.ifCond .gt off, 3)) (ht : (pc : Int) + off = (tgt : Int)) (h : 0 < x) (kt : jj_J E k n Q ws (tgt) lv (rest)) : jj_J E k n Q ws (pc) lv (.int x :: rest) := jj_if_gt hC hd ht (fun _ => kt) (fun h2 => absurd h h2)
theorem jj_if_gtF (hC : jj_C cc nL ret Ts own rm tys E) {x : Int32} {off : Int} {tgt : Nat} (hd : decode cc pc = .ok (.ifCond .gt off, 3)) (ht : (pc : Int) + off = (tgt : Int)) (h : ¬ 0 < x) (kf : jj_J E k n Q ws (pc + 3) lv (rest)) : jj_J E k n Q ws (pc) lv (.int x :: rest) := jj_if_gt hC hd ht (fun h2 => absurd h2 h) (fun _ => kf)
theorem jj_if_le (hC : jj_C cc nL ret Ts own rm tys E) {x : Int32} {off : Int} {tgt : Nat} (hd : decode cc pc = .ok (.ifCond .le off, 3)) (ht : (pc : Int) + off = (tgt : Int)) (kt : x ≤ 0 → jj_J E k n Q ws (tgt) lv (rest)) (kf : ¬ x ≤ 0 → jj_J E k n Q ws (pc + 3) lv (rest)) : jj_J E k n Q ws (pc) lv (.int x :: rest) := fun H locs ls hP hD hS hl => lv_if_le hC.1 hC.2.1 hd ht (fun h => kt h H locs ls hP hD hS hl) (fun h => kf h H locs ls hP hD hS hl)
theorem jj_if_leT (hC : jj_C cc nL ret Ts own rm tys E) {x : Int32} {off : Int} {tgt : Nat} (hd : decode cc pc = .ok (.ifCond .le off, 3)) (ht : (pc : Int) + off = (tgt : Int)) (h : x ≤ 0) (kt : jj_J E k n Q ws (tgt) lv (rest)) : jj_J E k n Q ws (pc) lv (.int x :: rest) := jj_if_le hC hd ht (fun _ => kt) (fun h2 => absurd h h2)
theorem jj_if_leF (hC : jj_C cc nL ret Ts own rm tys E) {x : Int32} {off : Int} {tgt : Nat} (hd : decode cc pc = .ok (.ifCond .le off, 3)) (ht : (pc : Int) + off = (tgt : Int)) (h : ¬ x ≤ 0) (kf : jj_J E k n Q ws (pc + 3) lv (rest)) : jj_J E k n Q ws (pc) lv (.int x :: rest) := jj_if_le hC hd ht (fun h2 => absurd h2 h) (fun _ => kf)
theorem jj_icmp_eq (hC : jj_C cc nL ret Ts own rm tys E) {x y : Int32} {off : Int} {tgt : Nat} (hd : decode cc pc = .ok (.if_icmp .eq off, 3)) (ht : (pc : Int) + off = (tgt : Int)) (kt : x = y → jj_J E k n Q ws (tgt) lv (rest)) (kf : ¬ x = y → jj_J E k n Q ws (pc + 3) lv (rest)) : jj_J E k n Q ws (pc) lv (.int y :: .int x :: rest) := fun H locs ls hP hD hS hl => lv_icmp_eq hC.1 hC.2.1 hd ht (fun h => kt h H locs ls hP hD hS hl) (fun h => kf h H locs ls hP hD hS hl)
theorem jj_icmp_eqT (hC : jj_C cc nL ret Ts own rm tys E) {x y : Int32} {off : Int} {tgt : Nat} (hd : decode cc pc = .ok (.if_icmp .eq off, 3)) (ht : (pc : Int) + off = (tgt : Int)) (h : x = y) (kt : jj_J E k n Q ws (tgt) lv (rest)) : jj_J E k n Q ws (pc) lv (.int y :: .int x :: rest) := jj_icmp_eq hC hd ht (fun _ => kt) (fun h2 => absurd h h2)
theorem jj_icmp_eqF (hC : jj_C cc nL ret Ts own rm tys E) {x y : Int32} {off : Int} {tgt : Nat} (hd : decode cc pc = .ok (.if_icmp .eq off, 3)) (ht : (pc : Int) + off = (tgt : Int)) (h : ¬ x = y) (kf : jj_J E k n Q ws (pc + 3) lv (rest)) : jj_J E k n Q ws (pc) lv (.int y :: .int x :: rest) := jj_icmp_eq hC hd ht (fun h2 => absurd h2 h) (fun _ => kf)
theorem jj_icmp_eqN (hC : jj_C cc nL ret Ts own rm tys E) {a b : Nat} {off : Int} {tgt : Nat} (hd : decode cc pc = .ok (.if_icmp .eq off, 3)) (ht : (pc : Int) + off = (tgt : Int)) (ha : a < 2 ^ 31) (hb : b < 2 ^ 31) (kt : a = b → jj_J E k n Q ws (tgt) lv (rest)) (kf : ¬ a = b → jj_J E k n Q ws (pc + 3) lv (rest)) : jj_J E k n Q ws (pc) lv (.int (nI b) :: .int (nI a) :: rest) := jj_icmp_eq hC hd ht (fun h => kt ((nI_eq ha hb).mp h)) (fun h => kf (fun h2 => h ((nI_eq ha hb).mpr h2)))
theorem jj_icmp_ne (hC : jj_C cc nL ret Ts own rm tys E) {x y : Int32} {off : Int} {tgt : Nat} (hd : decode cc pc = .ok (.if_icmp .ne off, 3)) (ht : (pc : Int) + off = (tgt : Int)) (kt : ¬ x = y → jj_J E k n Q ws (tgt) lv (rest)) (kf : x = y → jj_J E k n Q ws (pc + 3) lv (rest)) : jj_J E k n Q ws (pc) lv (.int y :: .int x :: rest) := fun H locs ls hP hD hS hl => lv_icmp_ne hC.1 hC.2.1 hd ht (fun h => kt h H locs ls hP hD hS hl) (fun h => kf h H locs ls hP hD hS hl)
theorem jj_icmp_neT (hC : jj_C cc nL ret Ts own rm tys E) {x y : Int32} {off : Int} {tgt : Nat} (hd : decode cc pc = .ok (.if_icmp .ne off, 3)) (ht : (pc : Int) + off = (tgt : Int)) (h : ¬ x = y) (kt : jj_J E k n Q ws (tgt) lv (rest)) : jj_J E k n Q ws (pc) lv (.int y :: .int x :: rest) := jj_icmp_ne hC hd ht (fun _ => kt) (fun h2 => absurd h2 h)
theorem jj_icmp_neF (hC : jj_C cc nL ret Ts own rm tys E) {x y : Int32} {off : Int} {tgt : Nat} (hd : decode cc pc = .ok (.if_icmp .ne off, 3)) (ht : (pc : Int) + off = (tgt : Int)) (h : x = y) (kf : jj_J E k n Q ws (pc + 3) lv (rest)) : jj_J E k n Q ws (pc) lv (.int y :: .int x :: rest) := jj_icmp_ne hC hd ht (fun h2 => absurd h h2) (fun _ => kf)
theorem jj_icmp_neN (hC : jj_C cc nL ret Ts own rm tys E) {a b : Nat} {off : Int} {tgt : Nat} (hd : decode cc pc = .ok (.if_icmp .ne off, 3)) (ht : (pc : Int) + off = (tgt : Int)) (ha : a < 2 ^ 31) (hb : b < 2 ^ 31) (kt : ¬ a = b → jj_J E k n Q ws (tgt) lv (rest)) (kf : a = b → jj_J E k n Q ws (pc + 3) lv (rest)) : jj_J E k n Q ws (pc) lv (.int (nI b) :: .int (nI a) :: rest) := jj_icmp_ne hC hd ht (fun h => kt (fun h2 => h ((nI_eq ha hb).mpr h2))) (fun h => kf ((nI_eq ha hb).mp h))
theorem jj_icmp_lt (hC : jj_C cc nL ret Ts own rm tys E) {x y : Int32} {off : Int} {tgt : Nat} (hd : decode cc pc = .ok (.if_icmp .lt off, 3)) (ht : (pc : Int) + off = (tgt : Int)) (kt : x < y → jj_J E k n Q ws (tgt) lv (rest)) (kf : ¬ x < y → jj_J E k n Q ws (pc + 3) lv (rest)) : jj_J E k n Q ws (pc) lv (.int y :: .int x :: rest) := fun H locs ls hP hD hS hl => lv_icmp_lt hC.1 hC.2.1 hd ht (fun h => kt h H locs ls hP hD hS hl) (fun h => kf h H locs ls hP hD hS hl)
theorem jj_icmp_ltT (hC : jj_C cc nL ret Ts own rm tys E) {x y : Int32} {off : Int} {tgt : Nat} (hd : decode cc pc = .ok (.if_icmp .lt off, 3)) (ht : (pc : Int) + off = (tgt : Int)) (h : x < y) (kt : jj_J E k n Q ws (tgt) lv (rest)) : jj_J E k n Q ws (pc) lv (.int y :: .int x :: rest) := jj_icmp_lt hC hd ht (fun _ => kt) (fun h2 => absurd h h2)
theorem jj_icmp_ltF (hC : jj_C cc nL ret Ts own rm tys E) {x y : Int32} {off : Int} {tgt : Nat} (hd : decode cc pc = .ok (.if_icmp .lt off, 3)) (ht : (pc : Int) + off = (tgt : Int)) (h : ¬ x < y) (kf : jj_J E k n Q ws (pc + 3) lv (rest)) : jj_J E k n Q ws (pc) lv (.int y :: .int x :: rest) := jj_icmp_lt hC hd ht (fun h2 => absurd h2 h) (fun _ => kf)
theorem jj_icmp_ltN (hC : jj_C cc nL ret Ts own rm tys E) {a b : Nat} {off : Int} {tgt : Nat} (hd : decode cc pc = .ok (.if_icmp .lt off, 3)) (ht : (pc : Int) + off = (tgt : Int)) (ha : a < 2 ^ 31) (hb : b < 2 ^ 31) (kt : a < b → jj_J E k n Q ws (tgt) lv (rest)) (kf : b ≤ a → jj_J E k n Q ws (pc + 3) lv (rest)) : jj_J E k n Q ws (pc) lv (.int (nI b) :: .int (nI a) :: rest) := jj_icmp_lt hC hd ht (fun h => kt ((nI_ltI ha hb).mp h)) (fun h => kf (Nat.not_lt.mp (fun h2 => h ((nI_ltI ha hb).mpr h2))))
theorem jj_icmp_ge (hC : jj_C cc nL ret Ts own rm tys E) {x y : Int32} {off : Int} {tgt : Nat} (hd : decode cc pc = .ok (.if_icmp .ge off, 3)) (ht : (pc : Int) + off = (tgt : Int)) (kt : y ≤ x → jj_J E k n Q ws (tgt) lv (rest)) (kf : ¬ y ≤ x → jj_J E k n Q ws (pc + 3) lv (rest)) : jj_J E k n Q ws (pc) lv (.int y :: .int x :: rest) := fun H locs ls hP hD hS hl => lv_icmp_ge hC.1 hC.2.1 hd ht (fun h => kt h H locs ls hP hD hS hl) (fun h => kf h H locs ls hP hD hS hl)
theorem jj_icmp_geT (hC : jj_C cc nL ret Ts own rm tys E) {x y : Int32} {off : Int} {tgt : Nat} (hd : decode cc pc = .ok (.if_icmp .ge off, 3)) (ht : (pc : Int) + off = (tgt : Int)) (h : y ≤ x) (kt : jj_J E k n Q ws (tgt) lv (rest)) : jj_J E k n Q ws (pc) lv (.int y :: .int x :: rest) := jj_icmp_ge hC hd ht (fun _ => kt) (fun h2 => absurd h h2)
theorem jj_icmp_geF (hC : jj_C cc nL ret Ts own rm tys E) {x y : Int32} {off : Int} {tgt : Nat} (hd : decode cc pc = .ok (.if_icmp .ge off, 3)) (ht : (pc : Int) + off = (tgt : Int)) (h : ¬ y ≤ x) (kf : jj_J E k n Q ws (pc + 3) lv (rest)) : jj_J E k n Q ws (pc) lv (.int y :: .int x :: rest) := jj_icmp_ge hC hd ht (fun h2 => absurd h2 h) (fun _ => kf)
theorem jj_icmp_geN (hC : jj_C cc nL ret Ts own rm tys E) {a b : Nat} {off : Int} {tgt : Nat} (hd : decode cc pc = .ok (.if_icmp .ge off, 3)) (ht : (pc : Int) + off = (tgt : Int)) (ha : a < 2 ^ 31) (hb : b < 2 ^ 31) (kt : b ≤ a → jj_J E k n Q ws (tgt) lv (rest)) (kf : a < b → jj_J E k n Q ws (pc + 3) lv (rest)) : jj_J E k n Q ws (pc) lv (.int (nI b) :: .int (nI a) :: rest) := jj_icmp_ge hC hd ht (fun h => kt ((nI_leI hb ha).mp h)) (fun h => kf (Nat.not_le.mp (fun h2 => h ((nI_leI hb ha).mpr h2))))
theorem jj_icmp_gt (hC : jj_C cc nL ret Ts own rm tys E) {x y : Int32} {off : Int} {tgt : Nat} (hd : decode cc pc = .ok (.if_icmp .gt off, 3)) (ht : (pc : Int) + off = (tgt : Int)) (kt : y < x → jj_J E k n Q ws (tgt) lv (rest)) (kf : ¬ y < x → jj_J E k n Q ws (pc + 3) lv (rest)) : jj_J E k n Q ws (pc) lv (.int y :: .int x :: rest) := fun H locs ls hP hD hS hl => lv_icmp_gt hC.1 hC.2.1 hd ht (fun h => kt h H locs ls hP hD hS hl) (fun h => kf h H locs ls hP hD hS hl)
theorem jj_icmp_gtT (hC : jj_C cc nL ret Ts own rm tys E) {x y : Int32} {off : Int} {tgt : Nat} (hd : decode cc pc = .ok (.if_icmp .gt off, 3)) (ht : (pc : Int) + off = (tgt : Int)) (h : y < x) (kt : jj_J E k n Q ws (tgt) lv (rest)) : jj_J E k n Q ws (pc) lv (.int y :: .int x :: rest) := jj_icmp_gt hC hd ht (fun _ => kt) (fun h2 => absurd h h2)
theorem jj_icmp_gtF (hC : jj_C cc nL ret Ts own rm tys E) {x y : Int32} {off : Int} {tgt : Nat} (hd : decode cc pc = .ok (.if_icmp .gt off, 3)) (ht : (pc : Int) + off = (tgt : Int)) (h : ¬ y < x) (kf : jj_J E k n Q ws (pc + 3) lv (rest)) : jj_J E k n Q ws (pc) lv (.int y :: .int x :: rest) := jj_icmp_gt hC hd ht (fun h2 => absurd h2 h) (fun _ => kf)
theorem jj_icmp_gtN (hC : jj_C cc nL ret Ts own rm tys E) {a b : Nat} {off : Int} {tgt : Nat} (hd : decode cc pc = .ok (.if_icmp .gt off, 3)) (ht : (pc : Int) + off = (tgt : Int)) (ha : a < 2 ^ 31) (hb : b < 2 ^ 31) (kt : b < a → jj_J E k n Q ws (tgt) lv (rest)) (kf : a ≤ b → jj_J E k n Q ws (pc + 3) lv (rest)) : jj_J E k n Q ws (pc) lv (.int (nI b) :: .int (nI a) :: rest) := jj_icmp_gt hC hd ht (fun h => kt ((nI_ltI hb ha).mp h)) (fun h => kf (Nat.not_lt.mp (fun h2 => h ((nI_ltI hb ha).mpr h2))))
theorem jj_icmp_le (hC : jj_C cc nL ret Ts own rm tys E) {x y : Int32} {off : Int} {tgt : Nat} (hd : decode cc pc = .ok (.if_icmp .le off, 3)) (ht : (pc : Int) + off = (tgt : Int)) (kt : x ≤ y → jj_J E k n Q ws (tgt) lv (rest)) (kf : ¬ x ≤ y → jj_J E k n Q ws (pc + 3) lv (rest)) : jj_J E k n Q ws (pc) lv (.int y :: .int x :: rest) := fun H locs ls hP hD hS hl => lv_icmp_le hC.1 hC.2.1 hd ht (fun h => kt h H locs ls hP hD hS hl) (fun h => kf h H locs ls hP hD hS hl)
theorem jj_icmp_leT (hC : jj_C cc nL ret Ts own rm tys E) {x y : Int32} {off : Int} {tgt : Nat} (hd : decode cc pc = .ok (.if_icmp .le off, 3)) (ht : (pc : Int) + off = (tgt : Int)) (h : x ≤ y) (kt : jj_J E k n Q ws (tgt) lv (rest)) : jj_J E k n Q ws (pc) lv (.int y :: .int x :: rest) := jj_icmp_le hC hd ht (fun _ => kt) (fun h2 => absurd h h2)
theorem jj_icmp_leF (hC : jj_C cc nL ret Ts own rm tys E) {x y : Int32} {off : Int} {tgt : Nat} (hd : decode cc pc = .ok (.if_icmp .le off, 3)) (ht : (pc : Int) + off = (tgt : Int)) (h : ¬ x ≤ y) (kf : jj_J E k n Q ws (pc + 3) lv (rest)) : jj_J E k n Q ws (pc) lv (.int y :: .int x :: rest) := jj_icmp_le hC hd ht (fun h2 => absurd h2 h) (fun _ => kf)
theorem jj_icmp_leN (hC : jj_C cc nL ret Ts own rm tys E) {a b : Nat} {off : Int} {tgt : Nat} (hd : decode cc pc = .ok (.if_icmp .le off, 3)) (ht : (pc : Int) + off = (tgt : Int)) (ha : a < 2 ^ 31) (hb : b < 2 ^ 31) (kt : a ≤ b → jj_J E k n Q ws (tgt) lv (rest)) (kf : b < a → jj_J E k n Q ws (pc + 3) lv (rest)) : jj_J E k n Q ws (pc) lv (.int (nI b) :: .int (nI a) :: rest) := jj_icmp_le hC hd ht (fun h => kt ((nI_leI ha hb).mp h)) (fun h => kf (Nat.not_le.mp (fun h2 => h ((nI_leI ha hb).mpr h2))))
theorem jj_goto (hC : jj_C cc nL ret Ts own rm tys E) {off : Int} {tgt : Nat} (hd : decode cc pc = .ok (.goto off, 3)) (ht : (pc : Int) + off = (tgt : Int)) (hk : jj_J E k n Q ws (tgt) lv (rest)) : jj_J E k n Q ws (pc) lv (rest) := fun H locs ls hP hD hS hl => lv_goto hC.1 hC.2.1 hd ht (hk H locs ls hP hD hS hl)
theorem jj_tableIn (hC : jj_C cc nL ret Ts own rm tys E) {dflt lo hi : Int} {offs : Array Int} {len : Nat} {x : Int32} {off : Int} {tgt : Nat} (hd : decode cc pc = .ok (.tableswitch dflt lo hi offs, len)) (h1 : ¬ x.toInt < lo) (h2 : ¬ hi < x.toInt) (ho : offs[(x.toInt - lo).toNat]? = some off) (ht : (pc : Int) + off = (tgt : Int)) (hk : jj_J E k n Q ws (tgt) lv (rest)) : jj_J E k n Q ws (pc) lv (.int x :: rest) := fun H locs ls hP hD hS hl => lv_tableIn hC.1 hC.2.1 hd h1 h2 ho ht (hk H locs ls hP hD hS hl)
theorem jj_tableOut (hC : jj_C cc nL ret Ts own rm tys E) {dflt lo hi : Int} {offs : Array Int} {len : Nat} {x : Int32} {tgt : Nat} (hd : decode cc pc = .ok (.tableswitch dflt lo hi offs, len)) (h : x.toInt < lo ∨ hi < x.toInt) (ht : (pc : Int) + dflt = (tgt : Int)) (hk : jj_J E k n Q ws (tgt) lv (rest)) : jj_J E k n Q ws (pc) lv (.int x :: rest) := fun H locs ls hP hD hS hl => lv_tableOut hC.1 hC.2.1 hd h ht (hk H locs ls hP hD hS hl)
/-! the cells -/
theorem jj_get (hC : jj_C cc nL ret Ts own rm tys E) {a : Nat} {index ci : Nat} {C0 : String} {T : u_T} {N : Nat} {fs : List Value} {v : Value} (q0 f : Nat) (hd : decode cc pc = .ok (.getfield index, 3)) (he : ws[q0]? = some (a, .inr (ci, fs))) (hc : vwCl[ci]? = some (C0, T, N)) (hf : f < N) (hlink : .fieldLink own index C0 (T f).2.1 (T f).2.2.1 ∈ Ts) (hown : (T f).1 = C0) (hin : ∀ w ∈ u_ws C0 T N, w ∈ Ts) (hv : fs[f]? = some v) (hk : jj_J E k n Q ws (pc + 3) lv (v :: rest)) : jj_J E k n Q ws (pc) lv (.ref a :: rest) := fun H locs ls hP hD hS hl => va_get (ref := C0) hC.1 hC.2.1 hC.2.2.2.2.1 hin hC.2.2.2.1 hC.2.2.2.2.2.1 hP q0 he hc f hf (hC.2.2.2.2.1 _ hlink) (by rw [hown]; exact fun _ h => h) hv hd (hk H locs ls hP hD hS hl)
theorem jj_put (hC : jj_C cc nL ret Ts own rm tys E) {a : Nat} {index ci : Nat} {C0 : String} {T : u_T} {N : Nat} {fs : List Value} {v : Value} {ty : FieldType} {ty0 : Nat → FieldType} {ws' : va_W} (q0 f : Nat) (hd : decode cc pc = .ok (.putfield index, 3)) (he : ws[q0]? = some (a, .inr (ci, fs))) (hc : vwCl[ci]? = some (C0, T, N)) (hf : f < N) (hlink : .fieldLink own index C0 (T f).2.1 (T f).2.2.1 ∈ Ts) (hown : (T f).1 = C0) (hin : ∀ w ∈ u_ws C0 T N, w ∈ Ts) (hty : ∀ k, k < N → parseFieldDescriptor (T k).2.2.1 = some (ty0 k)) (hnm : ∀ a, a < N → ∀ b, b < N → a ≠ b → (T a).2.1 ≠ (T b).2.1) (hfin : (T f).2.2.2 = false) (hty2 : ty0 f = ty) (hn : narrow ty v = v) (hfit : fits ty v = true) (hl9 : f < fs.length) (hws : ws.set q0 (a, .inr (ci, fs.set f v)) = ws') (hk : jj_J E k n Q ws' (pc + 3) lv rest) : jj_J E k n Q ws (pc) lv (v :: .ref a :: rest) := by
  subst hws
  subst hty2
  exact fun H locs ls hP hD hS hl => va_put (ref := C0) hC.1 hC.2.1 hC.2.2.2.2.1 hin ty0 hty hnm hC.2.2.2.1 hC.2.2.2.2.2.1 hP hD hS q0 he hc f hf (hC.2.2.2.2.1 _ hlink) (by rw [hown]; exact fun _ h => h) hfin (hty f hf) hn hfit hl9 hd (fun H1 locs1 hP1 hD1 hS1 => hk H1 locs1 ls hP1 hD1 hS1 hl)
theorem jj_putF (hC : jj_C cc nL ret Ts own rm tys E) {a : Nat} {index ci : Nat} {C0 : String} {T : u_T} {N : Nat} {fs : List Value} {v : Value} {ty : FieldType} {ty0 : Nat → FieldType} {ws' : va_W} (hini : E.2.1.2.2.2.2.1.name = "<init>") (ho9 : C0 = own) (q0 f : Nat) (hd : decode cc pc = .ok (.putfield index, 3)) (he : ws[q0]? = some (a, .inr (ci, fs))) (hc : vwCl[ci]? = some (C0, T, N)) (hf : f < N) (hlink : .fieldLink own index C0 (T f).2.1 (T f).2.2.1 ∈ Ts) (hown : (T f).1 = C0) (hin : ∀ w ∈ u_ws C0 T N, w ∈ Ts) (hty : ∀ k, k < N → parseFieldDescriptor (T k).2.2.1 = some (ty0 k)) (hnm : ∀ a, a < N → ∀ b, b < N → a ≠ b → (T a).2.1 ≠ (T b).2.1) (hfin : (T f).2.2.2 = true) (hty2 : ty0 f = ty) (hn : narrow ty v = v) (hfit : fits ty v = true) (hl9 : f < fs.length) (hws : ws.set q0 (a, .inr (ci, fs.set f v)) = ws') (hk : jj_J E k n Q ws' (pc + 3) lv rest) : jj_J E k n Q ws (pc) lv (v :: .ref a :: rest) := by
  subst hws
  subst hty2
  exact fun H locs ls hP hD hS hl => va_putF (ref := C0) hC.1 hC.2.1 hC.2.2.2.2.1 hin ty0 hty hnm hC.2.2.2.1 hC.2.2.2.2.2.1 hP hD hS q0 he hc f hf (hC.2.2.2.2.1 _ hlink) (by rw [hown]; exact fun _ h => h) hfin hini (hown.trans ho9) (hty f hf) hn hfit hl9 hd (fun H1 locs1 hP1 hD1 hS1 => hk H1 locs1 ls hP1 hD1 hS1 hl)
theorem jj_iald (hC : jj_C cc nL ret Ts own rm tys E) {a : Nat} {cA : ClassId} {N : Nat} {f : Nat → Int32} {i : Nat} (q0 t0 : Nat) (hd : decode cc pc = .ok (.iaload, 1)) (he : ws[q0]? = some (a, .inl (cA, N, .inl f))) (ht : tys[t0]? = some (cA, .int)) (hi : i < N) (hN : N < 2 ^ 31) (hk : jj_J E k n Q ws (pc + 1) lv (.int (f i) :: rest)) : jj_J E k n Q ws (pc) lv (.int (nI i) :: .ref a :: rest) := fun H locs ls hP hD hS hl => va_iald hC.1 hC.2.1 hC.2.2.2.2.2.1 hP q0 t0 he ht (vp_in_nI hi hN) hd (by rw [nI_clamp (Nat.lt_trans hi hN)]; exact hk H locs ls hP hD hS hl)
theorem jj_iast (hC : jj_C cc nL ret Ts own rm tys E) {a : Nat} {cA : ClassId} {N : Nat} {f : Nat → Int32} {i : Nat} {x : Int32} {ws' : va_W} (q0 t0 : Nat) (hd : decode cc pc = .ok (.iastore, 1)) (he : ws[q0]? = some (a, .inl (cA, N, .inl f))) (ht : tys[t0]? = some (cA, .int)) (hi : i < N) (hN : N < 2 ^ 31) (hws : ws.set q0 (a, .inl (cA, N, .inl (upd f i x))) = ws') (hk : jj_J E k n Q ws' (pc + 1) lv rest) : jj_J E k n Q ws (pc) lv (.int x :: .int (nI i) :: .ref a :: rest) := by
  subst hws
  exact fun H locs ls hP hD hS hl => va_iast hC.1 hC.2.1 hC.2.2.2.2.2.1 hP hD hS q0 t0 he ht (vp_in_nI hi hN) hd (by rw [nI_clamp (Nat.lt_trans hi hN)]; exact fun H1 locs1 hP1 hD1 hS1 => hk H1 locs1 ls hP1 hD1 hS1 hl)
theorem jj_lald (hC : jj_C cc nL ret Ts own rm tys E) {a : Nat} {cA : ClassId} {N : Nat} {f : Nat → Int64} {i : Nat} (q0 t0 : Nat) (hd : decode cc pc = .ok (.laload, 1)) (he : ws[q0]? = some (a, .inl (cA, N, .inr (.inl f)))) (ht : tys[t0]? = some (cA, .long)) (hi : i < N) (hN : N < 2 ^ 31) (hk : jj_J E k n Q ws (pc + 1) lv (.long (f i) :: rest)) : jj_J E k n Q ws (pc) lv (.int (nI i) :: .ref a :: rest) := fun H locs ls hP hD hS hl => va_lald hC.1 hC.2.1 hC.2.2.2.2.2.1 hP q0 t0 he ht (vp_in_nI hi hN) hd (by rw [nI_clamp (Nat.lt_trans hi hN)]; exact hk H locs ls hP hD hS hl)
theorem jj_last (hC : jj_C cc nL ret Ts own rm tys E) {a : Nat} {cA : ClassId} {N : Nat} {f : Nat → Int64} {i : Nat} {x : Int64} {ws' : va_W} (q0 t0 : Nat) (hd : decode cc pc = .ok (.lastore, 1)) (he : ws[q0]? = some (a, .inl (cA, N, .inr (.inl f)))) (ht : tys[t0]? = some (cA, .long)) (hi : i < N) (hN : N < 2 ^ 31) (hws : ws.set q0 (a, .inl (cA, N, .inr (.inl (vp_updL f i x)))) = ws') (hk : jj_J E k n Q ws' (pc + 1) lv rest) : jj_J E k n Q ws (pc) lv (.long x :: .int (nI i) :: .ref a :: rest) := by
  subst hws
  exact fun H locs ls hP hD hS hl => va_last hC.1 hC.2.1 hC.2.2.2.2.2.1 hP hD hS q0 t0 he ht (vp_in_nI hi hN) hd (by rw [nI_clamp (Nat.lt_trans hi hN)]; exact fun H1 locs1 hP1 hD1 hS1 => hk H1 locs1 ls hP1 hD1 hS1 hl)
theorem jj_aald (hC : jj_C cc nL ret Ts own rm tys E) {a y : Nat} {cA : ClassId} {ty : FieldType} {N : Nat} {f : Nat → Option Nat} {i : Nat} (q0 t0 : Nat) (hd : decode cc pc = .ok (.aaload, 1)) (he : ws[q0]? = some (a, .inl (cA, N, .inr (.inr (.inr (.inr f)))))) (ht : tys[t0]? = some (cA, ty)) (hty : ty.isReference = true) (hi : i < N) (hN : N < 2 ^ 31) (hf : f i = some y) (hk : jj_J E k n Q ws (pc + 1) lv (.ref y :: rest)) : jj_J E k n Q ws (pc) lv (.int (nI i) :: .ref a :: rest) := by
  intro H locs ls hP hD hS hl
  have hin : vp_in (nI i) N := vp_in_nI hi hN
  have hlt : (nI i).toNatClampNeg < N := by rw [nI_clamp (Nat.lt_trans hi hN)]; exact hi
  refine W.aald (v := va_rf (f (nI i).toNatClampNeg)) (ty := ty) hC.1 hC.2.1 (hP q0 _ he) ((hC.2.2.2.2.2.1.2 t0 _ ht).1 N (fun j => va_rf (f j))) hty (fun q => by cases q) (by show ¬ (nI i < 0 ∨ (arrV _ _ _).slots.size ≤ _); rw [arrV_size]; exact hin) (by show (arrV _ _ _).slots[_]? = _; rw [arrV_read _ _ hlt]) rfl rfl hd ?_
  rw [nI_clamp (Nat.lt_trans hi hN), hf]
  exact hk H locs ls hP hD hS hl
theorem jj_alen (hC : jj_C cc nL ret Ts own rm tys E) {a : Nat} {cA : ClassId} {x : vp_A} {ty : FieldType} (q0 t0 : Nat) (hd : decode cc pc = .ok (.arraylength, 1)) (he : ws[q0]? = some (a, .inl (cA, x))) (ht : tys[t0]? = some (cA, ty)) (hk : jj_J E k n Q ws (pc + 1) lv (.int (nI x.1) :: rest)) : jj_J E k n Q ws (pc) lv (.ref a :: rest) := fun H locs ls hP hD hS hl => va_alen hC.1 hC.2.1 hC.2.2.2.2.2.1 hP q0 t0 he ht rfl hd (hk H locs ls hP hD hS hl)
theorem jj_mmax (hC : jj_C cc nL ret Ts own rm tys E) {index : Nat} {x y : Int32} (hd : decode cc pc = .ok (.invokestatic index, 3)) (h1 : .methodLink own index Lib.Math.max.name ∈ Ts) (h2 : .static Lib.Math.max.name ∈ Ts) (h3 : .initialized "java/lang/Math" ∈ Ts) (h4 : .code Lib.Math.max.name Lib.Math.max.code 2 (some .int) ∈ Ts) (hR : 1 ≤ rm.frames ∧ (rest.map fun v => v.category).sum + 13 ≤ rm.locals ∧ k ≤ rm.cells ∧ n ≤ rm.slots) (hk : jj_J E k n Q ws (pc + 3) lv (.int (if x < y then y else x) :: rest)) : jj_J E k n Q ws (pc) lv (.int y :: .int x :: rest) := fun H locs ls hP hD hS hl => va_mmax hC.1 hC.2.1 hl.1.symm hC.2.2.2.1 (hC.2.2.2.2.1 _ h1) (hC.2.2.2.2.1 _ h2) (hC.2.2.2.2.1 _ h3) (hC.2.2.2.2.1 _ h4) (by rw [hC.2.2.2.2.2.2.2.2.2]; exact hR.1) (by rw [hC.2.2.2.2.2.2.2.2.2]; exact hR.2.1) (by rw [hC.2.2.2.2.2.2.2.2.2]; exact hR.2.2.1) (by rw [hC.2.2.2.2.2.2.2.2.2]; exact hR.2.2.2) hd (hk H locs ls hP hD hS hl)
theorem jj_mmax_eq {a b : Nat} (ha : a < 2 ^ 31) (hb : b < 2 ^ 31) : (if nI a < nI b then nI b else nI a) = nI (max a b) := by
  by_cases h : a < b
  · rw [if_pos ((nI_ltI ha hb).mpr h), show max a b = b by omega]
  · rw [if_neg (fun q => h ((nI_ltI ha hb).mp q)), show max a b = a by omega]
theorem jj_mmin (hC : jj_C cc nL ret Ts own rm tys E) {index : Nat} {x y : Int32} (hd : decode cc pc = .ok (.invokestatic index, 3)) (h1 : .methodLink own index Lib.Math.min.name ∈ Ts) (h2 : .static Lib.Math.min.name ∈ Ts) (h3 : .initialized "java/lang/Math" ∈ Ts) (h4 : .code Lib.Math.min.name Lib.Math.min.code 2 (some .int) ∈ Ts) (hR : 1 ≤ rm.frames ∧ (rest.map fun v => v.category).sum + 13 ≤ rm.locals ∧ k ≤ rm.cells ∧ n ≤ rm.slots) (hk : jj_J E k n Q ws (pc + 3) lv (.int (if y < x then y else x) :: rest)) : jj_J E k n Q ws (pc) lv (.int y :: .int x :: rest) := fun H locs ls hP hD hS hl => va_mmin hC.1 hC.2.1 hl.1.symm hC.2.2.2.1 (hC.2.2.2.2.1 _ h1) (hC.2.2.2.2.1 _ h2) (hC.2.2.2.2.1 _ h3) (hC.2.2.2.2.1 _ h4) (by rw [hC.2.2.2.2.2.2.2.2.2]; exact hR.1) (by rw [hC.2.2.2.2.2.2.2.2.2]; exact hR.2.1) (by rw [hC.2.2.2.2.2.2.2.2.2]; exact hR.2.2.1) (by rw [hC.2.2.2.2.2.2.2.2.2]; exact hR.2.2.2) hd (hk H locs ls hP hD hS hl)
theorem jj_mmin_eq {a b : Nat} (ha : a < 2 ^ 31) (hb : b < 2 ^ 31) : (if nI b < nI a then nI b else nI a) = nI (min a b) := by
  by_cases h : b < a
  · rw [if_pos ((nI_ltI hb ha).mpr h), show min a b = b by omega]
  · rw [if_neg (fun q => h ((nI_ltI hb ha).mp q)), show min a b = a by omega]
theorem jj_iincN (hC : jj_C cc nL ret Ts own rm tys E) {i d9 : Nat} {d : Int} {x : Nat} (hd : decode cc pc = .ok (.iinc i d, 3)) (h : jj_lk lv i = some (.int (nI x))) (hd9 : Int32.ofInt d = nI d9) (hn : i < nL) (ks : List Nat) {lv' : List (Nat × Value)} (hl2 : lv_pick ((i, Value.int (nI (x + d9))) :: lv.filter (fun q => !(q.1 == i) && !(q.1 + 1 == i && q.2.category == 2))) ks = lv') (hk : jj_J E k n Q ws (pc + 3) lv' (rest)) : jj_J E k n Q ws (pc) lv (rest) := jj_iinc hC hd h (by rw [hd9, nI_add]) hn ks hl2 hk
/-- a boolean as the machine has it -/
def ts_b (b : Bool) : Int32 := if b then 1 else 0
theorem ts_b0 (b : Bool) : ts_b b = 0 ↔ b = false := by cases b <;> decide
theorem jj_if_eqB (hC : jj_C cc nL ret Ts own rm tys E) {b : Bool} {off : Int} {tgt : Nat} (hd : decode cc pc = .ok (.ifCond .eq off, 3)) (ht : (pc : Int) + off = (tgt : Int)) (kt : b = false → jj_J E k n Q ws (tgt) lv (rest)) (kf : b = true → jj_J E k n Q ws (pc + 3) lv (rest)) : jj_J E k n Q ws (pc) lv (.int (ts_b b) :: rest) := jj_if_eq hC hd ht (fun h => kt ((ts_b0 b).mp h)) (fun h => kf (by cases b with | true => rfl | false => exact absurd rfl h))
theorem jj_if_neB (hC : jj_C cc nL ret Ts own rm tys E) {b : Bool} {off : Int} {tgt : Nat} (hd : decode cc pc = .ok (.ifCond .ne off, 3)) (ht : (pc : Int) + off = (tgt : Int)) (kt : b = true → jj_J E k n Q ws (tgt) lv (rest)) (kf : b = false → jj_J E k n Q ws (pc + 3) lv (rest)) : jj_J E k n Q ws (pc) lv (.int (ts_b b) :: rest) := jj_if_ne hC hd ht (fun h => kt (by cases b with | true => rfl | false => exact absurd rfl h)) (fun h => kf ((ts_b0 b).mp h))
end JJ
end
section
/-! ===== the one mathematical state of a museum, and the cells that hold it in the class (wx) and in the reference (wm) ===== -/
/-- (thimbles, collectors, week, agreed, refused), the thimbles' columns (set, number, hallmark, state, owner, till, weeks), (likings, grudges, swaps) -/
abbrev ts_V : Type := (Nat × Nat × Int32 × Int32 × Int32) × ((Nat → Nat) × (Nat → Nat) × (Nat → Nat) × (Nat → Nat) × (Nat → Nat) × (Nat → Int32) × (Nat → Int32)) × ((Nat → Nat → Nat) × (Nat → Nat → Nat) × (Nat → Int32))
abbrev ts_n (v : ts_V) : Nat := v.1.1
abbrev ts_k (v : ts_V) : Nat := v.1.2.1
abbrev ts_w (v : ts_V) : Int32 := v.1.2.2.1
abbrev ts_ag (v : ts_V) : Int32 := v.1.2.2.2.1
abbrev ts_rf (v : ts_V) : Int32 := v.1.2.2.2.2
abbrev ts_se (v : ts_V) : Nat → Nat := v.2.1.1
abbrev ts_nu (v : ts_V) : Nat → Nat := v.2.1.2.1
abbrev ts_ha (v : ts_V) : Nat → Nat := v.2.1.2.2.1
abbrev ts_st (v : ts_V) : Nat → Nat := v.2.1.2.2.2.1
abbrev ts_ow (v : ts_V) : Nat → Nat := v.2.1.2.2.2.2.1
abbrev ts_ti (v : ts_V) : Nat → Int32 := v.2.1.2.2.2.2.2.1
abbrev ts_wk (v : ts_V) : Nat → Int32 := v.2.1.2.2.2.2.2.2
abbrev ts_li (v : ts_V) : Nat → Nat → Nat := v.2.2.1
abbrev ts_gr (v : ts_V) : Nat → Nat → Nat := v.2.2.2.1
abbrev ts_sw (v : ts_V) : Nat → Int32 := v.2.2.2.2
abbrev ts_n' (v : ts_V) (x : Nat) : ts_V := ((x, v.1.2), v.2)
abbrev ts_k' (v : ts_V) (x : Nat) : ts_V := ((v.1.1, x, v.1.2.2), v.2)
abbrev ts_w' (v : ts_V) (x : Int32) : ts_V := ((v.1.1, v.1.2.1, x, v.1.2.2.2), v.2)
abbrev ts_ag' (v : ts_V) (x : Int32) : ts_V := ((v.1.1, v.1.2.1, v.1.2.2.1, x, v.1.2.2.2.2), v.2)
abbrev ts_rf' (v : ts_V) (x : Int32) : ts_V := ((v.1.1, v.1.2.1, v.1.2.2.1, v.1.2.2.2.1, x), v.2)
abbrev ts_se' (v : ts_V) (f : Nat → Nat) : ts_V := (v.1, (f, v.2.1.2), v.2.2)
abbrev ts_nu' (v : ts_V) (f : Nat → Nat) : ts_V := (v.1, (v.2.1.1, f, v.2.1.2.2), v.2.2)
abbrev ts_ha' (v : ts_V) (f : Nat → Nat) : ts_V := (v.1, (v.2.1.1, v.2.1.2.1, f, v.2.1.2.2.2), v.2.2)
abbrev ts_st' (v : ts_V) (f : Nat → Nat) : ts_V := (v.1, (v.2.1.1, v.2.1.2.1, v.2.1.2.2.1, f, v.2.1.2.2.2.2), v.2.2)
abbrev ts_ow' (v : ts_V) (f : Nat → Nat) : ts_V := (v.1, (v.2.1.1, v.2.1.2.1, v.2.1.2.2.1, v.2.1.2.2.2.1, f, v.2.1.2.2.2.2.2), v.2.2)
abbrev ts_ti' (v : ts_V) (f : Nat → Int32) : ts_V := (v.1, (v.2.1.1, v.2.1.2.1, v.2.1.2.2.1, v.2.1.2.2.2.1, v.2.1.2.2.2.2.1, f, v.2.1.2.2.2.2.2.2), v.2.2)
abbrev ts_wk' (v : ts_V) (f : Nat → Int32) : ts_V := (v.1, (v.2.1.1, v.2.1.2.1, v.2.1.2.2.1, v.2.1.2.2.2.1, v.2.1.2.2.2.2.1, v.2.1.2.2.2.2.2.1, f), v.2.2)
abbrev ts_li' (v : ts_V) (f : Nat → Nat → Nat) : ts_V := (v.1, v.2.1, (f, v.2.2.2))
abbrev ts_gr' (v : ts_V) (f : Nat → Nat → Nat) : ts_V := (v.1, v.2.1, (v.2.2.1, f, v.2.2.2.2))
abbrev ts_sw' (v : ts_V) (f : Nat → Int32) : ts_V := (v.1, v.2.1, (v.2.2.1, v.2.2.2.1, f))
/-- a place of a table of two indices -/
abbrev ts_up2 (f : Nat → Nat → Nat) (i j x : Nat) : Nat → Nat → Nat := fun a b => if a = i ∧ b = j then x else f a b
theorem ts_upI (f : Nat → Nat) (k x : Nat) : upd (fun t => nI (f t)) k (nI x) = fun t => nI (va_up f k x t) := by
  funext t
  unfold upd va_up
  by_cases h : t = k
  · simp [h]
  · simp [h]
theorem ts_upJ (f : Nat → Int32) (k : Nat) (x : Int32) : upd f k x = va_up f k x := rfl
/-! the class's cells: 0 the object, 1..7 the columns, 8 and 9 the rows' rows, 10 swaps, 11 the scratch, 12..18 likings, 19..25 grudges -/
def wx_len (i : Nat) : Nat := if i < 8 then 36 else if i = 10 then 7 else if i = 11 then 48 else if i < 19 then 8 else 7
def wx_arr (v : ts_V) (g : Nat → Int32) (i : Nat) : Nat → Int32 := match i with
  | 1 => fun t => nI (ts_se v t)
  | 2 => fun t => nI (ts_nu v t)
  | 3 => fun t => nI (ts_ha v t)
  | 4 => fun t => nI (ts_st v t)
  | 5 => fun t => nI (ts_ow v t)
  | 6 => ts_ti v
  | 7 => ts_wk v
  | 10 => ts_sw v
  | 11 => g
  | i => if i < 19 then fun s => nI (ts_li v (i - 12) s) else fun o => nI (ts_gr v (i - 19) o)
def wx_e (a : Nat → Nat) (c1 c2 : ClassId) (v : ts_V) (g : Nat → Int32) (h : Int32) (i : Nat) : va_E := match i with
  | 0 => .inr (0, [.int (ts_w v), .int (nI (ts_k v)), .int (nI (ts_n v)), .int (ts_ag v), .int (ts_rf v), .ref (a 1), .ref (a 2), .ref (a 3), .ref (a 4), .ref (a 5), .ref (a 6), .ref (a 7), .ref (a 8), .ref (a 9), .ref (a 10), .ref (a 11), .int h])
  | 8 => .inl (c2, 7, .inr (.inr (.inr (.inr (fun c => if c < 7 then some (a (12 + c)) else none)))))
  | 9 => .inl (c2, 7, .inr (.inr (.inr (.inr (fun c => if c < 7 then some (a (19 + c)) else none)))))
  | i => .inl (c1, wx_len i, .inl (wx_arr v g i))
def wx (a : Nat → Nat) (c1 c2 : ClassId) (v : ts_V) (g : Nat → Int32) (h : Int32) : va_W := (List.range 26).map (fun i => (a i, wx_e a c1 c2 v g h i))
theorem ts_mapget {α : Type} (N : Nat) (F : Nat → α) (i : Nat) (h : i < N) : ((List.range N).map F)[i]? = some (F i) := by simp [h]
theorem ts_mapset {α : Type} (N : Nat) (F G : Nat → α) (i : Nat) (y : α) (hi : G i = y) (ho : ∀ j, j < N → j ≠ i → F j = G j) : ((List.range N).map F).set i y = (List.range N).map G := by
  apply List.ext_getElem?
  intro j
  by_cases hj : j = i
  · subst hj
    by_cases hN : j < N
    · rw [List.getElem?_set_self (by simpa using hN), ts_mapget N G j hN, hi]
    · rw [List.getElem?_eq_none (by simpa using Nat.not_lt.mp hN), List.getElem?_eq_none (by simpa using Nat.not_lt.mp hN)]
  · rw [List.getElem?_set_ne (Ne.symm hj)]
    by_cases hN : j < N
    · rw [ts_mapget N F j hN, ts_mapget N G j hN, ho j hN hj]
    · rw [List.getElem?_eq_none (by simpa using Nat.not_lt.mp hN), List.getElem?_eq_none (by simpa using Nat.not_lt.mp hN)]
theorem wx_get (a : Nat → Nat) (c1 c2 : ClassId) (v : ts_V) (g : Nat → Int32) (h : Int32) (i : Nat) (hi : i < 26) : (wx a c1 c2 v g h)[i]? = some (a i, wx_e a c1 c2 v g h i) := ts_mapget 26 _ i hi
/-- a row of the likings, of the grudges -/
theorem wx_gli (a : Nat → Nat) (c1 c2 : ClassId) (v : ts_V) (g : Nat → Int32) (h : Int32) (c : Nat) (hc : c < 7) : (wx a c1 c2 v g h)[12 + c]? = some (a (12 + c), .inl (c1, 8, .inl (fun s => nI (ts_li v c s)))) := by
  rw [wx_get a c1 c2 v g h (12 + c) (by omega)]
  rcases (show c = 0 ∨ c = 1 ∨ c = 2 ∨ c = 3 ∨ c = 4 ∨ c = 5 ∨ c = 6 by omega) with rfl | rfl | rfl | rfl | rfl | rfl | rfl <;> rfl
theorem wx_ggr (a : Nat → Nat) (c1 c2 : ClassId) (v : ts_V) (g : Nat → Int32) (h : Int32) (c : Nat) (hc : c < 7) : (wx a c1 c2 v g h)[19 + c]? = some (a (19 + c), .inl (c1, 7, .inl (fun s => nI (ts_gr v c s)))) := by
  rw [wx_get a c1 c2 v g h (19 + c) (by omega)]
  rcases (show c = 0 ∨ c = 1 ∨ c = 2 ∨ c = 3 ∨ c = 4 ∨ c = 5 ∨ c = 6 by omega) with rfl | rfl | rfl | rfl | rfl | rfl | rfl <;> rfl
theorem ts_26 {P : Nat → Prop} (i : Nat) (h : ∀ j, j < 26 → j ≠ i → P j) : ∀ j, j < 26 → j ≠ i → P j := h
/-- what is set at one cell -/
theorem wx_set (a : Nat → Nat) (c1 c2 : ClassId) (v v' : ts_V) (g g' : Nat → Int32) (h h' : Int32) (i : Nat) (y : va_E) (hi : wx_e a c1 c2 v' g' h' i = y) (ho : ∀ j, j < 26 → j ≠ i → wx_e a c1 c2 v g h j = wx_e a c1 c2 v' g' h' j) : (wx a c1 c2 v g h).set i (a i, y) = wx a c1 c2 v' g' h' :=
  ts_mapset 26 _ _ i _ (by rw [hi]) (fun j hj hne => by rw [ho j hj hne])
theorem wx_lit {P : Nat → Prop} (h0 : P 0) (h1 : P 1) (h2 : P 2) (h3 : P 3) (h4 : P 4) (h5 : P 5) (h6 : P 6) (h7 : P 7) (h8 : P 8) (h9 : P 9) (h10 : P 10) (h11 : P 11) (h12 : ∀ j, 12 ≤ j → j < 26 → P j) : ∀ j, j < 26 → P j := by
  intro j hj
  rcases (show j = 0 ∨ j = 1 ∨ j = 2 ∨ j = 3 ∨ j = 4 ∨ j = 5 ∨ j = 6 ∨ j = 7 ∨ j = 8 ∨ j = 9 ∨ j = 10 ∨ j = 11 ∨ 12 ≤ j by omega) with rfl | rfl | rfl | rfl | rfl | rfl | rfl | rfl | rfl | rfl | rfl | rfl | h
  all_goals first | assumption | exact h12 j h hj
theorem wx_row (a : Nat → Nat) (c1 c2 : ClassId) (v : ts_V) (g : Nat → Int32) (h : Int32) (j : Nat) (h1 : 12 ≤ j) : wx_e a c1 c2 v g h j = .inl (c1, wx_len j, .inl (if j < 19 then fun s => nI (ts_li v (j - 12) s) else fun o => nI (ts_gr v (j - 19) o))) := by
  obtain ⟨d, rfl⟩ : ∃ d, j = 12 + d := ⟨j - 12, by omega⟩
  have e : 12 + d = d + 12 := Nat.add_comm _ _
  rw [e]
  rfl
section WXS
variable (a : Nat → Nat) (c1 c2 : ClassId) (v : ts_V) (g : Nat → Int32) (h : Int32)
theorem wx_rows (v' : ts_V) (g' : Nat → Int32) (h' : Int32) (e1 : ts_li v' = ts_li v) (e2 : ts_gr v' = ts_gr v) : ∀ j, 12 ≤ j → j < 26 → wx_e a c1 c2 v g h j = wx_e a c1 c2 v' g' h' j := fun j h1 _ => by rw [wx_row _ _ _ _ _ _ j h1, wx_row _ _ _ _ _ _ j h1, e1, e2]
theorem wx_s1 (t x : Nat) : (wx a c1 c2 v g h).set 1 (a 1, .inl (c1, 36, .inl (upd (fun t => nI (ts_se v t)) t (nI x)))) = wx a c1 c2 (ts_se' v (va_up (ts_se v) t x)) g h := by
  rw [ts_upI]
  exact wx_set a c1 c2 v _ g _ h _ 1 _ rfl (wx_lit (fun _ => rfl) (fun q => absurd rfl q) (fun _ => rfl) (fun _ => rfl) (fun _ => rfl) (fun _ => rfl) (fun _ => rfl) (fun _ => rfl) (fun _ => rfl) (fun _ => rfl) (fun _ => rfl) (fun _ => rfl) (fun j h1 h2 _ => wx_rows a c1 c2 v g h _ _ _ (by rfl) (by rfl) j h1 h2))
theorem wx_s2 (t x : Nat) : (wx a c1 c2 v g h).set 2 (a 2, .inl (c1, 36, .inl (upd (fun t => nI (ts_nu v t)) t (nI x)))) = wx a c1 c2 (ts_nu' v (va_up (ts_nu v) t x)) g h := by
  rw [ts_upI]
  exact wx_set a c1 c2 v _ g _ h _ 2 _ rfl (wx_lit (fun _ => rfl) (fun _ => rfl) (fun q => absurd rfl q) (fun _ => rfl) (fun _ => rfl) (fun _ => rfl) (fun _ => rfl) (fun _ => rfl) (fun _ => rfl) (fun _ => rfl) (fun _ => rfl) (fun _ => rfl) (fun j h1 h2 _ => wx_rows a c1 c2 v g h _ _ _ (by rfl) (by rfl) j h1 h2))
theorem wx_s3 (t x : Nat) : (wx a c1 c2 v g h).set 3 (a 3, .inl (c1, 36, .inl (upd (fun t => nI (ts_ha v t)) t (nI x)))) = wx a c1 c2 (ts_ha' v (va_up (ts_ha v) t x)) g h := by
  rw [ts_upI]
  exact wx_set a c1 c2 v _ g _ h _ 3 _ rfl (wx_lit (fun _ => rfl) (fun _ => rfl) (fun _ => rfl) (fun q => absurd rfl q) (fun _ => rfl) (fun _ => rfl) (fun _ => rfl) (fun _ => rfl) (fun _ => rfl) (fun _ => rfl) (fun _ => rfl) (fun _ => rfl) (fun j h1 h2 _ => wx_rows a c1 c2 v g h _ _ _ (by rfl) (by rfl) j h1 h2))
theorem wx_s4 (t x : Nat) : (wx a c1 c2 v g h).set 4 (a 4, .inl (c1, 36, .inl (upd (fun t => nI (ts_st v t)) t (nI x)))) = wx a c1 c2 (ts_st' v (va_up (ts_st v) t x)) g h := by
  rw [ts_upI]
  exact wx_set a c1 c2 v _ g _ h _ 4 _ rfl (wx_lit (fun _ => rfl) (fun _ => rfl) (fun _ => rfl) (fun _ => rfl) (fun q => absurd rfl q) (fun _ => rfl) (fun _ => rfl) (fun _ => rfl) (fun _ => rfl) (fun _ => rfl) (fun _ => rfl) (fun _ => rfl) (fun j h1 h2 _ => wx_rows a c1 c2 v g h _ _ _ (by rfl) (by rfl) j h1 h2))
theorem wx_s5 (t x : Nat) : (wx a c1 c2 v g h).set 5 (a 5, .inl (c1, 36, .inl (upd (fun t => nI (ts_ow v t)) t (nI x)))) = wx a c1 c2 (ts_ow' v (va_up (ts_ow v) t x)) g h := by
  rw [ts_upI]
  exact wx_set a c1 c2 v _ g _ h _ 5 _ rfl (wx_lit (fun _ => rfl) (fun _ => rfl) (fun _ => rfl) (fun _ => rfl) (fun _ => rfl) (fun q => absurd rfl q) (fun _ => rfl) (fun _ => rfl) (fun _ => rfl) (fun _ => rfl) (fun _ => rfl) (fun _ => rfl) (fun j h1 h2 _ => wx_rows a c1 c2 v g h _ _ _ (by rfl) (by rfl) j h1 h2))
theorem wx_s6 (t : Nat) (x : Int32) : (wx a c1 c2 v g h).set 6 (a 6, .inl (c1, 36, .inl (upd (ts_ti v) t x))) = wx a c1 c2 (ts_ti' v (va_up (ts_ti v) t x)) g h :=
  wx_set a c1 c2 v _ g _ h _ 6 _ rfl (wx_lit (fun _ => rfl) (fun _ => rfl) (fun _ => rfl) (fun _ => rfl) (fun _ => rfl) (fun _ => rfl) (fun q => absurd rfl q) (fun _ => rfl) (fun _ => rfl) (fun _ => rfl) (fun _ => rfl) (fun _ => rfl) (fun j h1 h2 _ => wx_rows a c1 c2 v g h _ _ _ (by rfl) (by rfl) j h1 h2))
theorem wx_s7 (t : Nat) (x : Int32) : (wx a c1 c2 v g h).set 7 (a 7, .inl (c1, 36, .inl (upd (ts_wk v) t x))) = wx a c1 c2 (ts_wk' v (va_up (ts_wk v) t x)) g h :=
  wx_set a c1 c2 v _ g _ h _ 7 _ rfl (wx_lit (fun _ => rfl) (fun _ => rfl) (fun _ => rfl) (fun _ => rfl) (fun _ => rfl) (fun _ => rfl) (fun _ => rfl) (fun q => absurd rfl q) (fun _ => rfl) (fun _ => rfl) (fun _ => rfl) (fun _ => rfl) (fun j h1 h2 _ => wx_rows a c1 c2 v g h _ _ _ (by rfl) (by rfl) j h1 h2))
theorem wx_s10 (t : Nat) (x : Int32) : (wx a c1 c2 v g h).set 10 (a 10, .inl (c1, 7, .inl (upd (ts_sw v) t x))) = wx a c1 c2 (ts_sw' v (va_up (ts_sw v) t x)) g h :=
  wx_set a c1 c2 v _ g _ h _ 10 _ rfl (wx_lit (fun _ => rfl) (fun _ => rfl) (fun _ => rfl) (fun _ => rfl) (fun _ => rfl) (fun _ => rfl) (fun _ => rfl) (fun _ => rfl) (fun _ => rfl) (fun _ => rfl) (fun q => absurd rfl q) (fun _ => rfl) (fun j h1 h2 _ => wx_rows a c1 c2 v g h _ _ _ (by rfl) (by rfl) j h1 h2))
theorem wx_s11 (g' : Nat → Int32) : (wx a c1 c2 v g h).set 11 (a 11, .inl (c1, 48, .inl g')) = wx a c1 c2 v g' h :=
  wx_set a c1 c2 v _ g _ h _ 11 _ rfl (wx_lit (fun _ => rfl) (fun _ => rfl) (fun _ => rfl) (fun _ => rfl) (fun _ => rfl) (fun _ => rfl) (fun _ => rfl) (fun _ => rfl) (fun _ => rfl) (fun _ => rfl) (fun _ => rfl) (fun q => absurd rfl q) (fun j h1 h2 _ => wx_rows a c1 c2 v g h _ _ _ (by rfl) (by rfl) j h1 h2))
theorem wx_s0 (v' : ts_V) (h' : Int32) (e2 : v'.2 = v.2) (fs : List Value) (hf : wx_e a c1 c2 v' g h' 0 = .inr (0, fs)) : (wx a c1 c2 v g h).set 0 (a 0, .inr (0, fs)) = wx a c1 c2 v' g h' := by
  obtain ⟨v1, v2⟩ := v'
  dsimp only at e2
  subst e2
  exact wx_set a c1 c2 v _ g _ h _ 0 _ hf (wx_lit (fun q => absurd rfl q) (fun _ => rfl) (fun _ => rfl) (fun _ => rfl) (fun _ => rfl) (fun _ => rfl) (fun _ => rfl) (fun _ => rfl) (fun _ => rfl) (fun _ => rfl) (fun _ => rfl) (fun _ => rfl) (fun j h1 h2 _ => wx_rows a c1 c2 v g h _ _ _ (by rfl) (by rfl) j h1 h2))
theorem wx_sli (c s x : Nat) (hc : c < 7) : (wx a c1 c2 v g h).set (12 + c) (a (12 + c), .inl (c1, 8, .inl (upd (fun s => nI (ts_li v c s)) s (nI x)))) = wx a c1 c2 (ts_li' v (ts_up2 (ts_li v) c s x)) g h := by
  rw [ts_upI]
  refine wx_set a c1 c2 v _ g _ h _ (12 + c) _ ?_ (wx_lit (fun _ => rfl) (fun _ => rfl) (fun _ => rfl) (fun _ => rfl) (fun _ => rfl) (fun _ => rfl) (fun _ => rfl) (fun _ => rfl) (fun _ => rfl) (fun _ => rfl) (fun _ => rfl) (fun _ => rfl) (fun j h1 h2 hne => ?_))
  · rw [wx_row _ _ _ _ _ _ _ (by omega), if_pos (show 12 + c < 19 by omega), show wx_len (12 + c) = 8 by unfold wx_len; rw [if_neg (by omega), if_neg (by omega), if_neg (by omega), if_pos (by omega)], show 12 + c - 12 = c by omega]
    congr 4
    funext s2
    simp [ts_up2, va_up, ts_li, ts_li', ts_gr, ts_gr']
  · rw [wx_row _ _ _ _ _ _ j h1, wx_row _ _ _ _ _ _ j h1]
    by_cases hj : j < 19
    · rw [if_pos hj, if_pos hj]
      have : ¬ j - 12 = c := by omega
      simp [ts_up2, this, ts_li, ts_li', ts_gr, ts_gr']
    · rw [if_neg hj, if_neg hj]
theorem wx_sgr (c s x : Nat) (hc : c < 7) : (wx a c1 c2 v g h).set (19 + c) (a (19 + c), .inl (c1, 7, .inl (upd (fun s => nI (ts_gr v c s)) s (nI x)))) = wx a c1 c2 (ts_gr' v (ts_up2 (ts_gr v) c s x)) g h := by
  rw [ts_upI]
  refine wx_set a c1 c2 v _ g _ h _ (19 + c) _ ?_ (wx_lit (fun _ => rfl) (fun _ => rfl) (fun _ => rfl) (fun _ => rfl) (fun _ => rfl) (fun _ => rfl) (fun _ => rfl) (fun _ => rfl) (fun _ => rfl) (fun _ => rfl) (fun _ => rfl) (fun _ => rfl) (fun j h1 h2 hne => ?_))
  · rw [wx_row _ _ _ _ _ _ _ (by omega), if_neg (show ¬ 19 + c < 19 by omega), show wx_len (19 + c) = 7 by unfold wx_len; rw [if_neg (by omega), if_neg (by omega), if_neg (by omega), if_neg (by omega)], show 19 + c - 19 = c by omega]
    congr 4
    funext s2
    simp [ts_up2, va_up, ts_li, ts_li', ts_gr, ts_gr']
  · rw [wx_row _ _ _ _ _ _ j h1, wx_row _ _ _ _ _ _ j h1]
    by_cases hj : j < 19
    · rw [if_pos hj, if_pos hj]
    · rw [if_neg hj, if_neg hj]
      have : ¬ j - 19 = c := by omega
      simp [ts_up2, this, ts_li, ts_li', ts_gr, ts_gr']
theorem wx_p0 (x : Int32) : (wx a c1 c2 v g h).set 0 (a 0, .inr (0, ([.int (ts_w v), .int (nI (ts_k v)), .int (nI (ts_n v)), .int (ts_ag v), .int (ts_rf v), .ref (a 1), .ref (a 2), .ref (a 3), .ref (a 4), .ref (a 5), .ref (a 6), .ref (a 7), .ref (a 8), .ref (a 9), .ref (a 10), .ref (a 11), .int h] : List Value).set 0 (.int x))) = wx a c1 c2 (ts_w' v x) g h := wx_s0 a c1 c2 v g h (ts_w' v x) h rfl _ rfl
theorem wx_p1 (x : Nat) : (wx a c1 c2 v g h).set 0 (a 0, .inr (0, ([.int (ts_w v), .int (nI (ts_k v)), .int (nI (ts_n v)), .int (ts_ag v), .int (ts_rf v), .ref (a 1), .ref (a 2), .ref (a 3), .ref (a 4), .ref (a 5), .ref (a 6), .ref (a 7), .ref (a 8), .ref (a 9), .ref (a 10), .ref (a 11), .int h] : List Value).set 1 (.int (nI x)))) = wx a c1 c2 (ts_k' v x) g h := wx_s0 a c1 c2 v g h (ts_k' v x) h rfl _ rfl
theorem wx_p2 (x : Nat) : (wx a c1 c2 v g h).set 0 (a 0, .inr (0, ([.int (ts_w v), .int (nI (ts_k v)), .int (nI (ts_n v)), .int (ts_ag v), .int (ts_rf v), .ref (a 1), .ref (a 2), .ref (a 3), .ref (a 4), .ref (a 5), .ref (a 6), .ref (a 7), .ref (a 8), .ref (a 9), .ref (a 10), .ref (a 11), .int h] : List Value).set 2 (.int (nI x)))) = wx a c1 c2 (ts_n' v x) g h := wx_s0 a c1 c2 v g h (ts_n' v x) h rfl _ rfl
theorem wx_p3 (x : Int32) : (wx a c1 c2 v g h).set 0 (a 0, .inr (0, ([.int (ts_w v), .int (nI (ts_k v)), .int (nI (ts_n v)), .int (ts_ag v), .int (ts_rf v), .ref (a 1), .ref (a 2), .ref (a 3), .ref (a 4), .ref (a 5), .ref (a 6), .ref (a 7), .ref (a 8), .ref (a 9), .ref (a 10), .ref (a 11), .int h] : List Value).set 3 (.int x))) = wx a c1 c2 (ts_ag' v x) g h := wx_s0 a c1 c2 v g h (ts_ag' v x) h rfl _ rfl
theorem wx_p4 (x : Int32) : (wx a c1 c2 v g h).set 0 (a 0, .inr (0, ([.int (ts_w v), .int (nI (ts_k v)), .int (nI (ts_n v)), .int (ts_ag v), .int (ts_rf v), .ref (a 1), .ref (a 2), .ref (a 3), .ref (a 4), .ref (a 5), .ref (a 6), .ref (a 7), .ref (a 8), .ref (a 9), .ref (a 10), .ref (a 11), .int h] : List Value).set 4 (.int x))) = wx a c1 c2 (ts_rf' v x) g h := wx_s0 a c1 c2 v g h (ts_rf' v x) h rfl _ rfl
theorem wx_p16 (x : Int32) : (wx a c1 c2 v g h).set 0 (a 0, .inr (0, ([.int (ts_w v), .int (nI (ts_k v)), .int (nI (ts_n v)), .int (ts_ag v), .int (ts_rf v), .ref (a 1), .ref (a 2), .ref (a 3), .ref (a 4), .ref (a 5), .ref (a 6), .ref (a 7), .ref (a 8), .ref (a 9), .ref (a 10), .ref (a 11), .int h] : List Value).set 16 (.int x))) = wx a c1 c2 (v) g x := wx_s0 a c1 c2 v g h (v) x rfl _ rfl
end WXS
/-! the reference's cells: 0 the object, 1 the table, 2 likes, 3 grudges, 4 swaps, 5 numbers, 6 the scratch -/
def ts_col (v : ts_V) (w t : Nat) : Int32 := match w with
  | 0 => nI (ts_se v t)
  | 1 => nI (ts_nu v t)
  | 2 => nI (ts_ha v t)
  | 3 => nI (ts_st v t)
  | 4 => nI (ts_ow v t)
  | 5 => ts_ti v t
  | _ => ts_wk v t
def ts_num (v : ts_V) (i : Nat) : Int32 := match i with
  | 0 => ts_w v
  | 1 => ts_ag v
  | 2 => ts_rf v
  | _ => 0
def wm_e (b : Nat → Nat) (c1 : ClassId) (v : ts_V) (th : Int32) (z : Nat → Int32) (i : Nat) : va_E := match i with
  | 0 => .inr (1, [.int th, .int (nI (ts_k v)), .int (nI (ts_n v)), .ref (b 1), .ref (b 2), .ref (b 3), .ref (b 4), .ref (b 5), .ref (b 6)])
  | 1 => .inl (c1, 252, .inl (fun i => ts_col v (i % 7) (i / 7)))
  | 2 => .inl (c1, 56, .inl (fun i => nI (ts_li v (i / 8) (i % 8))))
  | 3 => .inl (c1, 49, .inl (fun i => nI (ts_gr v (i / 7) (i % 7))))
  | 4 => .inl (c1, 7, .inl (ts_sw v))
  | 5 => .inl (c1, 3, .inl (ts_num v))
  | _ => .inl (c1, 6, .inl z)
def wm (b : Nat → Nat) (c1 : ClassId) (v : ts_V) (th : Int32) (z : Nat → Int32) : va_W := (List.range 7).map (fun i => (b i, wm_e b c1 v th z i))
section WMS
variable (b : Nat → Nat) (c1 : ClassId) (v : ts_V) (th : Int32) (z : Nat → Int32)
theorem wm_set (v' : ts_V) (th' : Int32) (z' : Nat → Int32) (i : Nat) (y : va_E) (hi : wm_e b c1 v' th' z' i = y) (h0 : 0 ≠ i → wm_e b c1 v th z 0 = wm_e b c1 v' th' z' 0) (h1 : 1 ≠ i → wm_e b c1 v th z 1 = wm_e b c1 v' th' z' 1) (h2 : 2 ≠ i → wm_e b c1 v th z 2 = wm_e b c1 v' th' z' 2) (h3 : 3 ≠ i → wm_e b c1 v th z 3 = wm_e b c1 v' th' z' 3) (h4 : 4 ≠ i → wm_e b c1 v th z 4 = wm_e b c1 v' th' z' 4) (h5 : 5 ≠ i → wm_e b c1 v th z 5 = wm_e b c1 v' th' z' 5) (h6 : 6 ≠ i → wm_e b c1 v th z 6 = wm_e b c1 v' th' z' 6) : (wm b c1 v th z).set i (b i, y) = wm b c1 v' th' z' := by
  refine ts_mapset 7 _ _ i _ (by rw [hi]) (fun j hj hne => ?_)
  rcases (show j = 0 ∨ j = 1 ∨ j = 2 ∨ j = 3 ∨ j = 4 ∨ j = 5 ∨ j = 6 by omega) with rfl | rfl | rfl | rfl | rfl | rfl | rfl
  · rw [h0 hne]
  · rw [h1 hne]
  · rw [h2 hne]
  · rw [h3 hne]
  · rw [h4 hne]
  · rw [h5 hne]
  · rw [h6 hne]
theorem wm_s0 (v' : ts_V) (th' : Int32) (e1 : v'.1.2.2 = v.1.2.2) (e2 : v'.2 = v.2) (fs : List Value) (hf : wm_e b c1 v' th' z 0 = .inr (1, fs)) : (wm b c1 v th z).set 0 (b 0, .inr (1, fs)) = wm b c1 v' th' z := by
  obtain ⟨⟨n, k, r⟩, v2⟩ := v'
  dsimp only at e1 e2
  subst e1
  subst e2
  exact wm_set b c1 v th z _ _ _ 0 _ hf (fun q => absurd rfl q) (fun _ => rfl) (fun _ => rfl) (fun _ => rfl) (fun _ => rfl) (fun _ => rfl) (fun _ => rfl)
theorem wm_s1 (v' : ts_V) (f : Nat → Int32) (e1 : v'.1 = v.1) (e2 : v'.2.2 = v.2.2) (hf : (fun i => ts_col v' (i % 7) (i / 7)) = f) : (wm b c1 v th z).set 1 (b 1, .inl (c1, 252, .inl f)) = wm b c1 v' th z := by
  obtain ⟨v1, v2, v3⟩ := v'
  dsimp only at e1 e2
  subst e1
  subst e2
  subst hf
  exact wm_set b c1 v th z _ _ _ 1 _ rfl (fun _ => rfl) (fun q => absurd rfl q) (fun _ => rfl) (fun _ => rfl) (fun _ => rfl) (fun _ => rfl) (fun _ => rfl)
theorem wm_s2 (f : Nat → Nat → Nat) (y : Nat → Int32) (hf : (fun i => nI (f (i / 8) (i % 8))) = y) : (wm b c1 v th z).set 2 (b 2, .inl (c1, 56, .inl y)) = wm b c1 (ts_li' v f) th z := by
  subst hf
  exact wm_set b c1 v th z _ _ _ 2 _ rfl (fun _ => rfl) (fun _ => rfl) (fun q => absurd rfl q) (fun _ => rfl) (fun _ => rfl) (fun _ => rfl) (fun _ => rfl)
theorem wm_s3 (f : Nat → Nat → Nat) (y : Nat → Int32) (hf : (fun i => nI (f (i / 7) (i % 7))) = y) : (wm b c1 v th z).set 3 (b 3, .inl (c1, 49, .inl y)) = wm b c1 (ts_gr' v f) th z := by
  subst hf
  exact wm_set b c1 v th z _ _ _ 3 _ rfl (fun _ => rfl) (fun _ => rfl) (fun _ => rfl) (fun q => absurd rfl q) (fun _ => rfl) (fun _ => rfl) (fun _ => rfl)
theorem wm_s4 (t : Nat) (x : Int32) : (wm b c1 v th z).set 4 (b 4, .inl (c1, 7, .inl (upd (ts_sw v) t x))) = wm b c1 (ts_sw' v (va_up (ts_sw v) t x)) th z :=
  wm_set b c1 v th z _ _ _ 4 _ rfl (fun _ => rfl) (fun _ => rfl) (fun _ => rfl) (fun _ => rfl) (fun q => absurd rfl q) (fun _ => rfl) (fun _ => rfl)
theorem wm_s5 (v' : ts_V) (y : Nat → Int32) (e0 : v'.1.1 = v.1.1) (e1 : v'.1.2.1 = v.1.2.1) (e2 : v'.2 = v.2) (hf : ts_num v' = y) : (wm b c1 v th z).set 5 (b 5, .inl (c1, 3, .inl y)) = wm b c1 v' th z := by
  obtain ⟨⟨n, k, r⟩, v2⟩ := v'
  dsimp only at e0 e1 e2
  subst e0
  subst e1
  subst e2
  subst hf
  exact wm_set b c1 v th z _ _ _ 5 _ rfl (fun _ => rfl) (fun _ => rfl) (fun _ => rfl) (fun _ => rfl) (fun _ => rfl) (fun q => absurd rfl q) (fun _ => rfl)
theorem wm_s6 (z' : Nat → Int32) : (wm b c1 v th z).set 6 (b 6, .inl (c1, 6, .inl z')) = wm b c1 v th z' :=
  wm_set b c1 v th z _ _ _ 6 _ rfl (fun _ => rfl) (fun _ => rfl) (fun _ => rfl) (fun _ => rfl) (fun _ => rfl) (fun _ => rfl) (fun q => absurd rfl q)
theorem wm_p0 (x : Int32) : (wm b c1 v th z).set 0 (b 0, .inr (1, ([.int th, .int (nI (ts_k v)), .int (nI (ts_n v)), .ref (b 1), .ref (b 2), .ref (b 3), .ref (b 4), .ref (b 5), .ref (b 6)] : List Value).set 0 (.int x))) = wm b c1 (v) x z := wm_s0 b c1 v th z (v) x rfl rfl _ rfl
theorem wm_p1 (x : Nat) : (wm b c1 v th z).set 0 (b 0, .inr (1, ([.int th, .int (nI (ts_k v)), .int (nI (ts_n v)), .ref (b 1), .ref (b 2), .ref (b 3), .ref (b 4), .ref (b 5), .ref (b 6)] : List Value).set 1 (.int (nI x)))) = wm b c1 (ts_k' v x) th z := wm_s0 b c1 v th z (ts_k' v x) th rfl rfl _ rfl
theorem wm_p2 (x : Nat) : (wm b c1 v th z).set 0 (b 0, .inr (1, ([.int th, .int (nI (ts_k v)), .int (nI (ts_n v)), .ref (b 1), .ref (b 2), .ref (b 3), .ref (b 4), .ref (b 5), .ref (b 6)] : List Value).set 2 (.int (nI x)))) = wm b c1 (ts_n' v x) th z := wm_s0 b c1 v th z (ts_n' v x) th rfl rfl _ rfl
end WMS
theorem ts_num0 (v : ts_V) (x : Int32) : ts_num (ts_w' v x) = upd (ts_num v) 0 x := by
  funext i
  match i with
  | 0 => rfl
  | 1 => rfl
  | 2 => rfl
  | i + 3 => simp [ts_num, upd]
theorem ts_num1 (v : ts_V) (x : Int32) : ts_num (ts_ag' v x) = upd (ts_num v) 1 x := by
  funext i
  match i with
  | 0 => rfl
  | 1 => rfl
  | 2 => rfl
  | i + 3 => simp [ts_num, upd]
theorem ts_num2 (v : ts_V) (x : Int32) : ts_num (ts_rf' v x) = upd (ts_num v) 2 x := by
  funext i
  match i with
  | 0 => rfl
  | 1 => rfl
  | 2 => rfl
  | i + 3 => simp [ts_num, upd]
end
section
/-! ===== a method's contract over its world, its entry, its ends, its calls ===== -/
abbrev jj_B (l : Launch) (D : va_G) (tys : List (ClassId × FieldType)) (ws : va_W) (sz : Nat) (As : List Value) : Array Value → State → Prop := va_Pc As (fun U => U.heap.size = sz ∧ va_P D vwCl ws U.heap ∧ va_K D vwCl tys U ∧ va_D (fun _ => True) ws)
/-- answers an int (or a boolean) -/
def jj_M (l : Launch) (D : va_G) (tys : List (ClassId × FieldType)) (y : MethodName) (wsC : List Cond) (rm : Room) (As : List Value) (ws : va_W) (S : Type) (post : Int32 → S → Prop) (wsS : S → va_W) : Prop :=
  ∀ sz : Nat, Met l y wsC rm (jj_B l D tys ws sz As) (va_Qi post (fun u t => va_P D vwCl (wsS u) t.heap ∧ va_D (va_A ws sz) (wsS u)) (va_A ws sz)) rm.cells rm.slots (va_A ws sz)
def jj_Mv (l : Launch) (D : va_G) (tys : List (ClassId × FieldType)) (y : MethodName) (wsC : List Cond) (rm : Room) (As : List Value) (ws : va_W) (S : Type) (post : S → Prop) (wsS : S → va_W) : Prop :=
  ∀ sz : Nat, Met l y wsC rm (jj_B l D tys ws sz As) (va_Qv post (fun u t => va_P D vwCl (wsS u) t.heap ∧ va_D (va_A ws sz) (wsS u)) (va_A ws sz)) rm.cells rm.slots (va_A ws sz)
def jj_Ml (l : Launch) (D : va_G) (tys : List (ClassId × FieldType)) (y : MethodName) (wsC : List Cond) (rm : Room) (As : List Value) (ws : va_W) (S : Type) (post : Int64 → S → Prop) (wsS : S → va_W) : Prop :=
  ∀ sz : Nat, Met l y wsC rm (jj_B l D tys ws sz As) (va_Ql post (fun u t => va_P D vwCl (wsS u) t.heap ∧ va_D (va_A ws sz) (wsS u)) (va_A ws sz)) rm.cells rm.slots (va_A ws sz)
def jj_Md (l : Launch) (D : va_G) (tys : List (ClassId × FieldType)) (y : MethodName) (wsC : List Cond) (rm : Room) (As : List Value) (ws : va_W) (S : Type) (post : UInt64 → S → Prop) (wsS : S → va_W) : Prop :=
  ∀ sz : Nat, Met l y wsC rm (jj_B l D tys ws sz As) (va_Qd post (fun u t => va_P D vwCl (wsS u) t.heap ∧ va_D (va_A ws sz) (wsS u)) (va_A ws sz)) rm.cells rm.slots (va_A ws sz)
theorem jj_blind {l : Launch} {D : va_G} {tys : List (ClassId × FieldType)} {ws : va_W} {sz : Nat} {As : List Value} : FrameBlind (jj_B l D tys ws sz As) := fun a U g mk q => by
  obtain ⟨q0, q1, qP, qK, qD⟩ := q
  exact ⟨q0, q1, qP, va_K.moved (u := U) (U := U.calling g mk a) (Vm.Alike.refl U.vm) qK, qD⟩
/-- the entry: from Met.ofW's body to the judgement -/
theorem jj_enter {p : Program} {l : Launch} {e : Env} {s : State} {m : MethodId} {args : Array Value} {below : List Frame} {meth : Method} {c : Code} {s₁ : State} {y : MethodName} {wsC : List Cond} {rm : Room} {cc : ByteArray} {maxL : Nat} {ret : Option FieldType} {Q : State → Prop} {D : va_G} {tys : List (ClassId × FieldType)} {As : List Value} {ws : va_W} {sz : Nat}
    (hlen : (lg_sl As).length ≤ maxL) (B : BodyLoose p l y (headSpec wsC rm) cc maxL ret e s m args below meth c s₁) (hml : c.maxLocals = maxL) (hv : jj_B l D tys ws sz As args s)
    (body : ∀ (E : jj_E), E.2.1.1 = s → E = ((p, l, e, rm), (s, m, args, below, meth, c), (D, va_A ws sz)) → jj_C cc maxL ret wsC y.cls rm tys E → E.2.1.2.2.2.2.1.name = y.name → va_D (va_A ws sz) ws → jj_J E 0 0 Q ws 0 (lv_args 0 As) []) : W p l e (headSpec wsC rm).room s m args below meth c s.heap [] 0 0 Q (entryFrame m args maxL) := by
  obtain ⟨rfl, rfl, hP, hK, hD0⟩ := hv
  have hl := lv_entry As (n := maxL) hlen
  rw [lg_entry_eq]
  generalize (lg_sl As ++ List.replicate (maxL - (lg_sl As).length) Slot.unset).toArray = ls at hl ⊢
  exact body ((p, l, e, rm), (s, m, As.toArray, below, meth, c), (D, va_A ws s.heap.size)) rfl rfl ⟨B.exec, B.bytes, hml, findClass_of_methodNamed B.named, atoms_spec (ws := wsC) B.pre, hK, fun q h => Or.inr h, B.returns, B.notSynchronized, rfl⟩ (name_of_methodNamed B.named B.method).1 hD0.self s.heap [] ls hP hD0.self va_S.rf (by rw [show (((p, l, e, rm), (s, m, As.toArray, below, meth, c), (D, va_A ws s.heap.size)) : jj_E).2.1.2.2.2.2.2.maxLocals = maxL from hml]; exact hl)
section ENDS
variable {cc : ByteArray} {nL : Nat} {Ts : List Cond} {own : String} {rm : Room} {tys : List (ClassId × FieldType)} {E : jj_E} {ws : va_W} {l : Launch} {D : va_G} {y : MethodName} {wsC ws' : List Cond} {As : List Value} {S : Type} {wsS : S → va_W}
theorem jj_met {post : Int32 → S → Prop} {ty : FieldType} (hy : plainName y.cls = true) (hw : wsC = .code y cc nL (some ty) :: ws') (hlen : (lg_sl As).length ≤ nL)
    (body : ∀ (E : jj_E) (Q : State → Prop), jj_C cc nL (some ty) wsC y.cls rm tys E → E.1.2.1 = l → E.2.2.1 = D → va_D E.2.2.2 ws → (∀ (pc : Nat) (lv : List (Nat × Value)) (x : Int32) (u : S), decode cc pc = .ok (.ireturn, 1) → narrow ty (.int x) = .int x → post x u → jj_J E rm.cells rm.slots Q (wsS u) pc lv [.int x]) → jj_J E 0 0 Q ws 0 (lv_args 0 As) []) : jj_M l D tys y wsC rm As ws S post wsS := by
  intro sz
  refine Met.ofW (cc := cc) (maxL := nL) (ret := some ty) hy hw ?_
  intro p e s m args below meth c s₁ B hml hv
  have hsz := hv.2.1
  refine jj_enter hlen B hml hv (fun E hs hE hC hnm hD0 => body E _ hC (by rw [hE]) (by rw [hE]) (by rw [hE]; exact hD0) ?_)
  intro pc lv x u hd hn hp H locs ls hP hD hS hl
  subst hE
  exact W.zret hC.1 hC.2.1 hC.2.2.2.2.2.2.2.1 hn (fun t ht hW => ⟨⟨x, u, rfl, hp, by rw [ht]; exact hP, hD⟩, hS.F ht⟩) hS.2.2 hd hC.2.2.2.2.2.2.2.2.1
theorem jj_metv {post : S → Prop} (hy : plainName y.cls = true) (hw : wsC = .code y cc nL none :: ws') (hlen : (lg_sl As).length ≤ nL)
    (body : ∀ (E : jj_E) (Q : State → Prop), jj_C cc nL none wsC y.cls rm tys E → E.1.2.1 = l → E.2.2.1 = D → va_D E.2.2.2 ws → E.2.1.2.2.2.2.1.name = y.name → (∀ (pc : Nat) (lv : List (Nat × Value)) (u : S), decode cc pc = .ok (.return_, 1) → post u → jj_J E rm.cells rm.slots Q (wsS u) pc lv []) → jj_J E 0 0 Q ws 0 (lv_args 0 As) []) : jj_Mv l D tys y wsC rm As ws S post wsS := by
  intro sz
  refine Met.ofW (cc := cc) (maxL := nL) (ret := none) hy hw ?_
  intro p e s m args below meth c s₁ B hml hv
  refine jj_enter hlen B hml hv (fun E hs hE hC hnm hD0 => body E _ hC (by rw [hE]) (by rw [hE]) (by rw [hE]; exact hD0) hnm ?_)
  intro pc lv u hd hp H locs ls hP hD hS hl
  subst hE
  exact W.vret hC.1 hC.2.1 hC.2.2.2.2.2.2.2.1 (fun t ht hW => ⟨⟨u, rfl, hp, by rw [ht]; exact hP, hD⟩, hS.F ht⟩) hS.2.2 hd hC.2.2.2.2.2.2.2.2.1
theorem jj_metl {post : Int64 → S → Prop} (hy : plainName y.cls = true) (hw : wsC = .code y cc nL (some .long) :: ws') (hlen : (lg_sl As).length ≤ nL)
    (body : ∀ (E : jj_E) (Q : State → Prop), jj_C cc nL (some .long) wsC y.cls rm tys E → E.1.2.1 = l → E.2.2.1 = D → va_D E.2.2.2 ws → (∀ (pc : Nat) (lv : List (Nat × Value)) (x : Int64) (u : S), decode cc pc = .ok (.lreturn, 1) → post x u → jj_J E rm.cells rm.slots Q (wsS u) pc lv [.long x]) → jj_J E 0 0 Q ws 0 (lv_args 0 As) []) : jj_Ml l D tys y wsC rm As ws S post wsS := by
  intro sz
  refine Met.ofW (cc := cc) (maxL := nL) (ret := some .long) hy hw ?_
  intro p e s m args below meth c s₁ B hml hv
  refine jj_enter hlen B hml hv (fun E hs hE hC hnm hD0 => body E _ hC (by rw [hE]) (by rw [hE]) (by rw [hE]; exact hD0) ?_)
  intro pc lv x u hd hp H locs ls hP hD hS hl
  subst hE
  exact W.lret hC.1 hC.2.1 hC.2.2.2.2.2.2.2.1 (fun t ht hW => ⟨⟨x, u, rfl, hp, by rw [ht]; exact hP, hD⟩, hS.F ht⟩) hS.2.2 hd hC.2.2.2.2.2.2.2.2.1
theorem jj_metd {post : UInt64 → S → Prop} (hy : plainName y.cls = true) (hw : wsC = .code y cc nL (some .double) :: ws') (hlen : (lg_sl As).length ≤ nL)
    (body : ∀ (E : jj_E) (Q : State → Prop), jj_C cc nL (some .double) wsC y.cls rm tys E → E.1.2.1 = l → E.2.2.1 = D → va_D E.2.2.2 ws → (∀ (pc : Nat) (lv : List (Nat × Value)) (x : UInt64) (u : S), decode cc pc = .ok (.dreturn, 1) → post x u → jj_J E rm.cells rm.slots Q (wsS u) pc lv [.double x]) → jj_J E 0 0 Q ws 0 (lv_args 0 As) []) : jj_Md l D tys y wsC rm As ws S post wsS := by
  intro sz
  refine Met.ofW (cc := cc) (maxL := nL) (ret := some .double) hy hw ?_
  intro p e s m args below meth c s₁ B hml hv
  refine jj_enter hlen B hml hv (fun E hs hE hC hnm hD0 => body E _ hC (by rw [hE]) (by rw [hE]) (by rw [hE]; exact hD0) ?_)
  intro pc lv x u hd hp H locs ls hP hD hS hl
  subst hE
  exact W.dret hC.1 hC.2.1 hC.2.2.2.2.2.2.2.1 (fun t ht hW => ⟨⟨x, u, rfl, hp, by rw [ht]; exact hP, hD⟩, hS.F ht⟩) hS.2.2 hd hC.2.2.2.2.2.2.2.2.1
end ENDS
/-! two worlds side by side -/
theorem jj_Pl {D : va_G} {cl : List vw_C} {w1 w2 : va_W} {H : Heap} (h : va_P D cl (w1 ++ w2) H) : va_P D cl w1 H := fun k q hk => h k q (by rw [List.getElem?_append_left (List.getElem?_eq_some_iff.mp hk).1]; exact hk)
theorem jj_Pr {D : va_G} {cl : List vw_C} {w1 w2 : va_W} {H : Heap} (h : va_P D cl (w1 ++ w2) H) : va_P D cl w2 H := fun k q hk => h (w1.length + k) q (by rw [List.getElem?_append_right (by omega), Nat.add_sub_cancel_left]; exact hk)
theorem jj_Dl {A : Nat → Prop} {w1 w2 : va_W} (h : va_D A (w1 ++ w2)) : va_D A w1 := ⟨fun i j p q hi hj e => h.1 i j p q (by rw [List.getElem?_append_left (List.getElem?_eq_some_iff.mp hi).1]; exact hi) (by rw [List.getElem?_append_left (List.getElem?_eq_some_iff.mp hj).1]; exact hj) e, fun k q hk => h.2 k q (by rw [List.getElem?_append_left (List.getElem?_eq_some_iff.mp hk).1]; exact hk)⟩
theorem jj_Dr {A : Nat → Prop} {w1 w2 : va_W} (h : va_D A (w1 ++ w2)) : va_D A w2 := ⟨fun i j p q hi hj e => by
  have := h.1 (w1.length + i) (w1.length + j) p q (by rw [List.getElem?_append_right (by omega), Nat.add_sub_cancel_left]; exact hi) (by rw [List.getElem?_append_right (by omega), Nat.add_sub_cancel_left]; exact hj) e
  omega, fun k q hk => h.2 (w1.length + k) q (by rw [List.getElem?_append_right (by omega), Nat.add_sub_cancel_left]; exact hk)⟩
theorem jj_Dx {A : Nat → Prop} {w1 w2 : va_W} (h : va_D A (w1 ++ w2)) (i j : Nat) (p q : Nat × va_E) (hi : w1[i]? = some p) (hj : w2[j]? = some q) : p.1 ≠ q.1 := by
  intro e
  have hl := (List.getElem?_eq_some_iff.mp hi).1
  have := h.1 i (w1.length + j) p q (by rw [List.getElem?_append_left hl]; exact hi) (by rw [List.getElem?_append_right (by omega), Nat.add_sub_cancel_left]; exact hj) e
  omega
/-- behind a call that had the left, the right part -/
theorem jj_joinL {A0 : Nat → Prop} {D : va_G} {cl : List vw_C} {wc wr w1 : va_W} {H H1 : Heap} (hP : va_P D cl (wc ++ wr) H) (hD : va_D A0 (wc ++ wr)) (hk : ∀ q : Nat, q < H.size → ¬ va_A wc H.size q → H1[q]? = H[q]?) (hF : ∀ q, va_A wc H.size q → A0 q) (hP1 : va_P D cl w1 H1) (hD1 : va_D (va_A wc H.size) w1) : va_P D cl (w1 ++ wr) H1 ∧ va_D A0 (w1 ++ wr) := by
  have hne : ∀ (k : Nat) (q : Nat × va_E), wr[k]? = some q → ¬ va_A wc H.size q.1 := by
    intro k q hq h
    rcases h with ⟨k2, e, h⟩ | h
    · exact jj_Dx hD k2 k (q.1, e) q h hq rfl
    · have := (jj_Pr hP k q hq).lt
      omega
  refine ⟨hP1.app (fun k q hq => ((jj_Pr hP) k q hq).kept (hk q.1 ((jj_Pr hP k q hq).lt) (hne k q hq))), va_D.app (hD1.weaken (fun k q _ h => hF q.1 h)) (jj_Dr hD) (fun i j x y hx hy hxy => hne j y hy (by rw [← hxy]; exact hD1.2 i x hx))⟩
theorem jj_joinR {A0 : Nat → Prop} {D : va_G} {cl : List vw_C} {wc wr w1 : va_W} {H H1 : Heap} (hP : va_P D cl (wr ++ wc) H) (hD : va_D A0 (wr ++ wc)) (hk : ∀ q : Nat, q < H.size → ¬ va_A wc H.size q → H1[q]? = H[q]?) (hF : ∀ q, va_A wc H.size q → A0 q) (hP1 : va_P D cl w1 H1) (hD1 : va_D (va_A wc H.size) w1) : va_P D cl (wr ++ w1) H1 ∧ va_D A0 (wr ++ w1) := by
  have hne : ∀ (k : Nat) (q : Nat × va_E), wr[k]? = some q → ¬ va_A wc H.size q.1 := by
    intro k q hq h
    rcases h with ⟨k2, e, h⟩ | h
    · exact jj_Dx hD k k2 q (q.1, e) hq h rfl
    · have := (jj_Pl hP k q hq).lt
      omega
  refine ⟨va_P.app (fun k q hq => ((jj_Pl hP) k q hq).kept (hk q.1 ((jj_Pl hP k q hq).lt) (hne k q hq))) hP1, va_D.app (jj_Dl hD) (hD1.weaken (fun k q _ h => hF q.1 h)) (fun i j x y hx hy hxy => hne i x hx (by rw [hxy]; exact hD1.2 j y hy))⟩
theorem jj_own {A0 : Nat → Prop} {wc : va_W} {H0 H : Heap} {locs : List Loc} (hD : va_D A0 wc) (hS : va_S A0 H0 H locs) (hA : ∀ q, H0.size ≤ q → A0 q) : ∀ q, va_A wc H.size q → A0 q := by
  intro q h
  rcases h with ⟨k, e, h⟩ | h
  · exact hD.2 k (q, e) h
  · exact hA q (Nat.le_trans hS.1 h)
end
section
/-! calls -/
section CALLS
variable {cc : ByteArray} {nL : Nat} {ret : Option FieldType} {Ts : List Cond} {own : String} {rm : Room} {tys : List (ClassId × FieldType)} {E : jj_E} {k n : Nat} {Q : State → Prop} {ws wr : va_W} {pc : Nat} {lv : List (Nat × Value)} {rest st0 : List Value} {C : String} {index : Nat} {y : MethodName} {bytes : ByteArray} {maxL : Nat} {rt : Option FieldType} {wsC wsC' : List Cond} {rc : Room} {As : List Value} {b : Nat} {S : Type} {wsS : S → va_W}
theorem jj_calli {As0 : List Value} {post : Int32 → S → Prop} (hC : jj_C cc nL ret Ts own rm tys E) (hM : jj_M E.1.2.1 E.2.2.1 tys y wsC rc As ws S post wsS) (hg : GoodIn Ts (wsV own index C y wsC)) (hw : wsC = .code y bytes maxL rt :: wsC') (np : Nat) (hdy : y.cls = C ∧ y.cls ≠ "java/lang/invoke/MethodHandle" ∧ y.cls ≠ "java/lang/invoke/VarHandle" ∧ (parseMethodDescriptor y.desc).map (fun d => d.parameters.length) = some np) (hR : rc.frames + 1 ≤ rm.frames ∧ 8 + (maxL + 11) + rc.locals ≤ rm.locals ∧ k + rc.cells ≤ rm.cells ∧ n + rc.slots ≤ rm.slots) (q0 ci : Nat) {T : u_T} {N : Nat} {fs : List Value} (he : ws[q0]? = some (b, .inr (ci, fs))) (hc : vwCl[ci]? = some (C, T, N)) (hAs : As = .ref b :: As0) (hst : st0 = As0.reverse ++ .ref b :: rest) (hn : As0.length = np) (hcat : (rest.map fun v => v.category).sum ≤ 8) (hd : decode cc pc = .ok (.invokevirtual index, 3)) (hk : ∀ (r : Int32) (u : S), post r u → jj_J E (k + rc.cells) (n + rc.slots) Q (wsS u) (pc + 3) lv (.int r :: rest)) : jj_J E k n Q ws pc lv st0 := by
  intro H locs ls hP hD hS hl
  subst hAs
  have hR0 : E.1.2.2.2 = rm := hC.2.2.2.2.2.2.2.2.2
  have hPc : va_P E.2.2.1 vwCl ws H := hP
  have hDc : va_D E.2.2.2 ws := hD
  have hFc := jj_own hDc hS hC.2.2.2.2.2.2.1
  refine va_calli (va_runV (As := As0) (rest := rest) ⟨hC.1, hC.2.1, hC.2.2.1, hC.2.2.2.1, hC.2.2.2.2.1⟩ (hM H.size) (cwV np hC.2.2.2.2.1 hg hw rfl rfl hdy ⟨by rw [hR0]; exact hR.1, by rw [hR0]; exact hR.2.1⟩) ⟨jj_blind, va_recv hC.2.2.2.2.2.1 hPc hc he, fun U hU hW => ⟨rfl, by rw [hU], by rw [hU]; exact hPc, va_K.moved hW.alike hC.2.2.2.2.2.1, hDc.weaken (fun _ _ _ _ => trivial)⟩⟩ rfl hn (hl.1.trans hC.2.2.1) hst (lv_room hcat) hd ⟨by rw [hR0]; exact hR.2.2.1, by rw [hR0]; exact hR.2.2.2⟩) hS (fun q _ h => hFc q h) hFc (fun r u t H1 locs1 ht hvm hp hB hz1 hk1 hS1 => ?_)
  exact hk r u hp H1 locs1 ls (by rw [ht] at hB; exact hB.1) (hB.2.weaken (fun _ q _ h => hFc q.1 h)) hS1 hl
theorem jj_scalli {As0 : List Value} {post : Int32 → S → Prop} (hC : jj_C cc nL ret Ts own rm tys E) (hM : jj_M E.1.2.1 E.2.2.1 tys y wsC rc As ws S post wsS) (hg : GoodIn Ts (va_wsS own index y wsC)) (hw : wsC = .code y bytes maxL rt :: wsC') (np : Nat) (hdy : y.cls ≠ "java/lang/invoke/MethodHandle" ∧ y.cls ≠ "java/lang/invoke/VarHandle" ∧ (parseMethodDescriptor y.desc).map (fun d => d.parameters.length) = some np) (hR : rc.frames + 1 ≤ rm.frames ∧ 8 + (maxL + 11) + rc.locals ≤ rm.locals ∧ k + rc.cells ≤ rm.cells ∧ n + rc.slots ≤ rm.slots) (hAs : As = As0) (hst : st0 = As0.reverse ++ rest) (hn : As0.length = np) (hcat : (rest.map fun v => v.category).sum ≤ 8) (hd : decode cc pc = .ok (.invokestatic index, 3)) (hk : ∀ (r : Int32) (u : S), post r u → jj_J E (k + rc.cells) (n + rc.slots) Q (wsS u) (pc + 3) lv (.int r :: rest)) : jj_J E k n Q ws pc lv st0 := by
  intro H locs ls hP hD hS hl
  subst hAs
  have hR0 : E.1.2.2.2 = rm := hC.2.2.2.2.2.2.2.2.2
  have hPc : va_P E.2.2.1 vwCl ws H := hP
  have hDc : va_D E.2.2.2 ws := hD
  have hFc := jj_own hDc hS hC.2.2.2.2.2.2.1
  refine va_calli (va_runS (As := As) (rest := rest) ⟨hC.1, hC.2.1, hC.2.2.1, hC.2.2.2.1, hC.2.2.2.2.1⟩ (hM H.size) (va_cwS np hC.2.2.2.2.1 hg hw rfl rfl hdy ⟨by rw [hR0]; exact hR.1, by rw [hR0]; exact hR.2.1⟩) ⟨jj_blind, fun U hU hW => ⟨rfl, by rw [hU], by rw [hU]; exact hPc, va_K.moved hW.alike hC.2.2.2.2.2.1, hDc.weaken (fun _ _ _ _ => trivial)⟩⟩ rfl hn (hl.1.trans hC.2.2.1) hst (lv_room hcat) hd ⟨by rw [hR0]; exact hR.2.2.1, by rw [hR0]; exact hR.2.2.2⟩) hS (fun q _ h => hFc q h) hFc (fun r u t H1 locs1 ht hvm hp hB hz1 hk1 hS1 => ?_)
  exact hk r u hp H1 locs1 ls (by rw [ht] at hB; exact hB.1) (hB.2.weaken (fun _ q _ h => hFc q.1 h)) hS1 hl
theorem jj_calliL {As0 : List Value} {post : Int32 → S → Prop} (hC : jj_C cc nL ret Ts own rm tys E) (hM : jj_M E.1.2.1 E.2.2.1 tys y wsC rc As ws S post wsS) (hg : GoodIn Ts (wsV own index C y wsC)) (hw : wsC = .code y bytes maxL rt :: wsC') (np : Nat) (hdy : y.cls = C ∧ y.cls ≠ "java/lang/invoke/MethodHandle" ∧ y.cls ≠ "java/lang/invoke/VarHandle" ∧ (parseMethodDescriptor y.desc).map (fun d => d.parameters.length) = some np) (hR : rc.frames + 1 ≤ rm.frames ∧ 8 + (maxL + 11) + rc.locals ≤ rm.locals ∧ k + rc.cells ≤ rm.cells ∧ n + rc.slots ≤ rm.slots) (q0 ci : Nat) {T : u_T} {N : Nat} {fs : List Value} (he : ws[q0]? = some (b, .inr (ci, fs))) (hc : vwCl[ci]? = some (C, T, N)) (hAs : As = .ref b :: As0) (hst : st0 = As0.reverse ++ .ref b :: rest) (hn : As0.length = np) (hcat : (rest.map fun v => v.category).sum ≤ 8) (hd : decode cc pc = .ok (.invokevirtual index, 3)) (hk : ∀ (r : Int32) (u : S), post r u → jj_J E (k + rc.cells) (n + rc.slots) Q (wsS u ++ wr) (pc + 3) lv (.int r :: rest)) : jj_J E k n Q (ws ++ wr) pc lv st0 := by
  intro H locs ls hP hD hS hl
  subst hAs
  have hR0 : E.1.2.2.2 = rm := hC.2.2.2.2.2.2.2.2.2
  have hPc : va_P E.2.2.1 vwCl ws H := jj_Pl hP
  have hDc : va_D E.2.2.2 ws := jj_Dl hD
  have hFc := jj_own hDc hS hC.2.2.2.2.2.2.1
  refine va_calli (va_runV (As := As0) (rest := rest) ⟨hC.1, hC.2.1, hC.2.2.1, hC.2.2.2.1, hC.2.2.2.2.1⟩ (hM H.size) (cwV np hC.2.2.2.2.1 hg hw rfl rfl hdy ⟨by rw [hR0]; exact hR.1, by rw [hR0]; exact hR.2.1⟩) ⟨jj_blind, va_recv hC.2.2.2.2.2.1 hPc hc he, fun U hU hW => ⟨rfl, by rw [hU], by rw [hU]; exact hPc, va_K.moved hW.alike hC.2.2.2.2.2.1, hDc.weaken (fun _ _ _ _ => trivial)⟩⟩ rfl hn (hl.1.trans hC.2.2.1) hst (lv_room hcat) hd ⟨by rw [hR0]; exact hR.2.2.1, by rw [hR0]; exact hR.2.2.2⟩) hS (fun q _ h => hFc q h) hFc (fun r u t H1 locs1 ht hvm hp hB hz1 hk1 hS1 => ?_)
  rw [ht] at hB
  obtain ⟨hP2, hD2⟩ := jj_joinL hP hD hk1 hFc hB.1 hB.2
  exact hk r u hp H1 locs1 ls hP2 hD2 hS1 hl
theorem jj_scalliL {As0 : List Value} {post : Int32 → S → Prop} (hC : jj_C cc nL ret Ts own rm tys E) (hM : jj_M E.1.2.1 E.2.2.1 tys y wsC rc As ws S post wsS) (hg : GoodIn Ts (va_wsS own index y wsC)) (hw : wsC = .code y bytes maxL rt :: wsC') (np : Nat) (hdy : y.cls ≠ "java/lang/invoke/MethodHandle" ∧ y.cls ≠ "java/lang/invoke/VarHandle" ∧ (parseMethodDescriptor y.desc).map (fun d => d.parameters.length) = some np) (hR : rc.frames + 1 ≤ rm.frames ∧ 8 + (maxL + 11) + rc.locals ≤ rm.locals ∧ k + rc.cells ≤ rm.cells ∧ n + rc.slots ≤ rm.slots) (hAs : As = As0) (hst : st0 = As0.reverse ++ rest) (hn : As0.length = np) (hcat : (rest.map fun v => v.category).sum ≤ 8) (hd : decode cc pc = .ok (.invokestatic index, 3)) (hk : ∀ (r : Int32) (u : S), post r u → jj_J E (k + rc.cells) (n + rc.slots) Q (wsS u ++ wr) (pc + 3) lv (.int r :: rest)) : jj_J E k n Q (ws ++ wr) pc lv st0 := by
  intro H locs ls hP hD hS hl
  subst hAs
  have hR0 : E.1.2.2.2 = rm := hC.2.2.2.2.2.2.2.2.2
  have hPc : va_P E.2.2.1 vwCl ws H := jj_Pl hP
  have hDc : va_D E.2.2.2 ws := jj_Dl hD
  have hFc := jj_own hDc hS hC.2.2.2.2.2.2.1
  refine va_calli (va_runS (As := As) (rest := rest) ⟨hC.1, hC.2.1, hC.2.2.1, hC.2.2.2.1, hC.2.2.2.2.1⟩ (hM H.size) (va_cwS np hC.2.2.2.2.1 hg hw rfl rfl hdy ⟨by rw [hR0]; exact hR.1, by rw [hR0]; exact hR.2.1⟩) ⟨jj_blind, fun U hU hW => ⟨rfl, by rw [hU], by rw [hU]; exact hPc, va_K.moved hW.alike hC.2.2.2.2.2.1, hDc.weaken (fun _ _ _ _ => trivial)⟩⟩ rfl hn (hl.1.trans hC.2.2.1) hst (lv_room hcat) hd ⟨by rw [hR0]; exact hR.2.2.1, by rw [hR0]; exact hR.2.2.2⟩) hS (fun q _ h => hFc q h) hFc (fun r u t H1 locs1 ht hvm hp hB hz1 hk1 hS1 => ?_)
  rw [ht] at hB
  obtain ⟨hP2, hD2⟩ := jj_joinL hP hD hk1 hFc hB.1 hB.2
  exact hk r u hp H1 locs1 ls hP2 hD2 hS1 hl
theorem jj_calliR {As0 : List Value} {post : Int32 → S → Prop} (hC : jj_C cc nL ret Ts own rm tys E) (hM : jj_M E.1.2.1 E.2.2.1 tys y wsC rc As ws S post wsS) (hg : GoodIn Ts (wsV own index C y wsC)) (hw : wsC = .code y bytes maxL rt :: wsC') (np : Nat) (hdy : y.cls = C ∧ y.cls ≠ "java/lang/invoke/MethodHandle" ∧ y.cls ≠ "java/lang/invoke/VarHandle" ∧ (parseMethodDescriptor y.desc).map (fun d => d.parameters.length) = some np) (hR : rc.frames + 1 ≤ rm.frames ∧ 8 + (maxL + 11) + rc.locals ≤ rm.locals ∧ k + rc.cells ≤ rm.cells ∧ n + rc.slots ≤ rm.slots) (q0 ci : Nat) {T : u_T} {N : Nat} {fs : List Value} (he : ws[q0]? = some (b, .inr (ci, fs))) (hc : vwCl[ci]? = some (C, T, N)) (hAs : As = .ref b :: As0) (hst : st0 = As0.reverse ++ .ref b :: rest) (hn : As0.length = np) (hcat : (rest.map fun v => v.category).sum ≤ 8) (hd : decode cc pc = .ok (.invokevirtual index, 3)) (hk : ∀ (r : Int32) (u : S), post r u → jj_J E (k + rc.cells) (n + rc.slots) Q (wr ++ wsS u) (pc + 3) lv (.int r :: rest)) : jj_J E k n Q (wr ++ ws) pc lv st0 := by
  intro H locs ls hP hD hS hl
  subst hAs
  have hR0 : E.1.2.2.2 = rm := hC.2.2.2.2.2.2.2.2.2
  have hPc : va_P E.2.2.1 vwCl ws H := jj_Pr hP
  have hDc : va_D E.2.2.2 ws := jj_Dr hD
  have hFc := jj_own hDc hS hC.2.2.2.2.2.2.1
  refine va_calli (va_runV (As := As0) (rest := rest) ⟨hC.1, hC.2.1, hC.2.2.1, hC.2.2.2.1, hC.2.2.2.2.1⟩ (hM H.size) (cwV np hC.2.2.2.2.1 hg hw rfl rfl hdy ⟨by rw [hR0]; exact hR.1, by rw [hR0]; exact hR.2.1⟩) ⟨jj_blind, va_recv hC.2.2.2.2.2.1 hPc hc he, fun U hU hW => ⟨rfl, by rw [hU], by rw [hU]; exact hPc, va_K.moved hW.alike hC.2.2.2.2.2.1, hDc.weaken (fun _ _ _ _ => trivial)⟩⟩ rfl hn (hl.1.trans hC.2.2.1) hst (lv_room hcat) hd ⟨by rw [hR0]; exact hR.2.2.1, by rw [hR0]; exact hR.2.2.2⟩) hS (fun q _ h => hFc q h) hFc (fun r u t H1 locs1 ht hvm hp hB hz1 hk1 hS1 => ?_)
  rw [ht] at hB
  obtain ⟨hP2, hD2⟩ := jj_joinR hP hD hk1 hFc hB.1 hB.2
  exact hk r u hp H1 locs1 ls hP2 hD2 hS1 hl
theorem jj_scalliR {As0 : List Value} {post : Int32 → S → Prop} (hC : jj_C cc nL ret Ts own rm tys E) (hM : jj_M E.1.2.1 E.2.2.1 tys y wsC rc As ws S post wsS) (hg : GoodIn Ts (va_wsS own index y wsC)) (hw : wsC = .code y bytes maxL rt :: wsC') (np : Nat) (hdy : y.cls ≠ "java/lang/invoke/MethodHandle" ∧ y.cls ≠ "java/lang/invoke/VarHandle" ∧ (parseMethodDescriptor y.desc).map (fun d => d.parameters.length) = some np) (hR : rc.frames + 1 ≤ rm.frames ∧ 8 + (maxL + 11) + rc.locals ≤ rm.locals ∧ k + rc.cells ≤ rm.cells ∧ n + rc.slots ≤ rm.slots) (hAs : As = As0) (hst : st0 = As0.reverse ++ rest) (hn : As0.length = np) (hcat : (rest.map fun v => v.category).sum ≤ 8) (hd : decode cc pc = .ok (.invokestatic index, 3)) (hk : ∀ (r : Int32) (u : S), post r u → jj_J E (k + rc.cells) (n + rc.slots) Q (wr ++ wsS u) (pc + 3) lv (.int r :: rest)) : jj_J E k n Q (wr ++ ws) pc lv st0 := by
  intro H locs ls hP hD hS hl
  subst hAs
  have hR0 : E.1.2.2.2 = rm := hC.2.2.2.2.2.2.2.2.2
  have hPc : va_P E.2.2.1 vwCl ws H := jj_Pr hP
  have hDc : va_D E.2.2.2 ws := jj_Dr hD
  have hFc := jj_own hDc hS hC.2.2.2.2.2.2.1
  refine va_calli (va_runS (As := As) (rest := rest) ⟨hC.1, hC.2.1, hC.2.2.1, hC.2.2.2.1, hC.2.2.2.2.1⟩ (hM H.size) (va_cwS np hC.2.2.2.2.1 hg hw rfl rfl hdy ⟨by rw [hR0]; exact hR.1, by rw [hR0]; exact hR.2.1⟩) ⟨jj_blind, fun U hU hW => ⟨rfl, by rw [hU], by rw [hU]; exact hPc, va_K.moved hW.alike hC.2.2.2.2.2.1, hDc.weaken (fun _ _ _ _ => trivial)⟩⟩ rfl hn (hl.1.trans hC.2.2.1) hst (lv_room hcat) hd ⟨by rw [hR0]; exact hR.2.2.1, by rw [hR0]; exact hR.2.2.2⟩) hS (fun q _ h => hFc q h) hFc (fun r u t H1 locs1 ht hvm hp hB hz1 hk1 hS1 => ?_)
  rw [ht] at hB
  obtain ⟨hP2, hD2⟩ := jj_joinR hP hD hk1 hFc hB.1 hB.2
  exact hk r u hp H1 locs1 ls hP2 hD2 hS1 hl
theorem jj_callv {As0 : List Value} {post : S → Prop} (hC : jj_C cc nL ret Ts own rm tys E) (hM : jj_Mv E.1.2.1 E.2.2.1 tys y wsC rc As ws S post wsS) (hg : GoodIn Ts (wsV own index C y wsC)) (hw : wsC = .code y bytes maxL rt :: wsC') (np : Nat) (hdy : y.cls = C ∧ y.cls ≠ "java/lang/invoke/MethodHandle" ∧ y.cls ≠ "java/lang/invoke/VarHandle" ∧ (parseMethodDescriptor y.desc).map (fun d => d.parameters.length) = some np) (hR : rc.frames + 1 ≤ rm.frames ∧ 8 + (maxL + 11) + rc.locals ≤ rm.locals ∧ k + rc.cells ≤ rm.cells ∧ n + rc.slots ≤ rm.slots) (q0 ci : Nat) {T : u_T} {N : Nat} {fs : List Value} (he : ws[q0]? = some (b, .inr (ci, fs))) (hc : vwCl[ci]? = some (C, T, N)) (hAs : As = .ref b :: As0) (hst : st0 = As0.reverse ++ .ref b :: rest) (hn : As0.length = np) (hcat : (rest.map fun v => v.category).sum ≤ 8) (hd : decode cc pc = .ok (.invokevirtual index, 3)) (hk : ∀ (u : S), post u → jj_J E (k + rc.cells) (n + rc.slots) Q (wsS u) (pc + 3) lv (rest)) : jj_J E k n Q ws pc lv st0 := by
  intro H locs ls hP hD hS hl
  subst hAs
  have hR0 : E.1.2.2.2 = rm := hC.2.2.2.2.2.2.2.2.2
  have hPc : va_P E.2.2.1 vwCl ws H := hP
  have hDc : va_D E.2.2.2 ws := hD
  have hFc := jj_own hDc hS hC.2.2.2.2.2.2.1
  refine va_callv (va_runV (As := As0) (rest := rest) ⟨hC.1, hC.2.1, hC.2.2.1, hC.2.2.2.1, hC.2.2.2.2.1⟩ (hM H.size) (cwV np hC.2.2.2.2.1 hg hw rfl rfl hdy ⟨by rw [hR0]; exact hR.1, by rw [hR0]; exact hR.2.1⟩) ⟨jj_blind, va_recv hC.2.2.2.2.2.1 hPc hc he, fun U hU hW => ⟨rfl, by rw [hU], by rw [hU]; exact hPc, va_K.moved hW.alike hC.2.2.2.2.2.1, hDc.weaken (fun _ _ _ _ => trivial)⟩⟩ rfl hn (hl.1.trans hC.2.2.1) hst (lv_room hcat) hd ⟨by rw [hR0]; exact hR.2.2.1, by rw [hR0]; exact hR.2.2.2⟩) hS (fun q _ h => hFc q h) hFc (fun u t H1 locs1 ht hvm hp hB hz1 hk1 hS1 => ?_)
  exact hk u hp H1 locs1 ls (by rw [ht] at hB; exact hB.1) (hB.2.weaken (fun _ q _ h => hFc q.1 h)) hS1 hl
theorem jj_scallv {As0 : List Value} {post : S → Prop} (hC : jj_C cc nL ret Ts own rm tys E) (hM : jj_Mv E.1.2.1 E.2.2.1 tys y wsC rc As ws S post wsS) (hg : GoodIn Ts (va_wsS own index y wsC)) (hw : wsC = .code y bytes maxL rt :: wsC') (np : Nat) (hdy : y.cls ≠ "java/lang/invoke/MethodHandle" ∧ y.cls ≠ "java/lang/invoke/VarHandle" ∧ (parseMethodDescriptor y.desc).map (fun d => d.parameters.length) = some np) (hR : rc.frames + 1 ≤ rm.frames ∧ 8 + (maxL + 11) + rc.locals ≤ rm.locals ∧ k + rc.cells ≤ rm.cells ∧ n + rc.slots ≤ rm.slots) (hAs : As = As0) (hst : st0 = As0.reverse ++ rest) (hn : As0.length = np) (hcat : (rest.map fun v => v.category).sum ≤ 8) (hd : decode cc pc = .ok (.invokestatic index, 3)) (hk : ∀ (u : S), post u → jj_J E (k + rc.cells) (n + rc.slots) Q (wsS u) (pc + 3) lv (rest)) : jj_J E k n Q ws pc lv st0 := by
  intro H locs ls hP hD hS hl
  subst hAs
  have hR0 : E.1.2.2.2 = rm := hC.2.2.2.2.2.2.2.2.2
  have hPc : va_P E.2.2.1 vwCl ws H := hP
  have hDc : va_D E.2.2.2 ws := hD
  have hFc := jj_own hDc hS hC.2.2.2.2.2.2.1
  refine va_callv (va_runS (As := As) (rest := rest) ⟨hC.1, hC.2.1, hC.2.2.1, hC.2.2.2.1, hC.2.2.2.2.1⟩ (hM H.size) (va_cwS np hC.2.2.2.2.1 hg hw rfl rfl hdy ⟨by rw [hR0]; exact hR.1, by rw [hR0]; exact hR.2.1⟩) ⟨jj_blind, fun U hU hW => ⟨rfl, by rw [hU], by rw [hU]; exact hPc, va_K.moved hW.alike hC.2.2.2.2.2.1, hDc.weaken (fun _ _ _ _ => trivial)⟩⟩ rfl hn (hl.1.trans hC.2.2.1) hst (lv_room hcat) hd ⟨by rw [hR0]; exact hR.2.2.1, by rw [hR0]; exact hR.2.2.2⟩) hS (fun q _ h => hFc q h) hFc (fun u t H1 locs1 ht hvm hp hB hz1 hk1 hS1 => ?_)
  exact hk u hp H1 locs1 ls (by rw [ht] at hB; exact hB.1) (hB.2.weaken (fun _ q _ h => hFc q.1 h)) hS1 hl
theorem jj_callvL {As0 : List Value} {post : S → Prop} (hC : jj_C cc nL ret Ts own rm tys E) (hM : jj_Mv E.1.2.1 E.2.2.1 tys y wsC rc As ws S post wsS) (hg : GoodIn Ts (wsV own index C y wsC)) (hw : wsC = .code y bytes maxL rt :: wsC') (np : Nat) (hdy : y.cls = C ∧ y.cls ≠ "java/lang/invoke/MethodHandle" ∧ y.cls ≠ "java/lang/invoke/VarHandle" ∧ (parseMethodDescriptor y.desc).map (fun d => d.parameters.length) = some np) (hR : rc.frames + 1 ≤ rm.frames ∧ 8 + (maxL + 11) + rc.locals ≤ rm.locals ∧ k + rc.cells ≤ rm.cells ∧ n + rc.slots ≤ rm.slots) (q0 ci : Nat) {T : u_T} {N : Nat} {fs : List Value} (he : ws[q0]? = some (b, .inr (ci, fs))) (hc : vwCl[ci]? = some (C, T, N)) (hAs : As = .ref b :: As0) (hst : st0 = As0.reverse ++ .ref b :: rest) (hn : As0.length = np) (hcat : (rest.map fun v => v.category).sum ≤ 8) (hd : decode cc pc = .ok (.invokevirtual index, 3)) (hk : ∀ (u : S), post u → jj_J E (k + rc.cells) (n + rc.slots) Q (wsS u ++ wr) (pc + 3) lv (rest)) : jj_J E k n Q (ws ++ wr) pc lv st0 := by
  intro H locs ls hP hD hS hl
  subst hAs
  have hR0 : E.1.2.2.2 = rm := hC.2.2.2.2.2.2.2.2.2
  have hPc : va_P E.2.2.1 vwCl ws H := jj_Pl hP
  have hDc : va_D E.2.2.2 ws := jj_Dl hD
  have hFc := jj_own hDc hS hC.2.2.2.2.2.2.1
  refine va_callv (va_runV (As := As0) (rest := rest) ⟨hC.1, hC.2.1, hC.2.2.1, hC.2.2.2.1, hC.2.2.2.2.1⟩ (hM H.size) (cwV np hC.2.2.2.2.1 hg hw rfl rfl hdy ⟨by rw [hR0]; exact hR.1, by rw [hR0]; exact hR.2.1⟩) ⟨jj_blind, va_recv hC.2.2.2.2.2.1 hPc hc he, fun U hU hW => ⟨rfl, by rw [hU], by rw [hU]; exact hPc, va_K.moved hW.alike hC.2.2.2.2.2.1, hDc.weaken (fun _ _ _ _ => trivial)⟩⟩ rfl hn (hl.1.trans hC.2.2.1) hst (lv_room hcat) hd ⟨by rw [hR0]; exact hR.2.2.1, by rw [hR0]; exact hR.2.2.2⟩) hS (fun q _ h => hFc q h) hFc (fun u t H1 locs1 ht hvm hp hB hz1 hk1 hS1 => ?_)
  rw [ht] at hB
  obtain ⟨hP2, hD2⟩ := jj_joinL hP hD hk1 hFc hB.1 hB.2
  exact hk u hp H1 locs1 ls hP2 hD2 hS1 hl
theorem jj_scallvL {As0 : List Value} {post : S → Prop} (hC : jj_C cc nL ret Ts own rm tys E) (hM : jj_Mv E.1.2.1 E.2.2.1 tys y wsC rc As ws S post wsS) (hg : GoodIn Ts (va_wsS own index y wsC)) (hw : wsC = .code y bytes maxL rt :: wsC') (np : Nat) (hdy : y.cls ≠ "java/lang/invoke/MethodHandle" ∧ y.cls ≠ "java/lang/invoke/VarHandle" ∧ (parseMethodDescriptor y.desc).map (fun d => d.parameters.length) = some np) (hR : rc.frames + 1 ≤ rm.frames ∧ 8 + (maxL + 11) + rc.locals ≤ rm.locals ∧ k + rc.cells ≤ rm.cells ∧ n + rc.slots ≤ rm.slots) (hAs : As = As0) (hst : st0 = As0.reverse ++ rest) (hn : As0.length = np) (hcat : (rest.map fun v => v.category).sum ≤ 8) (hd : decode cc pc = .ok (.invokestatic index, 3)) (hk : ∀ (u : S), post u → jj_J E (k + rc.cells) (n + rc.slots) Q (wsS u ++ wr) (pc + 3) lv (rest)) : jj_J E k n Q (ws ++ wr) pc lv st0 := by
  intro H locs ls hP hD hS hl
  subst hAs
  have hR0 : E.1.2.2.2 = rm := hC.2.2.2.2.2.2.2.2.2
  have hPc : va_P E.2.2.1 vwCl ws H := jj_Pl hP
  have hDc : va_D E.2.2.2 ws := jj_Dl hD
  have hFc := jj_own hDc hS hC.2.2.2.2.2.2.1
  refine va_callv (va_runS (As := As) (rest := rest) ⟨hC.1, hC.2.1, hC.2.2.1, hC.2.2.2.1, hC.2.2.2.2.1⟩ (hM H.size) (va_cwS np hC.2.2.2.2.1 hg hw rfl rfl hdy ⟨by rw [hR0]; exact hR.1, by rw [hR0]; exact hR.2.1⟩) ⟨jj_blind, fun U hU hW => ⟨rfl, by rw [hU], by rw [hU]; exact hPc, va_K.moved hW.alike hC.2.2.2.2.2.1, hDc.weaken (fun _ _ _ _ => trivial)⟩⟩ rfl hn (hl.1.trans hC.2.2.1) hst (lv_room hcat) hd ⟨by rw [hR0]; exact hR.2.2.1, by rw [hR0]; exact hR.2.2.2⟩) hS (fun q _ h => hFc q h) hFc (fun u t H1 locs1 ht hvm hp hB hz1 hk1 hS1 => ?_)
  rw [ht] at hB
  obtain ⟨hP2, hD2⟩ := jj_joinL hP hD hk1 hFc hB.1 hB.2
  exact hk u hp H1 locs1 ls hP2 hD2 hS1 hl
theorem jj_callvR {As0 : List Value} {post : S → Prop} (hC : jj_C cc nL ret Ts own rm tys E) (hM : jj_Mv E.1.2.1 E.2.2.1 tys y wsC rc As ws S post wsS) (hg : GoodIn Ts (wsV own index C y wsC)) (hw : wsC = .code y bytes maxL rt :: wsC') (np : Nat) (hdy : y.cls = C ∧ y.cls ≠ "java/lang/invoke/MethodHandle" ∧ y.cls ≠ "java/lang/invoke/VarHandle" ∧ (parseMethodDescriptor y.desc).map (fun d => d.parameters.length) = some np) (hR : rc.frames + 1 ≤ rm.frames ∧ 8 + (maxL + 11) + rc.locals ≤ rm.locals ∧ k + rc.cells ≤ rm.cells ∧ n + rc.slots ≤ rm.slots) (q0 ci : Nat) {T : u_T} {N : Nat} {fs : List Value} (he : ws[q0]? = some (b, .inr (ci, fs))) (hc : vwCl[ci]? = some (C, T, N)) (hAs : As = .ref b :: As0) (hst : st0 = As0.reverse ++ .ref b :: rest) (hn : As0.length = np) (hcat : (rest.map fun v => v.category).sum ≤ 8) (hd : decode cc pc = .ok (.invokevirtual index, 3)) (hk : ∀ (u : S), post u → jj_J E (k + rc.cells) (n + rc.slots) Q (wr ++ wsS u) (pc + 3) lv (rest)) : jj_J E k n Q (wr ++ ws) pc lv st0 := by
  intro H locs ls hP hD hS hl
  subst hAs
  have hR0 : E.1.2.2.2 = rm := hC.2.2.2.2.2.2.2.2.2
  have hPc : va_P E.2.2.1 vwCl ws H := jj_Pr hP
  have hDc : va_D E.2.2.2 ws := jj_Dr hD
  have hFc := jj_own hDc hS hC.2.2.2.2.2.2.1
  refine va_callv (va_runV (As := As0) (rest := rest) ⟨hC.1, hC.2.1, hC.2.2.1, hC.2.2.2.1, hC.2.2.2.2.1⟩ (hM H.size) (cwV np hC.2.2.2.2.1 hg hw rfl rfl hdy ⟨by rw [hR0]; exact hR.1, by rw [hR0]; exact hR.2.1⟩) ⟨jj_blind, va_recv hC.2.2.2.2.2.1 hPc hc he, fun U hU hW => ⟨rfl, by rw [hU], by rw [hU]; exact hPc, va_K.moved hW.alike hC.2.2.2.2.2.1, hDc.weaken (fun _ _ _ _ => trivial)⟩⟩ rfl hn (hl.1.trans hC.2.2.1) hst (lv_room hcat) hd ⟨by rw [hR0]; exact hR.2.2.1, by rw [hR0]; exact hR.2.2.2⟩) hS (fun q _ h => hFc q h) hFc (fun u t H1 locs1 ht hvm hp hB hz1 hk1 hS1 => ?_)
  rw [ht] at hB
  obtain ⟨hP2, hD2⟩ := jj_joinR hP hD hk1 hFc hB.1 hB.2
  exact hk u hp H1 locs1 ls hP2 hD2 hS1 hl
theorem jj_scallvR {As0 : List Value} {post : S → Prop} (hC : jj_C cc nL ret Ts own rm tys E) (hM : jj_Mv E.1.2.1 E.2.2.1 tys y wsC rc As ws S post wsS) (hg : GoodIn Ts (va_wsS own index y wsC)) (hw : wsC = .code y bytes maxL rt :: wsC') (np : Nat) (hdy : y.cls ≠ "java/lang/invoke/MethodHandle" ∧ y.cls ≠ "java/lang/invoke/VarHandle" ∧ (parseMethodDescriptor y.desc).map (fun d => d.parameters.length) = some np) (hR : rc.frames + 1 ≤ rm.frames ∧ 8 + (maxL + 11) + rc.locals ≤ rm.locals ∧ k + rc.cells ≤ rm.cells ∧ n + rc.slots ≤ rm.slots) (hAs : As = As0) (hst : st0 = As0.reverse ++ rest) (hn : As0.length = np) (hcat : (rest.map fun v => v.category).sum ≤ 8) (hd : decode cc pc = .ok (.invokestatic index, 3)) (hk : ∀ (u : S), post u → jj_J E (k + rc.cells) (n + rc.slots) Q (wr ++ wsS u) (pc + 3) lv (rest)) : jj_J E k n Q (wr ++ ws) pc lv st0 := by
  intro H locs ls hP hD hS hl
  subst hAs
  have hR0 : E.1.2.2.2 = rm := hC.2.2.2.2.2.2.2.2.2
  have hPc : va_P E.2.2.1 vwCl ws H := jj_Pr hP
  have hDc : va_D E.2.2.2 ws := jj_Dr hD
  have hFc := jj_own hDc hS hC.2.2.2.2.2.2.1
  refine va_callv (va_runS (As := As) (rest := rest) ⟨hC.1, hC.2.1, hC.2.2.1, hC.2.2.2.1, hC.2.2.2.2.1⟩ (hM H.size) (va_cwS np hC.2.2.2.2.1 hg hw rfl rfl hdy ⟨by rw [hR0]; exact hR.1, by rw [hR0]; exact hR.2.1⟩) ⟨jj_blind, fun U hU hW => ⟨rfl, by rw [hU], by rw [hU]; exact hPc, va_K.moved hW.alike hC.2.2.2.2.2.1, hDc.weaken (fun _ _ _ _ => trivial)⟩⟩ rfl hn (hl.1.trans hC.2.2.1) hst (lv_room hcat) hd ⟨by rw [hR0]; exact hR.2.2.1, by rw [hR0]; exact hR.2.2.2⟩) hS (fun q _ h => hFc q h) hFc (fun u t H1 locs1 ht hvm hp hB hz1 hk1 hS1 => ?_)
  rw [ht] at hB
  obtain ⟨hP2, hD2⟩ := jj_joinR hP hD hk1 hFc hB.1 hB.2
  exact hk u hp H1 locs1 ls hP2 hD2 hS1 hl
theorem jj_calll {As0 : List Value} {post : Int64 → S → Prop} (hC : jj_C cc nL ret Ts own rm tys E) (hM : jj_Ml E.1.2.1 E.2.2.1 tys y wsC rc As ws S post wsS) (hg : GoodIn Ts (wsV own index C y wsC)) (hw : wsC = .code y bytes maxL rt :: wsC') (np : Nat) (hdy : y.cls = C ∧ y.cls ≠ "java/lang/invoke/MethodHandle" ∧ y.cls ≠ "java/lang/invoke/VarHandle" ∧ (parseMethodDescriptor y.desc).map (fun d => d.parameters.length) = some np) (hR : rc.frames + 1 ≤ rm.frames ∧ 8 + (maxL + 11) + rc.locals ≤ rm.locals ∧ k + rc.cells ≤ rm.cells ∧ n + rc.slots ≤ rm.slots) (q0 ci : Nat) {T : u_T} {N : Nat} {fs : List Value} (he : ws[q0]? = some (b, .inr (ci, fs))) (hc : vwCl[ci]? = some (C, T, N)) (hAs : As = .ref b :: As0) (hst : st0 = As0.reverse ++ .ref b :: rest) (hn : As0.length = np) (hcat : (rest.map fun v => v.category).sum ≤ 8) (hd : decode cc pc = .ok (.invokevirtual index, 3)) (hk : ∀ (r : Int64) (u : S), post r u → jj_J E (k + rc.cells) (n + rc.slots) Q (wsS u) (pc + 3) lv (.long r :: rest)) : jj_J E k n Q ws pc lv st0 := by
  intro H locs ls hP hD hS hl
  subst hAs
  have hR0 : E.1.2.2.2 = rm := hC.2.2.2.2.2.2.2.2.2
  have hPc : va_P E.2.2.1 vwCl ws H := hP
  have hDc : va_D E.2.2.2 ws := hD
  have hFc := jj_own hDc hS hC.2.2.2.2.2.2.1
  refine va_calll (va_runV (As := As0) (rest := rest) ⟨hC.1, hC.2.1, hC.2.2.1, hC.2.2.2.1, hC.2.2.2.2.1⟩ (hM H.size) (cwV np hC.2.2.2.2.1 hg hw rfl rfl hdy ⟨by rw [hR0]; exact hR.1, by rw [hR0]; exact hR.2.1⟩) ⟨jj_blind, va_recv hC.2.2.2.2.2.1 hPc hc he, fun U hU hW => ⟨rfl, by rw [hU], by rw [hU]; exact hPc, va_K.moved hW.alike hC.2.2.2.2.2.1, hDc.weaken (fun _ _ _ _ => trivial)⟩⟩ rfl hn (hl.1.trans hC.2.2.1) hst (lv_room hcat) hd ⟨by rw [hR0]; exact hR.2.2.1, by rw [hR0]; exact hR.2.2.2⟩) hS (fun q _ h => hFc q h) hFc (fun r u t H1 locs1 ht hvm hp hB hz1 hk1 hS1 => ?_)
  exact hk r u hp H1 locs1 ls (by rw [ht] at hB; exact hB.1) (hB.2.weaken (fun _ q _ h => hFc q.1 h)) hS1 hl
theorem jj_scalll {As0 : List Value} {post : Int64 → S → Prop} (hC : jj_C cc nL ret Ts own rm tys E) (hM : jj_Ml E.1.2.1 E.2.2.1 tys y wsC rc As ws S post wsS) (hg : GoodIn Ts (va_wsS own index y wsC)) (hw : wsC = .code y bytes maxL rt :: wsC') (np : Nat) (hdy : y.cls ≠ "java/lang/invoke/MethodHandle" ∧ y.cls ≠ "java/lang/invoke/VarHandle" ∧ (parseMethodDescriptor y.desc).map (fun d => d.parameters.length) = some np) (hR : rc.frames + 1 ≤ rm.frames ∧ 8 + (maxL + 11) + rc.locals ≤ rm.locals ∧ k + rc.cells ≤ rm.cells ∧ n + rc.slots ≤ rm.slots) (hAs : As = As0) (hst : st0 = As0.reverse ++ rest) (hn : As0.length = np) (hcat : (rest.map fun v => v.category).sum ≤ 8) (hd : decode cc pc = .ok (.invokestatic index, 3)) (hk : ∀ (r : Int64) (u : S), post r u → jj_J E (k + rc.cells) (n + rc.slots) Q (wsS u) (pc + 3) lv (.long r :: rest)) : jj_J E k n Q ws pc lv st0 := by
  intro H locs ls hP hD hS hl
  subst hAs
  have hR0 : E.1.2.2.2 = rm := hC.2.2.2.2.2.2.2.2.2
  have hPc : va_P E.2.2.1 vwCl ws H := hP
  have hDc : va_D E.2.2.2 ws := hD
  have hFc := jj_own hDc hS hC.2.2.2.2.2.2.1
  refine va_calll (va_runS (As := As) (rest := rest) ⟨hC.1, hC.2.1, hC.2.2.1, hC.2.2.2.1, hC.2.2.2.2.1⟩ (hM H.size) (va_cwS np hC.2.2.2.2.1 hg hw rfl rfl hdy ⟨by rw [hR0]; exact hR.1, by rw [hR0]; exact hR.2.1⟩) ⟨jj_blind, fun U hU hW => ⟨rfl, by rw [hU], by rw [hU]; exact hPc, va_K.moved hW.alike hC.2.2.2.2.2.1, hDc.weaken (fun _ _ _ _ => trivial)⟩⟩ rfl hn (hl.1.trans hC.2.2.1) hst (lv_room hcat) hd ⟨by rw [hR0]; exact hR.2.2.1, by rw [hR0]; exact hR.2.2.2⟩) hS (fun q _ h => hFc q h) hFc (fun r u t H1 locs1 ht hvm hp hB hz1 hk1 hS1 => ?_)
  exact hk r u hp H1 locs1 ls (by rw [ht] at hB; exact hB.1) (hB.2.weaken (fun _ q _ h => hFc q.1 h)) hS1 hl
theorem jj_calllL {As0 : List Value} {post : Int64 → S → Prop} (hC : jj_C cc nL ret Ts own rm tys E) (hM : jj_Ml E.1.2.1 E.2.2.1 tys y wsC rc As ws S post wsS) (hg : GoodIn Ts (wsV own index C y wsC)) (hw : wsC = .code y bytes maxL rt :: wsC') (np : Nat) (hdy : y.cls = C ∧ y.cls ≠ "java/lang/invoke/MethodHandle" ∧ y.cls ≠ "java/lang/invoke/VarHandle" ∧ (parseMethodDescriptor y.desc).map (fun d => d.parameters.length) = some np) (hR : rc.frames + 1 ≤ rm.frames ∧ 8 + (maxL + 11) + rc.locals ≤ rm.locals ∧ k + rc.cells ≤ rm.cells ∧ n + rc.slots ≤ rm.slots) (q0 ci : Nat) {T : u_T} {N : Nat} {fs : List Value} (he : ws[q0]? = some (b, .inr (ci, fs))) (hc : vwCl[ci]? = some (C, T, N)) (hAs : As = .ref b :: As0) (hst : st0 = As0.reverse ++ .ref b :: rest) (hn : As0.length = np) (hcat : (rest.map fun v => v.category).sum ≤ 8) (hd : decode cc pc = .ok (.invokevirtual index, 3)) (hk : ∀ (r : Int64) (u : S), post r u → jj_J E (k + rc.cells) (n + rc.slots) Q (wsS u ++ wr) (pc + 3) lv (.long r :: rest)) : jj_J E k n Q (ws ++ wr) pc lv st0 := by
  intro H locs ls hP hD hS hl
  subst hAs
  have hR0 : E.1.2.2.2 = rm := hC.2.2.2.2.2.2.2.2.2
  have hPc : va_P E.2.2.1 vwCl ws H := jj_Pl hP
  have hDc : va_D E.2.2.2 ws := jj_Dl hD
  have hFc := jj_own hDc hS hC.2.2.2.2.2.2.1
  refine va_calll (va_runV (As := As0) (rest := rest) ⟨hC.1, hC.2.1, hC.2.2.1, hC.2.2.2.1, hC.2.2.2.2.1⟩ (hM H.size) (cwV np hC.2.2.2.2.1 hg hw rfl rfl hdy ⟨by rw [hR0]; exact hR.1, by rw [hR0]; exact hR.2.1⟩) ⟨jj_blind, va_recv hC.2.2.2.2.2.1 hPc hc he, fun U hU hW => ⟨rfl, by rw [hU], by rw [hU]; exact hPc, va_K.moved hW.alike hC.2.2.2.2.2.1, hDc.weaken (fun _ _ _ _ => trivial)⟩⟩ rfl hn (hl.1.trans hC.2.2.1) hst (lv_room hcat) hd ⟨by rw [hR0]; exact hR.2.2.1, by rw [hR0]; exact hR.2.2.2⟩) hS (fun q _ h => hFc q h) hFc (fun r u t H1 locs1 ht hvm hp hB hz1 hk1 hS1 => ?_)
  rw [ht] at hB
  obtain ⟨hP2, hD2⟩ := jj_joinL hP hD hk1 hFc hB.1 hB.2
  exact hk r u hp H1 locs1 ls hP2 hD2 hS1 hl
theorem jj_scalllL {As0 : List Value} {post : Int64 → S → Prop} (hC : jj_C cc nL ret Ts own rm tys E) (hM : jj_Ml E.1.2.1 E.2.2.1 tys y wsC rc As ws S post wsS) (hg : GoodIn Ts (va_wsS own index y wsC)) (hw : wsC = .code y bytes maxL rt :: wsC') (np : Nat) (hdy : y.cls ≠ "java/lang/invoke/MethodHandle" ∧ y.cls ≠ "java/lang/invoke/VarHandle" ∧ (parseMethodDescriptor y.desc).map (fun d => d.parameters.length) = some np) (hR : rc.frames + 1 ≤ rm.frames ∧ 8 + (maxL + 11) + rc.locals ≤ rm.locals ∧ k + rc.cells ≤ rm.cells ∧ n + rc.slots ≤ rm.slots) (hAs : As = As0) (hst : st0 = As0.reverse ++ rest) (hn : As0.length = np) (hcat : (rest.map fun v => v.category).sum ≤ 8) (hd : decode cc pc = .ok (.invokestatic index, 3)) (hk : ∀ (r : Int64) (u : S), post r u → jj_J E (k + rc.cells) (n + rc.slots) Q (wsS u ++ wr) (pc + 3) lv (.long r :: rest)) : jj_J E k n Q (ws ++ wr) pc lv st0 := by
  intro H locs ls hP hD hS hl
  subst hAs
  have hR0 : E.1.2.2.2 = rm := hC.2.2.2.2.2.2.2.2.2
  have hPc : va_P E.2.2.1 vwCl ws H := jj_Pl hP
  have hDc : va_D E.2.2.2 ws := jj_Dl hD
  have hFc := jj_own hDc hS hC.2.2.2.2.2.2.1
  refine va_calll (va_runS (As := As) (rest := rest) ⟨hC.1, hC.2.1, hC.2.2.1, hC.2.2.2.1, hC.2.2.2.2.1⟩ (hM H.size) (va_cwS np hC.2.2.2.2.1 hg hw rfl rfl hdy ⟨by rw [hR0]; exact hR.1, by rw [hR0]; exact hR.2.1⟩) ⟨jj_blind, fun U hU hW => ⟨rfl, by rw [hU], by rw [hU]; exact hPc, va_K.moved hW.alike hC.2.2.2.2.2.1, hDc.weaken (fun _ _ _ _ => trivial)⟩⟩ rfl hn (hl.1.trans hC.2.2.1) hst (lv_room hcat) hd ⟨by rw [hR0]; exact hR.2.2.1, by rw [hR0]; exact hR.2.2.2⟩) hS (fun q _ h => hFc q h) hFc (fun r u t H1 locs1 ht hvm hp hB hz1 hk1 hS1 => ?_)
  rw [ht] at hB
  obtain ⟨hP2, hD2⟩ := jj_joinL hP hD hk1 hFc hB.1 hB.2
  exact hk r u hp H1 locs1 ls hP2 hD2 hS1 hl
theorem jj_calllR {As0 : List Value} {post : Int64 → S → Prop} (hC : jj_C cc nL ret Ts own rm tys E) (hM : jj_Ml E.1.2.1 E.2.2.1 tys y wsC rc As ws S post wsS) (hg : GoodIn Ts (wsV own index C y wsC)) (hw : wsC = .code y bytes maxL rt :: wsC') (np : Nat) (hdy : y.cls = C ∧ y.cls ≠ "java/lang/invoke/MethodHandle" ∧ y.cls ≠ "java/lang/invoke/VarHandle" ∧ (parseMethodDescriptor y.desc).map (fun d => d.parameters.length) = some np) (hR : rc.frames + 1 ≤ rm.frames ∧ 8 + (maxL + 11) + rc.locals ≤ rm.locals ∧ k + rc.cells ≤ rm.cells ∧ n + rc.slots ≤ rm.slots) (q0 ci : Nat) {T : u_T} {N : Nat} {fs : List Value} (he : ws[q0]? = some (b, .inr (ci, fs))) (hc : vwCl[ci]? = some (C, T, N)) (hAs : As = .ref b :: As0) (hst : st0 = As0.reverse ++ .ref b :: rest) (hn : As0.length = np) (hcat : (rest.map fun v => v.category).sum ≤ 8) (hd : decode cc pc = .ok (.invokevirtual index, 3)) (hk : ∀ (r : Int64) (u : S), post r u → jj_J E (k + rc.cells) (n + rc.slots) Q (wr ++ wsS u) (pc + 3) lv (.long r :: rest)) : jj_J E k n Q (wr ++ ws) pc lv st0 := by
  intro H locs ls hP hD hS hl
  subst hAs
  have hR0 : E.1.2.2.2 = rm := hC.2.2.2.2.2.2.2.2.2
  have hPc : va_P E.2.2.1 vwCl ws H := jj_Pr hP
  have hDc : va_D E.2.2.2 ws := jj_Dr hD
  have hFc := jj_own hDc hS hC.2.2.2.2.2.2.1
  refine va_calll (va_runV (As := As0) (rest := rest) ⟨hC.1, hC.2.1, hC.2.2.1, hC.2.2.2.1, hC.2.2.2.2.1⟩ (hM H.size) (cwV np hC.2.2.2.2.1 hg hw rfl rfl hdy ⟨by rw [hR0]; exact hR.1, by rw [hR0]; exact hR.2.1⟩) ⟨jj_blind, va_recv hC.2.2.2.2.2.1 hPc hc he, fun U hU hW => ⟨rfl, by rw [hU], by rw [hU]; exact hPc, va_K.moved hW.alike hC.2.2.2.2.2.1, hDc.weaken (fun _ _ _ _ => trivial)⟩⟩ rfl hn (hl.1.trans hC.2.2.1) hst (lv_room hcat) hd ⟨by rw [hR0]; exact hR.2.2.1, by rw [hR0]; exact hR.2.2.2⟩) hS (fun q _ h => hFc q h) hFc (fun r u t H1 locs1 ht hvm hp hB hz1 hk1 hS1 => ?_)
  rw [ht] at hB
  obtain ⟨hP2, hD2⟩ := jj_joinR hP hD hk1 hFc hB.1 hB.2
  exact hk r u hp H1 locs1 ls hP2 hD2 hS1 hl
theorem jj_scalllR {As0 : List Value} {post : Int64 → S → Prop} (hC : jj_C cc nL ret Ts own rm tys E) (hM : jj_Ml E.1.2.1 E.2.2.1 tys y wsC rc As ws S post wsS) (hg : GoodIn Ts (va_wsS own index y wsC)) (hw : wsC = .code y bytes maxL rt :: wsC') (np : Nat) (hdy : y.cls ≠ "java/lang/invoke/MethodHandle" ∧ y.cls ≠ "java/lang/invoke/VarHandle" ∧ (parseMethodDescriptor y.desc).map (fun d => d.parameters.length) = some np) (hR : rc.frames + 1 ≤ rm.frames ∧ 8 + (maxL + 11) + rc.locals ≤ rm.locals ∧ k + rc.cells ≤ rm.cells ∧ n + rc.slots ≤ rm.slots) (hAs : As = As0) (hst : st0 = As0.reverse ++ rest) (hn : As0.length = np) (hcat : (rest.map fun v => v.category).sum ≤ 8) (hd : decode cc pc = .ok (.invokestatic index, 3)) (hk : ∀ (r : Int64) (u : S), post r u → jj_J E (k + rc.cells) (n + rc.slots) Q (wr ++ wsS u) (pc + 3) lv (.long r :: rest)) : jj_J E k n Q (wr ++ ws) pc lv st0 := by
  intro H locs ls hP hD hS hl
  subst hAs
  have hR0 : E.1.2.2.2 = rm := hC.2.2.2.2.2.2.2.2.2
  have hPc : va_P E.2.2.1 vwCl ws H := jj_Pr hP
  have hDc : va_D E.2.2.2 ws := jj_Dr hD
  have hFc := jj_own hDc hS hC.2.2.2.2.2.2.1
  refine va_calll (va_runS (As := As) (rest := rest) ⟨hC.1, hC.2.1, hC.2.2.1, hC.2.2.2.1, hC.2.2.2.2.1⟩ (hM H.size) (va_cwS np hC.2.2.2.2.1 hg hw rfl rfl hdy ⟨by rw [hR0]; exact hR.1, by rw [hR0]; exact hR.2.1⟩) ⟨jj_blind, fun U hU hW => ⟨rfl, by rw [hU], by rw [hU]; exact hPc, va_K.moved hW.alike hC.2.2.2.2.2.1, hDc.weaken (fun _ _ _ _ => trivial)⟩⟩ rfl hn (hl.1.trans hC.2.2.1) hst (lv_room hcat) hd ⟨by rw [hR0]; exact hR.2.2.1, by rw [hR0]; exact hR.2.2.2⟩) hS (fun q _ h => hFc q h) hFc (fun r u t H1 locs1 ht hvm hp hB hz1 hk1 hS1 => ?_)
  rw [ht] at hB
  obtain ⟨hP2, hD2⟩ := jj_joinR hP hD hk1 hFc hB.1 hB.2
  exact hk r u hp H1 locs1 ls hP2 hD2 hS1 hl
theorem jj_calld {As0 : List Value} {post : UInt64 → S → Prop} (hC : jj_C cc nL ret Ts own rm tys E) (hM : jj_Md E.1.2.1 E.2.2.1 tys y wsC rc As ws S post wsS) (hg : GoodIn Ts (wsV own index C y wsC)) (hw : wsC = .code y bytes maxL rt :: wsC') (np : Nat) (hdy : y.cls = C ∧ y.cls ≠ "java/lang/invoke/MethodHandle" ∧ y.cls ≠ "java/lang/invoke/VarHandle" ∧ (parseMethodDescriptor y.desc).map (fun d => d.parameters.length) = some np) (hR : rc.frames + 1 ≤ rm.frames ∧ 8 + (maxL + 11) + rc.locals ≤ rm.locals ∧ k + rc.cells ≤ rm.cells ∧ n + rc.slots ≤ rm.slots) (q0 ci : Nat) {T : u_T} {N : Nat} {fs : List Value} (he : ws[q0]? = some (b, .inr (ci, fs))) (hc : vwCl[ci]? = some (C, T, N)) (hAs : As = .ref b :: As0) (hst : st0 = As0.reverse ++ .ref b :: rest) (hn : As0.length = np) (hcat : (rest.map fun v => v.category).sum ≤ 8) (hd : decode cc pc = .ok (.invokevirtual index, 3)) (hk : ∀ (r : UInt64) (u : S), post r u → jj_J E (k + rc.cells) (n + rc.slots) Q (wsS u) (pc + 3) lv (.double r :: rest)) : jj_J E k n Q ws pc lv st0 := by
  intro H locs ls hP hD hS hl
  subst hAs
  have hR0 : E.1.2.2.2 = rm := hC.2.2.2.2.2.2.2.2.2
  have hPc : va_P E.2.2.1 vwCl ws H := hP
  have hDc : va_D E.2.2.2 ws := hD
  have hFc := jj_own hDc hS hC.2.2.2.2.2.2.1
  refine va_calld (va_runV (As := As0) (rest := rest) ⟨hC.1, hC.2.1, hC.2.2.1, hC.2.2.2.1, hC.2.2.2.2.1⟩ (hM H.size) (cwV np hC.2.2.2.2.1 hg hw rfl rfl hdy ⟨by rw [hR0]; exact hR.1, by rw [hR0]; exact hR.2.1⟩) ⟨jj_blind, va_recv hC.2.2.2.2.2.1 hPc hc he, fun U hU hW => ⟨rfl, by rw [hU], by rw [hU]; exact hPc, va_K.moved hW.alike hC.2.2.2.2.2.1, hDc.weaken (fun _ _ _ _ => trivial)⟩⟩ rfl hn (hl.1.trans hC.2.2.1) hst (lv_room hcat) hd ⟨by rw [hR0]; exact hR.2.2.1, by rw [hR0]; exact hR.2.2.2⟩) hS (fun q _ h => hFc q h) hFc (fun r u t H1 locs1 ht hvm hp hB hz1 hk1 hS1 => ?_)
  exact hk r u hp H1 locs1 ls (by rw [ht] at hB; exact hB.1) (hB.2.weaken (fun _ q _ h => hFc q.1 h)) hS1 hl
theorem jj_scalld {As0 : List Value} {post : UInt64 → S → Prop} (hC : jj_C cc nL ret Ts own rm tys E) (hM : jj_Md E.1.2.1 E.2.2.1 tys y wsC rc As ws S post wsS) (hg : GoodIn Ts (va_wsS own index y wsC)) (hw : wsC = .code y bytes maxL rt :: wsC') (np : Nat) (hdy : y.cls ≠ "java/lang/invoke/MethodHandle" ∧ y.cls ≠ "java/lang/invoke/VarHandle" ∧ (parseMethodDescriptor y.desc).map (fun d => d.parameters.length) = some np) (hR : rc.frames + 1 ≤ rm.frames ∧ 8 + (maxL + 11) + rc.locals ≤ rm.locals ∧ k + rc.cells ≤ rm.cells ∧ n + rc.slots ≤ rm.slots) (hAs : As = As0) (hst : st0 = As0.reverse ++ rest) (hn : As0.length = np) (hcat : (rest.map fun v => v.category).sum ≤ 8) (hd : decode cc pc = .ok (.invokestatic index, 3)) (hk : ∀ (r : UInt64) (u : S), post r u → jj_J E (k + rc.cells) (n + rc.slots) Q (wsS u) (pc + 3) lv (.double r :: rest)) : jj_J E k n Q ws pc lv st0 := by
  intro H locs ls hP hD hS hl
  subst hAs
  have hR0 : E.1.2.2.2 = rm := hC.2.2.2.2.2.2.2.2.2
  have hPc : va_P E.2.2.1 vwCl ws H := hP
  have hDc : va_D E.2.2.2 ws := hD
  have hFc := jj_own hDc hS hC.2.2.2.2.2.2.1
  refine va_calld (va_runS (As := As) (rest := rest) ⟨hC.1, hC.2.1, hC.2.2.1, hC.2.2.2.1, hC.2.2.2.2.1⟩ (hM H.size) (va_cwS np hC.2.2.2.2.1 hg hw rfl rfl hdy ⟨by rw [hR0]; exact hR.1, by rw [hR0]; exact hR.2.1⟩) ⟨jj_blind, fun U hU hW => ⟨rfl, by rw [hU], by rw [hU]; exact hPc, va_K.moved hW.alike hC.2.2.2.2.2.1, hDc.weaken (fun _ _ _ _ => trivial)⟩⟩ rfl hn (hl.1.trans hC.2.2.1) hst (lv_room hcat) hd ⟨by rw [hR0]; exact hR.2.2.1, by rw [hR0]; exact hR.2.2.2⟩) hS (fun q _ h => hFc q h) hFc (fun r u t H1 locs1 ht hvm hp hB hz1 hk1 hS1 => ?_)
  exact hk r u hp H1 locs1 ls (by rw [ht] at hB; exact hB.1) (hB.2.weaken (fun _ q _ h => hFc q.1 h)) hS1 hl
theorem jj_calldL {As0 : List Value} {post : UInt64 → S → Prop} (hC : jj_C cc nL ret Ts own rm tys E) (hM : jj_Md E.1.2.1 E.2.2.1 tys y wsC rc As ws S post wsS) (hg : GoodIn Ts (wsV own index C y wsC)) (hw : wsC = .code y bytes maxL rt :: wsC') (np : Nat) (hdy : y.cls = C ∧ y.cls ≠ "java/lang/invoke/MethodHandle" ∧ y.cls ≠ "java/lang/invoke/VarHandle" ∧ (parseMethodDescriptor y.desc).map (fun d => d.parameters.length) = some np) (hR : rc.frames + 1 ≤ rm.frames ∧ 8 + (maxL + 11) + rc.locals ≤ rm.locals ∧ k + rc.cells ≤ rm.cells ∧ n + rc.slots ≤ rm.slots) (q0 ci : Nat) {T : u_T} {N : Nat} {fs : List Value} (he : ws[q0]? = some (b, .inr (ci, fs))) (hc : vwCl[ci]? = some (C, T, N)) (hAs : As = .ref b :: As0) (hst : st0 = As0.reverse ++ .ref b :: rest) (hn : As0.length = np) (hcat : (rest.map fun v => v.category).sum ≤ 8) (hd : decode cc pc = .ok (.invokevirtual index, 3)) (hk : ∀ (r : UInt64) (u : S), post r u → jj_J E (k + rc.cells) (n + rc.slots) Q (wsS u ++ wr) (pc + 3) lv (.double r :: rest)) : jj_J E k n Q (ws ++ wr) pc lv st0 := by
  intro H locs ls hP hD hS hl
  subst hAs
  have hR0 : E.1.2.2.2 = rm := hC.2.2.2.2.2.2.2.2.2
  have hPc : va_P E.2.2.1 vwCl ws H := jj_Pl hP
  have hDc : va_D E.2.2.2 ws := jj_Dl hD
  have hFc := jj_own hDc hS hC.2.2.2.2.2.2.1
  refine va_calld (va_runV (As := As0) (rest := rest) ⟨hC.1, hC.2.1, hC.2.2.1, hC.2.2.2.1, hC.2.2.2.2.1⟩ (hM H.size) (cwV np hC.2.2.2.2.1 hg hw rfl rfl hdy ⟨by rw [hR0]; exact hR.1, by rw [hR0]; exact hR.2.1⟩) ⟨jj_blind, va_recv hC.2.2.2.2.2.1 hPc hc he, fun U hU hW => ⟨rfl, by rw [hU], by rw [hU]; exact hPc, va_K.moved hW.alike hC.2.2.2.2.2.1, hDc.weaken (fun _ _ _ _ => trivial)⟩⟩ rfl hn (hl.1.trans hC.2.2.1) hst (lv_room hcat) hd ⟨by rw [hR0]; exact hR.2.2.1, by rw [hR0]; exact hR.2.2.2⟩) hS (fun q _ h => hFc q h) hFc (fun r u t H1 locs1 ht hvm hp hB hz1 hk1 hS1 => ?_)
  rw [ht] at hB
  obtain ⟨hP2, hD2⟩ := jj_joinL hP hD hk1 hFc hB.1 hB.2
  exact hk r u hp H1 locs1 ls hP2 hD2 hS1 hl
theorem jj_scalldL {As0 : List Value} {post : UInt64 → S → Prop} (hC : jj_C cc nL ret Ts own rm tys E) (hM : jj_Md E.1.2.1 E.2.2.1 tys y wsC rc As ws S post wsS) (hg : GoodIn Ts (va_wsS own index y wsC)) (hw : wsC = .code y bytes maxL rt :: wsC') (np : Nat) (hdy : y.cls ≠ "java/lang/invoke/MethodHandle" ∧ y.cls ≠ "java/lang/invoke/VarHandle" ∧ (parseMethodDescriptor y.desc).map (fun d => d.parameters.length) = some np) (hR : rc.frames + 1 ≤ rm.frames ∧ 8 + (maxL + 11) + rc.locals ≤ rm.locals ∧ k + rc.cells ≤ rm.cells ∧ n + rc.slots ≤ rm.slots) (hAs : As = As0) (hst : st0 = As0.reverse ++ rest) (hn : As0.length = np) (hcat : (rest.map fun v => v.category).sum ≤ 8) (hd : decode cc pc = .ok (.invokestatic index, 3)) (hk : ∀ (r : UInt64) (u : S), post r u → jj_J E (k + rc.cells) (n + rc.slots) Q (wsS u ++ wr) (pc + 3) lv (.double r :: rest)) : jj_J E k n Q (ws ++ wr) pc lv st0 := by
  intro H locs ls hP hD hS hl
  subst hAs
  have hR0 : E.1.2.2.2 = rm := hC.2.2.2.2.2.2.2.2.2
  have hPc : va_P E.2.2.1 vwCl ws H := jj_Pl hP
  have hDc : va_D E.2.2.2 ws := jj_Dl hD
  have hFc := jj_own hDc hS hC.2.2.2.2.2.2.1
  refine va_calld (va_runS (As := As) (rest := rest) ⟨hC.1, hC.2.1, hC.2.2.1, hC.2.2.2.1, hC.2.2.2.2.1⟩ (hM H.size) (va_cwS np hC.2.2.2.2.1 hg hw rfl rfl hdy ⟨by rw [hR0]; exact hR.1, by rw [hR0]; exact hR.2.1⟩) ⟨jj_blind, fun U hU hW => ⟨rfl, by rw [hU], by rw [hU]; exact hPc, va_K.moved hW.alike hC.2.2.2.2.2.1, hDc.weaken (fun _ _ _ _ => trivial)⟩⟩ rfl hn (hl.1.trans hC.2.2.1) hst (lv_room hcat) hd ⟨by rw [hR0]; exact hR.2.2.1, by rw [hR0]; exact hR.2.2.2⟩) hS (fun q _ h => hFc q h) hFc (fun r u t H1 locs1 ht hvm hp hB hz1 hk1 hS1 => ?_)
  rw [ht] at hB
  obtain ⟨hP2, hD2⟩ := jj_joinL hP hD hk1 hFc hB.1 hB.2
  exact hk r u hp H1 locs1 ls hP2 hD2 hS1 hl
theorem jj_calldR {As0 : List Value} {post : UInt64 → S → Prop} (hC : jj_C cc nL ret Ts own rm tys E) (hM : jj_Md E.1.2.1 E.2.2.1 tys y wsC rc As ws S post wsS) (hg : GoodIn Ts (wsV own index C y wsC)) (hw : wsC = .code y bytes maxL rt :: wsC') (np : Nat) (hdy : y.cls = C ∧ y.cls ≠ "java/lang/invoke/MethodHandle" ∧ y.cls ≠ "java/lang/invoke/VarHandle" ∧ (parseMethodDescriptor y.desc).map (fun d => d.parameters.length) = some np) (hR : rc.frames + 1 ≤ rm.frames ∧ 8 + (maxL + 11) + rc.locals ≤ rm.locals ∧ k + rc.cells ≤ rm.cells ∧ n + rc.slots ≤ rm.slots) (q0 ci : Nat) {T : u_T} {N : Nat} {fs : List Value} (he : ws[q0]? = some (b, .inr (ci, fs))) (hc : vwCl[ci]? = some (C, T, N)) (hAs : As = .ref b :: As0) (hst : st0 = As0.reverse ++ .ref b :: rest) (hn : As0.length = np) (hcat : (rest.map fun v => v.category).sum ≤ 8) (hd : decode cc pc = .ok (.invokevirtual index, 3)) (hk : ∀ (r : UInt64) (u : S), post r u → jj_J E (k + rc.cells) (n + rc.slots) Q (wr ++ wsS u) (pc + 3) lv (.double r :: rest)) : jj_J E k n Q (wr ++ ws) pc lv st0 := by
  intro H locs ls hP hD hS hl
  subst hAs
  have hR0 : E.1.2.2.2 = rm := hC.2.2.2.2.2.2.2.2.2
  have hPc : va_P E.2.2.1 vwCl ws H := jj_Pr hP
  have hDc : va_D E.2.2.2 ws := jj_Dr hD
  have hFc := jj_own hDc hS hC.2.2.2.2.2.2.1
  refine va_calld (va_runV (As := As0) (rest := rest) ⟨hC.1, hC.2.1, hC.2.2.1, hC.2.2.2.1, hC.2.2.2.2.1⟩ (hM H.size) (cwV np hC.2.2.2.2.1 hg hw rfl rfl hdy ⟨by rw [hR0]; exact hR.1, by rw [hR0]; exact hR.2.1⟩) ⟨jj_blind, va_recv hC.2.2.2.2.2.1 hPc hc he, fun U hU hW => ⟨rfl, by rw [hU], by rw [hU]; exact hPc, va_K.moved hW.alike hC.2.2.2.2.2.1, hDc.weaken (fun _ _ _ _ => trivial)⟩⟩ rfl hn (hl.1.trans hC.2.2.1) hst (lv_room hcat) hd ⟨by rw [hR0]; exact hR.2.2.1, by rw [hR0]; exact hR.2.2.2⟩) hS (fun q _ h => hFc q h) hFc (fun r u t H1 locs1 ht hvm hp hB hz1 hk1 hS1 => ?_)
  rw [ht] at hB
  obtain ⟨hP2, hD2⟩ := jj_joinR hP hD hk1 hFc hB.1 hB.2
  exact hk r u hp H1 locs1 ls hP2 hD2 hS1 hl
theorem jj_scalldR {As0 : List Value} {post : UInt64 → S → Prop} (hC : jj_C cc nL ret Ts own rm tys E) (hM : jj_Md E.1.2.1 E.2.2.1 tys y wsC rc As ws S post wsS) (hg : GoodIn Ts (va_wsS own index y wsC)) (hw : wsC = .code y bytes maxL rt :: wsC') (np : Nat) (hdy : y.cls ≠ "java/lang/invoke/MethodHandle" ∧ y.cls ≠ "java/lang/invoke/VarHandle" ∧ (parseMethodDescriptor y.desc).map (fun d => d.parameters.length) = some np) (hR : rc.frames + 1 ≤ rm.frames ∧ 8 + (maxL + 11) + rc.locals ≤ rm.locals ∧ k + rc.cells ≤ rm.cells ∧ n + rc.slots ≤ rm.slots) (hAs : As = As0) (hst : st0 = As0.reverse ++ rest) (hn : As0.length = np) (hcat : (rest.map fun v => v.category).sum ≤ 8) (hd : decode cc pc = .ok (.invokestatic index, 3)) (hk : ∀ (r : UInt64) (u : S), post r u → jj_J E (k + rc.cells) (n + rc.slots) Q (wr ++ wsS u) (pc + 3) lv (.double r :: rest)) : jj_J E k n Q (wr ++ ws) pc lv st0 := by
  intro H locs ls hP hD hS hl
  subst hAs
  have hR0 : E.1.2.2.2 = rm := hC.2.2.2.2.2.2.2.2.2
  have hPc : va_P E.2.2.1 vwCl ws H := jj_Pr hP
  have hDc : va_D E.2.2.2 ws := jj_Dr hD
  have hFc := jj_own hDc hS hC.2.2.2.2.2.2.1
  refine va_calld (va_runS (As := As) (rest := rest) ⟨hC.1, hC.2.1, hC.2.2.1, hC.2.2.2.1, hC.2.2.2.2.1⟩ (hM H.size) (va_cwS np hC.2.2.2.2.1 hg hw rfl rfl hdy ⟨by rw [hR0]; exact hR.1, by rw [hR0]; exact hR.2.1⟩) ⟨jj_blind, fun U hU hW => ⟨rfl, by rw [hU], by rw [hU]; exact hPc, va_K.moved hW.alike hC.2.2.2.2.2.1, hDc.weaken (fun _ _ _ _ => trivial)⟩⟩ rfl hn (hl.1.trans hC.2.2.1) hst (lv_room hcat) hd ⟨by rw [hR0]; exact hR.2.2.1, by rw [hR0]; exact hR.2.2.2⟩) hS (fun q _ h => hFc q h) hFc (fun r u t H1 locs1 ht hvm hp hB hz1 hk1 hS1 => ?_)
  rw [ht] at hB
  obtain ⟨hP2, hD2⟩ := jj_joinR hP hD hk1 hFc hB.1 hB.2
  exact hk r u hp H1 locs1 ls hP2 hD2 hS1 hl
end CALLS
end
section
/-! ===== what the museum answers, in natural numbers ===== -/
/-- what holds of every state that calls can make -/
def ts_I (v : ts_V) : Prop := ts_n v ≤ 36 ∧ ts_k v ≤ 7 ∧ (∀ t, t < ts_n v → ts_se v t < 8 ∧ ts_nu v t < 6 ∧ ts_ha v t < 20 ∧ ts_st v t ≤ 9 ∧ ts_ow v t < ts_k v) ∧ (∀ t, ts_n v ≤ t → ts_wk v t = 0) ∧ (∀ c s, ts_li v c s ≤ 5) ∧ (∀ c o, ts_gr v c o ≤ 9 ∧ ((ts_k v ≤ c ∨ ts_k v ≤ o) → ts_gr v c o = 0))
def ts_cnt (p : Nat → Bool) : Nat → Nat
  | 0 => 0
  | n + 1 => ts_cnt p n + (if p n then 1 else 0)
def ts_sum (f : Nat → Nat) : Nat → Nat
  | 0 => 0
  | n + 1 => ts_sum f n + f n
def ts_or (p : Nat → Bool) (b : Nat → Nat) : Nat → Int32
  | 0 => 0
  | n + 1 => if p n then ts_or p b n ||| ((1 : Int32) <<< (nI (b n) &&& 31)) else ts_or p b n
/-- of the thimbles below n with p, of set s and number k: the greatest state and 1; 0 without one -/
def ts_gs (p : Nat → Bool) (se nu st : Nat → Nat) (s k : Nat) : Nat → Nat
  | 0 => 0
  | n + 1 => if p n && (se n == s && nu n == k) then max (ts_gs p se nu st s k n) (1 + st n) else ts_gs p se nu st s k n
/-- Integer.bitCount, as its bytecode goes -/
def ts_sh (x : Int32) (k : Int32) : Int32 := (x.toUInt32 >>> (k.toUInt32 &&& Int32.toUInt32 31)).toInt32
def ts_bc (x : Int32) : Int32 :=
  (fun (a : Int32) => (fun (b : Int32) => (fun (c : Int32) => (fun (d : Int32) => (d + ts_sh d 16) &&& 63) (c + ts_sh c 8)) ((b + ts_sh b 4) &&& 252645135)) ((a &&& 858993459) + (ts_sh a 2 &&& 858993459))) (x - (ts_sh x 1 &&& 1431655765))
def ts_bcN (x : Int32) : Nat := (ts_bc x).toNatClampNeg
theorem ts_bc_eq (x : Int32) : ts_bc x = nI (ts_bcN x) ∧ ts_bcN x < 64 := by
  obtain ⟨j, hj, e⟩ := pk_andE ((fun (a : Int32) => (fun (b : Int32) => (fun (c : Int32) => (fun (d : Int32) => (d + ts_sh d 16)) (c + ts_sh c 8)) ((b + ts_sh b 4) &&& 252645135)) ((a &&& 858993459) + (ts_sh a 2 &&& 858993459))) (x - (ts_sh x 1 &&& 1431655765))) (m := 63) 6 (by decide)
  have e2 : ts_bc x = nI j := e
  unfold ts_bcN
  rw [e2, nI_clamp (by omega)]
  exact ⟨rfl, hj⟩
def ts_lt (v : ts_V) (t : Nat) : Bool := decide (ts_ti v t ≠ -1)
abbrev ts_g (v : ts_V) (p : Nat → Bool) (s k : Nat) : Nat := ts_gs p (ts_se v) (ts_nu v) (ts_st v) s k (ts_n v)
/-- how many different numbers, and their greatest states, added -/
def ts_nums (v : ts_V) (p : Nat → Bool) (s : Nat) : Nat := ts_cnt (fun k => decide (0 < ts_g v p s k)) 6
def ts_stts (v : ts_V) (p : Nat → Bool) (s : Nat) : Nat := ts_sum (fun k => ts_g v p s k - 1) 6
def ts_hm (v : ts_V) (p : Nat → Bool) : Nat := ts_bcN (ts_or p (ts_ha v) (ts_n v))
/-- the worth of the thimbles with p to one who likes the sets so -/
def ts_wo (v : ts_V) (p : Nat → Bool) (li : Nat → Nat) : Nat := 3 * ts_hm v p + ts_sum (fun s => li s * 2 * ts_nums v p s * ts_nums v p s + ts_stts v p s) 8
def ts_of (v : ts_V) (c : Nat) : Nat → Bool := fun t => ts_ow v t == c
def ts_af (v : ts_V) (c x y : Nat) : Nat → Bool := fun t => t == y || (t != x && ts_ow v t == c)
def ts_now (v : ts_V) (c : Nat) : Nat := ts_wo v (ts_of v c) (ts_li v c)
def ts_aft (v : ts_V) (c x y : Nat) : Nat := ts_wo v (ts_af v c x y) (ts_li v c)
/-- what the owner of x gains by y for it -/
def ts_gain (v : ts_V) (x y : Nat) : Int32 := nI (ts_aft v (ts_ow v x) x y) - nI (ts_now v (ts_ow v x))
def ts_en (v : ts_V) (z : Int32) (c o : Nat) : Bool := decide (nI (2 * ts_gr v c o) < z)
def ts_all (v : ts_V) : Nat := ts_sum (fun c => ts_now v c) (ts_k v)
def ts_whole (v : ts_V) (c : Nat) : Nat := ts_cnt (fun s => decide (ts_nums v (ts_of v c) s = 6)) 8
def ts_soft (f : Nat → Nat → Nat) (c o : Nat) : Nat → Nat → Nat := ts_up2 f c o (f c o - 1)
def ts_rese (f : Nat → Nat → Nat) (c o : Nat) : Nat → Nat → Nat := ts_up2 f c o (min (f c o + 1) 9)
/-- both thimbles change hands -/
def ts_exch (v : ts_V) (x y : Nat) : ts_V := ts_ow' v (va_up (va_up (ts_ow v) x (ts_ow v y)) y (ts_ow v x))
def ts_swp (v : ts_V) (x y : Nat) : ts_V :=
  (fun (u : ts_V) => (fun (u2 : ts_V) => (fun (u3 : ts_V) => ts_ag' u3 (ts_ag u3 + 1))
    (ts_sw' u2 (va_up (va_up (ts_sw u2) (ts_ow v x) (ts_sw u2 (ts_ow v x) + 1)) (ts_ow v y) (va_up (ts_sw u2) (ts_ow v x) (ts_sw u2 (ts_ow v x) + 1) (ts_ow v y) + 1))))
    (ts_gr' u (ts_soft (ts_soft (ts_gr u) (ts_ow v x) (ts_ow v y)) (ts_ow v y) (ts_ow v x)))) (ts_exch v x y)
def ts_home (v : ts_V) (t c : Nat) : Bool := ts_ow v t == c && !(ts_lt v t)
/-- the search of the best swap of c's with o's -/
def ts_bstep (v : ts_V) (c o x y : Nat) (s : Int32 × Int32) : Int32 × Int32 :=
  if ts_home v y o = true ∧ ts_en v (ts_gain v x y) c o = true ∧ ts_en v (ts_gain v y x) o c = true ∧ s.2 < ts_gain v x y + ts_gain v y x then (nI (36 * x + y), ts_gain v x y + ts_gain v y x) else s
def ts_bin (v : ts_V) (c o x : Nat) (s : Int32 × Int32) : Nat → Int32 × Int32
  | 0 => s
  | y + 1 => ts_bstep v c o x y (ts_bin v c o x s y)
def ts_bout (v : ts_V) (c o : Nat) : Nat → Int32 × Int32
  | 0 => (-1, 0)
  | x + 1 => if ts_home v x c = true then ts_bin v c o x (ts_bout v c o x) (ts_n v) else ts_bout v c o x
def ts_best (v : ts_V) (c o : Nat) : Int32 := (ts_bout v c o (ts_n v)).1
end
