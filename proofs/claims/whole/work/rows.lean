section
-- ===== PART A: goes FIRST, ahead of the names: the tables' words, and 'selects' of the private methods out of them =====
/-- a private method of a class that the tables say can be made, by its rows of tables_1 -/
def lw_okq (q : MethodName × Nat) : Prop := (q.1.cls ≠ "java/lang/invoke/MethodHandle" ∧ q.1.cls ≠ "java/lang/invoke/VarHandle") ∧ Cond.instantiable q.1.cls q.2 ∈ tables_1 ∧ Cond.privateMethod q.1 ∈ tables_1 ∧ Cond.instanceMethod q.1 ∈ tables_1
theorem lw_p0 : lw_okq (⟨"DeferredDesk$Reader", "advance", "()V"⟩, 9) := ⟨⟨by decide +kernel, by decide +kernel⟩, List.mem_of_getElem? (i := 47) (by decide +kernel), List.mem_of_getElem? (i := 250) (by decide +kernel), List.mem_of_getElem? (i := 251) (by decide +kernel)⟩
theorem lw_p1 : lw_okq (⟨"DeferredDesk$Reader", "takeRun", "()V"⟩, 9) := ⟨⟨by decide +kernel, by decide +kernel⟩, List.mem_of_getElem? (i := 47) (by decide +kernel), List.mem_of_getElem? (i := 261) (by decide +kernel), List.mem_of_getElem? (i := 262) (by decide +kernel)⟩
theorem lw_p2 : lw_okq (⟨"DeferredDesk$Reader", "lineThatComes", "()LDeferredDesk$Line;"⟩, 9) := ⟨⟨by decide +kernel, by decide +kernel⟩, List.mem_of_getElem? (i := 47) (by decide +kernel), List.mem_of_getElem? (i := 271) (by decide +kernel), List.mem_of_getElem? (i := 272) (by decide +kernel)⟩
theorem lw_p3 : lw_okq (⟨"DeferredDesk$Reader", "isWord", "(Ljava/lang/String;)Z"⟩, 9) := ⟨⟨by decide +kernel, by decide +kernel⟩, List.mem_of_getElem? (i := 47) (by decide +kernel), List.mem_of_getElem? (i := 277) (by decide +kernel), List.mem_of_getElem? (i := 278) (by decide +kernel)⟩
theorem lw_p4 : lw_okq (⟨"DeferredDesk$Reader", "mayCome", "(LDeferredDesk$Line;)Z"⟩, 9) := ⟨⟨by decide +kernel, by decide +kernel⟩, List.mem_of_getElem? (i := 47) (by decide +kernel), List.mem_of_getElem? (i := 329) (by decide +kernel), List.mem_of_getElem? (i := 330) (by decide +kernel)⟩
theorem lw_p5 : lw_okq (⟨"DeferredDesk$Reader", "refuse", "(I)Z"⟩, 9) := ⟨⟨by decide +kernel, by decide +kernel⟩, List.mem_of_getElem? (i := 47) (by decide +kernel), List.mem_of_getElem? (i := 337) (by decide +kernel), List.mem_of_getElem? (i := 338) (by decide +kernel)⟩
theorem lw_p6 : lw_okq (⟨"DeferredDesk$Reader", "isOneMore", "(LDeferredDesk$Line;)Z"⟩, 9) := ⟨⟨by decide +kernel, by decide +kernel⟩, List.mem_of_getElem? (i := 47) (by decide +kernel), List.mem_of_getElem? (i := 341) (by decide +kernel), List.mem_of_getElem? (i := 342) (by decide +kernel)⟩
theorem lw_p7 : lw_okq (⟨"DeferredDesk$Reader", "readsNumbers", "(Ljava/lang/String;)Z"⟩, 9) := ⟨⟨by decide +kernel, by decide +kernel⟩, List.mem_of_getElem? (i := 47) (by decide +kernel), List.mem_of_getElem? (i := 353) (by decide +kernel), List.mem_of_getElem? (i := 354) (by decide +kernel)⟩
theorem lw_p8 : lw_okq (⟨"DeferredDesk$Reader", "least", "(C)I"⟩, 9) := ⟨⟨by decide +kernel, by decide +kernel⟩, List.mem_of_getElem? (i := 47) (by decide +kernel), List.mem_of_getElem? (i := 357) (by decide +kernel), List.mem_of_getElem? (i := 358) (by decide +kernel)⟩
theorem lw_p9 : lw_okq (⟨"DeferredDesk$Reader", "most", "(C)I"⟩, 9) := ⟨⟨by decide +kernel, by decide +kernel⟩, List.mem_of_getElem? (i := 47) (by decide +kernel), List.mem_of_getElem? (i := 361) (by decide +kernel), List.mem_of_getElem? (i := 362) (by decide +kernel)⟩
theorem lw_p10 : lw_okq (⟨"DeferredDesk$Reader", "enter", "(LDeferredDesk$Line;)V"⟩, 9) := ⟨⟨by decide +kernel, by decide +kernel⟩, List.mem_of_getElem? (i := 47) (by decide +kernel), List.mem_of_getElem? (i := 366) (by decide +kernel), List.mem_of_getElem? (i := 367) (by decide +kernel)⟩
theorem lw_p11 : lw_okq (⟨"DeferredDesk$Book", "partsUpTo", "(II)I"⟩, 9) := ⟨⟨by decide +kernel, by decide +kernel⟩, List.mem_of_getElem? (i := 151) (by decide +kernel), List.mem_of_getElem? (i := 404) (by decide +kernel), List.mem_of_getElem? (i := 405) (by decide +kernel)⟩
theorem lw_p12 : lw_okq (⟨"DeferredDesk", "isYearToCome", "(II)Z"⟩, 7) := ⟨⟨by decide +kernel, by decide +kernel⟩, List.mem_of_getElem? (i := 23) (by decide +kernel), List.mem_of_getElem? (i := 420) (by decide +kernel), List.mem_of_getElem? (i := 421) (by decide +kernel)⟩
theorem lw_p13 : lw_okq (⟨"DeferredDesk$Cover", "addParts", "(LDeferredDesk$Book;I[I)V"⟩, 10) := ⟨⟨by decide +kernel, by decide +kernel⟩, List.mem_of_getElem? (i := 85) (by decide +kernel), List.mem_of_getElem? (i := 436) (by decide +kernel), List.mem_of_getElem? (i := 437) (by decide +kernel)⟩
theorem lw_p14 : lw_okq (⟨"DeferredDesk$Cover", "coverYear", "(II)V"⟩, 10) := ⟨⟨by decide +kernel, by decide +kernel⟩, List.mem_of_getElem? (i := 85) (by decide +kernel), List.mem_of_getElem? (i := 460) (by decide +kernel), List.mem_of_getElem? (i := 461) (by decide +kernel)⟩
theorem lw_p15 : lw_okq (⟨"DeferredDesk$Cover", "useEarliest", "(II)V"⟩, 10) := ⟨⟨by decide +kernel, by decide +kernel⟩, List.mem_of_getElem? (i := 85) (by decide +kernel), List.mem_of_getElem? (i := 467) (by decide +kernel), List.mem_of_getElem? (i := 468) (by decide +kernel)⟩
def lw_privs_1 : List (MethodName × Nat) := [(⟨"DeferredDesk$Reader", "advance", "()V"⟩, 9), (⟨"DeferredDesk$Reader", "takeRun", "()V"⟩, 9), (⟨"DeferredDesk$Reader", "lineThatComes", "()LDeferredDesk$Line;"⟩, 9), (⟨"DeferredDesk$Reader", "isWord", "(Ljava/lang/String;)Z"⟩, 9), (⟨"DeferredDesk$Reader", "mayCome", "(LDeferredDesk$Line;)Z"⟩, 9), (⟨"DeferredDesk$Reader", "refuse", "(I)Z"⟩, 9), (⟨"DeferredDesk$Reader", "isOneMore", "(LDeferredDesk$Line;)Z"⟩, 9), (⟨"DeferredDesk$Reader", "readsNumbers", "(Ljava/lang/String;)Z"⟩, 9), (⟨"DeferredDesk$Reader", "least", "(C)I"⟩, 9), (⟨"DeferredDesk$Reader", "most", "(C)I"⟩, 9), (⟨"DeferredDesk$Reader", "enter", "(LDeferredDesk$Line;)V"⟩, 9), (⟨"DeferredDesk$Book", "partsUpTo", "(II)I"⟩, 9), (⟨"DeferredDesk", "isYearToCome", "(II)Z"⟩, 7), (⟨"DeferredDesk$Cover", "addParts", "(LDeferredDesk$Book;I[I)V"⟩, 10), (⟨"DeferredDesk$Cover", "coverYear", "(II)V"⟩, 10), (⟨"DeferredDesk$Cover", "useEarliest", "(II)V"⟩, 10)]
theorem lw_r1 : ∀ q ∈ lw_privs_1, lw_okq q := List.forall_mem_cons.mpr ⟨lw_p0, List.forall_mem_cons.mpr ⟨lw_p1, List.forall_mem_cons.mpr ⟨lw_p2, List.forall_mem_cons.mpr ⟨lw_p3, List.forall_mem_cons.mpr ⟨lw_p4, List.forall_mem_cons.mpr ⟨lw_p5, List.forall_mem_cons.mpr ⟨lw_p6, List.forall_mem_cons.mpr ⟨lw_p7, List.forall_mem_cons.mpr ⟨lw_p8, List.forall_mem_cons.mpr ⟨lw_p9, List.forall_mem_cons.mpr ⟨lw_p10, List.forall_mem_cons.mpr ⟨lw_p11, List.forall_mem_cons.mpr ⟨lw_p12, List.forall_mem_cons.mpr ⟨lw_p13, List.forall_mem_cons.mpr ⟨lw_p14, List.forall_mem_cons.mpr ⟨lw_p15, fun _ h => absurd h List.not_mem_nil⟩⟩⟩⟩⟩⟩⟩⟩⟩⟩⟩⟩⟩⟩⟩⟩
theorem lw_p16 : lw_okq (⟨"DeferredDesk", "balanceOfAll", "(I)I"⟩, 7) := ⟨⟨by decide +kernel, by decide +kernel⟩, List.mem_of_getElem? (i := 23) (by decide +kernel), List.mem_of_getElem? (i := 475) (by decide +kernel), List.mem_of_getElem? (i := 476) (by decide +kernel)⟩
theorem lw_p17 : lw_okq (⟨"DeferredDesk", "balanceOfOne", "(II)I"⟩, 7) := ⟨⟨by decide +kernel, by decide +kernel⟩, List.mem_of_getElem? (i := 23) (by decide +kernel), List.mem_of_getElem? (i := 480) (by decide +kernel), List.mem_of_getElem? (i := 481) (by decide +kernel)⟩
theorem lw_p18 : lw_okq (⟨"DeferredDesk", "mayBeEnacted", "(III)Z"⟩, 7) := ⟨⟨by decide +kernel, by decide +kernel⟩, List.mem_of_getElem? (i := 23) (by decide +kernel), List.mem_of_getElem? (i := 516) (by decide +kernel), List.mem_of_getElem? (i := 517) (by decide +kernel)⟩
theorem lw_p19 : lw_okq (⟨"DeferredDesk", "isYearNotClosed", "(II)Z"⟩, 7) := ⟨⟨by decide +kernel, by decide +kernel⟩, List.mem_of_getElem? (i := 23) (by decide +kernel), List.mem_of_getElem? (i := 520) (by decide +kernel), List.mem_of_getElem? (i := 521) (by decide +kernel)⟩
theorem lw_p20 : lw_okq (⟨"DeferredDesk", "leastProfitMore", "(II)I"⟩, 7) := ⟨⟨by decide +kernel, by decide +kernel⟩, List.mem_of_getElem? (i := 23) (by decide +kernel), List.mem_of_getElem? (i := 532) (by decide +kernel), List.mem_of_getElem? (i := 533) (by decide +kernel)⟩
theorem lw_p21 : lw_okq (⟨"DeferredDesk", "isEnough", "(III)Z"⟩, 7) := ⟨⟨by decide +kernel, by decide +kernel⟩, List.mem_of_getElem? (i := 23) (by decide +kernel), List.mem_of_getElem? (i := 537) (by decide +kernel), List.mem_of_getElem? (i := 538) (by decide +kernel)⟩
theorem lw_p22 : lw_okq (⟨"DeferredDesk$Book", "useLosses", "(II)V"⟩, 9) := ⟨⟨by decide +kernel, by decide +kernel⟩, List.mem_of_getElem? (i := 151) (by decide +kernel), List.mem_of_getElem? (i := 605) (by decide +kernel), List.mem_of_getElem? (i := 606) (by decide +kernel)⟩
theorem lw_p23 : lw_okq (⟨"DeferredDesk", "closingToFill", "(I)LDeferredDesk$Closing;"⟩, 7) := ⟨⟨by decide +kernel, by decide +kernel⟩, List.mem_of_getElem? (i := 23) (by decide +kernel), List.mem_of_getElem? (i := 611) (by decide +kernel), List.mem_of_getElem? (i := 612) (by decide +kernel)⟩
theorem lw_p24 : lw_okq (⟨"DeferredDesk", "closingAhead", "(I)LDeferredDesk$Closing;"⟩, 7) := ⟨⟨by decide +kernel, by decide +kernel⟩, List.mem_of_getElem? (i := 23) (by decide +kernel), List.mem_of_getElem? (i := 631) (by decide +kernel), List.mem_of_getElem? (i := 632) (by decide +kernel)⟩
theorem lw_p25 : lw_okq (⟨"DeferredDesk$Closing", "net", "()I"⟩, 3) := ⟨⟨by decide +kernel, by decide +kernel⟩, List.mem_of_getElem? (i := 614) (by decide +kernel), List.mem_of_getElem? (i := 643) (by decide +kernel), List.mem_of_getElem? (i := 644) (by decide +kernel)⟩
theorem lw_p26 : lw_okq (⟨"java/lang/Throwable", "fillInStackTrace", "(I)Ljava/lang/Throwable;"⟩, 6) := ⟨⟨by decide +kernel, by decide +kernel⟩, List.mem_of_getElem? (i := 700) (by decide +kernel), List.mem_of_getElem? (i := 698) (by decide +kernel), List.mem_of_getElem? (i := 699) (by decide +kernel)⟩
theorem lw_p27 : lw_okq (⟨"DeferredDeskModel", "lays", "(I)V"⟩, 25) := ⟨⟨by decide +kernel, by decide +kernel⟩, List.mem_of_getElem? (i := 754) (by decide +kernel), List.mem_of_getElem? (i := 752) (by decide +kernel), List.mem_of_getElem? (i := 753) (by decide +kernel)⟩
theorem lw_p28 : lw_okq (⟨"DeferredDeskModel", "go", "()V"⟩, 25) := ⟨⟨by decide +kernel, by decide +kernel⟩, List.mem_of_getElem? (i := 754) (by decide +kernel), List.mem_of_getElem? (i := 846) (by decide +kernel), List.mem_of_getElem? (i := 847) (by decide +kernel)⟩
theorem lw_p29 : lw_okq (⟨"DeferredDeskModel", "tapeAt", "(I)I"⟩, 25) := ⟨⟨by decide +kernel, by decide +kernel⟩, List.mem_of_getElem? (i := 754) (by decide +kernel), List.mem_of_getElem? (i := 856) (by decide +kernel), List.mem_of_getElem? (i := 857) (by decide +kernel)⟩
theorem lw_p30 : lw_okq (⟨"DeferredDeskModel", "readHead", "()I"⟩, 25) := ⟨⟨by decide +kernel, by decide +kernel⟩, List.mem_of_getElem? (i := 754) (by decide +kernel), List.mem_of_getElem? (i := 862) (by decide +kernel), List.mem_of_getElem? (i := 863) (by decide +kernel)⟩
theorem lw_p31 : lw_okq (⟨"DeferredDeskModel", "isWord", "(J)Z"⟩, 25) := ⟨⟨by decide +kernel, by decide +kernel⟩, List.mem_of_getElem? (i := 754) (by decide +kernel), List.mem_of_getElem? (i := 874) (by decide +kernel), List.mem_of_getElem? (i := 875) (by decide +kernel)⟩
def lw_privs_2 : List (MethodName × Nat) := [(⟨"DeferredDesk", "balanceOfAll", "(I)I"⟩, 7), (⟨"DeferredDesk", "balanceOfOne", "(II)I"⟩, 7), (⟨"DeferredDesk", "mayBeEnacted", "(III)Z"⟩, 7), (⟨"DeferredDesk", "isYearNotClosed", "(II)Z"⟩, 7), (⟨"DeferredDesk", "leastProfitMore", "(II)I"⟩, 7), (⟨"DeferredDesk", "isEnough", "(III)Z"⟩, 7), (⟨"DeferredDesk$Book", "useLosses", "(II)V"⟩, 9), (⟨"DeferredDesk", "closingToFill", "(I)LDeferredDesk$Closing;"⟩, 7), (⟨"DeferredDesk", "closingAhead", "(I)LDeferredDesk$Closing;"⟩, 7), (⟨"DeferredDesk$Closing", "net", "()I"⟩, 3), (⟨"java/lang/Throwable", "fillInStackTrace", "(I)Ljava/lang/Throwable;"⟩, 6), (⟨"DeferredDeskModel", "lays", "(I)V"⟩, 25), (⟨"DeferredDeskModel", "go", "()V"⟩, 25), (⟨"DeferredDeskModel", "tapeAt", "(I)I"⟩, 25), (⟨"DeferredDeskModel", "readHead", "()I"⟩, 25), (⟨"DeferredDeskModel", "isWord", "(J)Z"⟩, 25)]
theorem lw_r2 : ∀ q ∈ lw_privs_2, lw_okq q := List.forall_mem_cons.mpr ⟨lw_p16, List.forall_mem_cons.mpr ⟨lw_p17, List.forall_mem_cons.mpr ⟨lw_p18, List.forall_mem_cons.mpr ⟨lw_p19, List.forall_mem_cons.mpr ⟨lw_p20, List.forall_mem_cons.mpr ⟨lw_p21, List.forall_mem_cons.mpr ⟨lw_p22, List.forall_mem_cons.mpr ⟨lw_p23, List.forall_mem_cons.mpr ⟨lw_p24, List.forall_mem_cons.mpr ⟨lw_p25, List.forall_mem_cons.mpr ⟨lw_p26, List.forall_mem_cons.mpr ⟨lw_p27, List.forall_mem_cons.mpr ⟨lw_p28, List.forall_mem_cons.mpr ⟨lw_p29, List.forall_mem_cons.mpr ⟨lw_p30, List.forall_mem_cons.mpr ⟨lw_p31, fun _ h => absurd h List.not_mem_nil⟩⟩⟩⟩⟩⟩⟩⟩⟩⟩⟩⟩⟩⟩⟩⟩
theorem lw_p32 : lw_okq (⟨"DeferredDeskModel", "bad", "(I)Z"⟩, 25) := ⟨⟨by decide +kernel, by decide +kernel⟩, List.mem_of_getElem? (i := 754) (by decide +kernel), List.mem_of_getElem? (i := 878) (by decide +kernel), List.mem_of_getElem? (i := 879) (by decide +kernel)⟩
theorem lw_p33 : lw_okq (⟨"DeferredDeskModel", "told", "(III)Z"⟩, 25) := ⟨⟨by decide +kernel, by decide +kernel⟩, List.mem_of_getElem? (i := 754) (by decide +kernel), List.mem_of_getElem? (i := 882) (by decide +kernel), List.mem_of_getElem? (i := 883) (by decide +kernel)⟩
theorem lw_p34 : lw_okq (⟨"DeferredDeskModel", "readEnd", "()Z"⟩, 25) := ⟨⟨by decide +kernel, by decide +kernel⟩, List.mem_of_getElem? (i := 754) (by decide +kernel), List.mem_of_getElem? (i := 889) (by decide +kernel), List.mem_of_getElem? (i := 890) (by decide +kernel)⟩
theorem lw_p35 : lw_okq (⟨"DeferredDeskModel", "readOffice", "()Z"⟩, 25) := ⟨⟨by decide +kernel, by decide +kernel⟩, List.mem_of_getElem? (i := 754) (by decide +kernel), List.mem_of_getElem? (i := 893) (by decide +kernel), List.mem_of_getElem? (i := 894) (by decide +kernel)⟩
theorem lw_p36 : lw_okq (⟨"DeferredDeskModel", "isOfficeWord", "()Z"⟩, 25) := ⟨⟨by decide +kernel, by decide +kernel⟩, List.mem_of_getElem? (i := 754) (by decide +kernel), List.mem_of_getElem? (i := 897) (by decide +kernel), List.mem_of_getElem? (i := 898) (by decide +kernel)⟩
theorem lw_p37 : lw_okq (⟨"DeferredDeskModel", "takes", "(II)Z"⟩, 25) := ⟨⟨by decide +kernel, by decide +kernel⟩, List.mem_of_getElem? (i := 754) (by decide +kernel), List.mem_of_getElem? (i := 904) (by decide +kernel), List.mem_of_getElem? (i := 905) (by decide +kernel)⟩
theorem lw_p38 : lw_okq (⟨"DeferredDeskModel", "readLine", "()Z"⟩, 25) := ⟨⟨by decide +kernel, by decide +kernel⟩, List.mem_of_getElem? (i := 754) (by decide +kernel), List.mem_of_getElem? (i := 911) (by decide +kernel), List.mem_of_getElem? (i := 912) (by decide +kernel)⟩
theorem lw_p39 : lw_okq (⟨"DeferredDeskModel", "readOfYear", "(Z)Z"⟩, 25) := ⟨⟨by decide +kernel, by decide +kernel⟩, List.mem_of_getElem? (i := 754) (by decide +kernel), List.mem_of_getElem? (i := 915) (by decide +kernel), List.mem_of_getElem? (i := 916) (by decide +kernel)⟩
theorem lw_p40 : lw_okq (⟨"DeferredDeskModel", "readItem", "(Z)Z"⟩, 25) := ⟨⟨by decide +kernel, by decide +kernel⟩, List.mem_of_getElem? (i := 754) (by decide +kernel), List.mem_of_getElem? (i := 921) (by decide +kernel), List.mem_of_getElem? (i := 922) (by decide +kernel)⟩
theorem lw_p41 : lw_okq (⟨"DeferredDeskModel", "readLoss", "()Z"⟩, 25) := ⟨⟨by decide +kernel, by decide +kernel⟩, List.mem_of_getElem? (i := 754) (by decide +kernel), List.mem_of_getElem? (i := 926) (by decide +kernel), List.mem_of_getElem? (i := 927) (by decide +kernel)⟩
theorem lw_p42 : lw_okq (⟨"DeferredDeskModel", "doneItems", "()I"⟩, 25) := ⟨⟨by decide +kernel, by decide +kernel⟩, List.mem_of_getElem? (i := 754) (by decide +kernel), List.mem_of_getElem? (i := 938) (by decide +kernel), List.mem_of_getElem? (i := 939) (by decide +kernel)⟩
theorem lw_p43 : lw_okq (⟨"DeferredDeskModel", "openOf", "(I)I"⟩, 25) := ⟨⟨by decide +kernel, by decide +kernel⟩, List.mem_of_getElem? (i := 754) (by decide +kernel), List.mem_of_getElem? (i := 942) (by decide +kernel), List.mem_of_getElem? (i := 943) (by decide +kernel)⟩
theorem lw_p44 : lw_okq (⟨"DeferredDeskModel", "its", "(II)I"⟩, 25) := ⟨⟨by decide +kernel, by decide +kernel⟩, List.mem_of_getElem? (i := 754) (by decide +kernel), List.mem_of_getElem? (i := 946) (by decide +kernel), List.mem_of_getElem? (i := 947) (by decide +kernel)⟩
theorem lw_p45 : lw_okq (⟨"DeferredDeskModel", "upTo", "(II)I"⟩, 25) := ⟨⟨by decide +kernel, by decide +kernel⟩, List.mem_of_getElem? (i := 754) (by decide +kernel), List.mem_of_getElem? (i := 950) (by decide +kernel), List.mem_of_getElem? (i := 951) (by decide +kernel)⟩
theorem lw_p46 : lw_okq (⟨"DeferredDeskModel", "isItem", "(I)Z"⟩, 25) := ⟨⟨by decide +kernel, by decide +kernel⟩, List.mem_of_getElem? (i := 754) (by decide +kernel), List.mem_of_getElem? (i := 958) (by decide +kernel), List.mem_of_getElem? (i := 959) (by decide +kernel)⟩
theorem lw_p47 : lw_okq (⟨"DeferredDeskModel", "refuse", "()I"⟩, 25) := ⟨⟨by decide +kernel, by decide +kernel⟩, List.mem_of_getElem? (i := 754) (by decide +kernel), List.mem_of_getElem? (i := 962) (by decide +kernel), List.mem_of_getElem? (i := 963) (by decide +kernel)⟩
def lw_privs_3 : List (MethodName × Nat) := [(⟨"DeferredDeskModel", "bad", "(I)Z"⟩, 25), (⟨"DeferredDeskModel", "told", "(III)Z"⟩, 25), (⟨"DeferredDeskModel", "readEnd", "()Z"⟩, 25), (⟨"DeferredDeskModel", "readOffice", "()Z"⟩, 25), (⟨"DeferredDeskModel", "isOfficeWord", "()Z"⟩, 25), (⟨"DeferredDeskModel", "takes", "(II)Z"⟩, 25), (⟨"DeferredDeskModel", "readLine", "()Z"⟩, 25), (⟨"DeferredDeskModel", "readOfYear", "(Z)Z"⟩, 25), (⟨"DeferredDeskModel", "readItem", "(Z)Z"⟩, 25), (⟨"DeferredDeskModel", "readLoss", "()Z"⟩, 25), (⟨"DeferredDeskModel", "doneItems", "()I"⟩, 25), (⟨"DeferredDeskModel", "openOf", "(I)I"⟩, 25), (⟨"DeferredDeskModel", "its", "(II)I"⟩, 25), (⟨"DeferredDeskModel", "upTo", "(II)I"⟩, 25), (⟨"DeferredDeskModel", "isItem", "(I)Z"⟩, 25), (⟨"DeferredDeskModel", "refuse", "()I"⟩, 25)]
theorem lw_r3 : ∀ q ∈ lw_privs_3, lw_okq q := List.forall_mem_cons.mpr ⟨lw_p32, List.forall_mem_cons.mpr ⟨lw_p33, List.forall_mem_cons.mpr ⟨lw_p34, List.forall_mem_cons.mpr ⟨lw_p35, List.forall_mem_cons.mpr ⟨lw_p36, List.forall_mem_cons.mpr ⟨lw_p37, List.forall_mem_cons.mpr ⟨lw_p38, List.forall_mem_cons.mpr ⟨lw_p39, List.forall_mem_cons.mpr ⟨lw_p40, List.forall_mem_cons.mpr ⟨lw_p41, List.forall_mem_cons.mpr ⟨lw_p42, List.forall_mem_cons.mpr ⟨lw_p43, List.forall_mem_cons.mpr ⟨lw_p44, List.forall_mem_cons.mpr ⟨lw_p45, List.forall_mem_cons.mpr ⟨lw_p46, List.forall_mem_cons.mpr ⟨lw_p47, fun _ h => absurd h List.not_mem_nil⟩⟩⟩⟩⟩⟩⟩⟩⟩⟩⟩⟩⟩⟩⟩⟩
theorem lw_p48 : lw_okq (⟨"DeferredDeskModel", "part", "(II)I"⟩, 25) := ⟨⟨by decide +kernel, by decide +kernel⟩, List.mem_of_getElem? (i := 754) (by decide +kernel), List.mem_of_getElem? (i := 966) (by decide +kernel), List.mem_of_getElem? (i := 967) (by decide +kernel)⟩
theorem lw_p49 : lw_okq (⟨"DeferredDeskModel", "isLoss", "(I)Z"⟩, 25) := ⟨⟨by decide +kernel, by decide +kernel⟩, List.mem_of_getElem? (i := 754) (by decide +kernel), List.mem_of_getElem? (i := 974) (by decide +kernel), List.mem_of_getElem? (i := 975) (by decide +kernel)⟩
theorem lw_p50 : lw_okq (⟨"DeferredDeskModel", "lost", "(II)I"⟩, 25) := ⟨⟨by decide +kernel, by decide +kernel⟩, List.mem_of_getElem? (i := 754) (by decide +kernel), List.mem_of_getElem? (i := 978) (by decide +kernel), List.mem_of_getElem? (i := 979) (by decide +kernel)⟩
theorem lw_p51 : lw_okq (⟨"DeferredDeskModel", "isOffice", "(I)Z"⟩, 25) := ⟨⟨by decide +kernel, by decide +kernel⟩, List.mem_of_getElem? (i := 754) (by decide +kernel), List.mem_of_getElem? (i := 986) (by decide +kernel), List.mem_of_getElem? (i := 987) (by decide +kernel)⟩
theorem lw_p52 : lw_okq (⟨"DeferredDeskModel", "rateOf", "(II)I"⟩, 25) := ⟨⟨by decide +kernel, by decide +kernel⟩, List.mem_of_getElem? (i := 754) (by decide +kernel), List.mem_of_getElem? (i := 993) (by decide +kernel), List.mem_of_getElem? (i := 994) (by decide +kernel)⟩
theorem lw_p53 : lw_okq (⟨"DeferredDeskModel", "isAhead", "(I)Z"⟩, 25) := ⟨⟨by decide +kernel, by decide +kernel⟩, List.mem_of_getElem? (i := 754) (by decide +kernel), List.mem_of_getElem? (i := 1001) (by decide +kernel), List.mem_of_getElem? (i := 1002) (by decide +kernel)⟩
theorem lw_p54 : lw_okq (⟨"DeferredDeskModel", "sweeps", "(III)V"⟩, 25) := ⟨⟨by decide +kernel, by decide +kernel⟩, List.mem_of_getElem? (i := 754) (by decide +kernel), List.mem_of_getElem? (i := 1005) (by decide +kernel), List.mem_of_getElem? (i := 1006) (by decide +kernel)⟩
theorem lw_p55 : lw_okq (⟨"DeferredDeskModel", "partsOf", "(III)I"⟩, 25) := ⟨⟨by decide +kernel, by decide +kernel⟩, List.mem_of_getElem? (i := 754) (by decide +kernel), List.mem_of_getElem? (i := 1009) (by decide +kernel), List.mem_of_getElem? (i := 1010) (by decide +kernel)⟩
theorem lw_p56 : lw_okq (⟨"DeferredDeskModel", "profitOf", "(II)I"⟩, 25) := ⟨⟨by decide +kernel, by decide +kernel⟩, List.mem_of_getElem? (i := 754) (by decide +kernel), List.mem_of_getElem? (i := 1013) (by decide +kernel), List.mem_of_getElem? (i := 1014) (by decide +kernel)⟩
theorem lw_p57 : lw_okq (⟨"DeferredDeskModel", "usesLosses", "(II)I"⟩, 25) := ⟨⟨by decide +kernel, by decide +kernel⟩, List.mem_of_getElem? (i := 754) (by decide +kernel), List.mem_of_getElem? (i := 1017) (by decide +kernel), List.mem_of_getElem? (i := 1018) (by decide +kernel)⟩
theorem lw_p58 : lw_okq (⟨"DeferredDeskModel", "nextLoss", "(I)I"⟩, 25) := ⟨⟨by decide +kernel, by decide +kernel⟩, List.mem_of_getElem? (i := 754) (by decide +kernel), List.mem_of_getElem? (i := 1021) (by decide +kernel), List.mem_of_getElem? (i := 1022) (by decide +kernel)⟩
theorem lw_p59 : lw_okq (⟨"DeferredDeskModel", "balanceOf", "(II)I"⟩, 25) := ⟨⟨by decide +kernel, by decide +kernel⟩, List.mem_of_getElem? (i := 754) (by decide +kernel), List.mem_of_getElem? (i := 1029) (by decide +kernel), List.mem_of_getElem? (i := 1030) (by decide +kernel)⟩
theorem lw_p60 : lw_okq (⟨"DeferredDeskModel", "liability", "(I)I"⟩, 25) := ⟨⟨by decide +kernel, by decide +kernel⟩, List.mem_of_getElem? (i := 754) (by decide +kernel), List.mem_of_getElem? (i := 1033) (by decide +kernel), List.mem_of_getElem? (i := 1034) (by decide +kernel)⟩
theorem lw_p61 : lw_okq (⟨"DeferredDeskModel", "asset", "(I)I"⟩, 25) := ⟨⟨by decide +kernel, by decide +kernel⟩, List.mem_of_getElem? (i := 754) (by decide +kernel), List.mem_of_getElem? (i := 1041) (by decide +kernel), List.mem_of_getElem? (i := 1042) (by decide +kernel)⟩
theorem lw_p62 : lw_okq (⟨"DeferredDeskModel", "used", "(I)I"⟩, 25) := ⟨⟨by decide +kernel, by decide +kernel⟩, List.mem_of_getElem? (i := 754) (by decide +kernel), List.mem_of_getElem? (i := 1045) (by decide +kernel), List.mem_of_getElem? (i := 1046) (by decide +kernel)⟩
theorem lw_p63 : lw_okq (⟨"DeferredDeskModel", "unrecognised", "(I)I"⟩, 25) := ⟨⟨by decide +kernel, by decide +kernel⟩, List.mem_of_getElem? (i := 754) (by decide +kernel), List.mem_of_getElem? (i := 1049) (by decide +kernel), List.mem_of_getElem? (i := 1050) (by decide +kernel)⟩
def lw_privs_4 : List (MethodName × Nat) := [(⟨"DeferredDeskModel", "part", "(II)I"⟩, 25), (⟨"DeferredDeskModel", "isLoss", "(I)Z"⟩, 25), (⟨"DeferredDeskModel", "lost", "(II)I"⟩, 25), (⟨"DeferredDeskModel", "isOffice", "(I)Z"⟩, 25), (⟨"DeferredDeskModel", "rateOf", "(II)I"⟩, 25), (⟨"DeferredDeskModel", "isAhead", "(I)Z"⟩, 25), (⟨"DeferredDeskModel", "sweeps", "(III)V"⟩, 25), (⟨"DeferredDeskModel", "partsOf", "(III)I"⟩, 25), (⟨"DeferredDeskModel", "profitOf", "(II)I"⟩, 25), (⟨"DeferredDeskModel", "usesLosses", "(II)I"⟩, 25), (⟨"DeferredDeskModel", "nextLoss", "(I)I"⟩, 25), (⟨"DeferredDeskModel", "balanceOf", "(II)I"⟩, 25), (⟨"DeferredDeskModel", "liability", "(I)I"⟩, 25), (⟨"DeferredDeskModel", "asset", "(I)I"⟩, 25), (⟨"DeferredDeskModel", "used", "(I)I"⟩, 25), (⟨"DeferredDeskModel", "unrecognised", "(I)I"⟩, 25)]
theorem lw_r4 : ∀ q ∈ lw_privs_4, lw_okq q := List.forall_mem_cons.mpr ⟨lw_p48, List.forall_mem_cons.mpr ⟨lw_p49, List.forall_mem_cons.mpr ⟨lw_p50, List.forall_mem_cons.mpr ⟨lw_p51, List.forall_mem_cons.mpr ⟨lw_p52, List.forall_mem_cons.mpr ⟨lw_p53, List.forall_mem_cons.mpr ⟨lw_p54, List.forall_mem_cons.mpr ⟨lw_p55, List.forall_mem_cons.mpr ⟨lw_p56, List.forall_mem_cons.mpr ⟨lw_p57, List.forall_mem_cons.mpr ⟨lw_p58, List.forall_mem_cons.mpr ⟨lw_p59, List.forall_mem_cons.mpr ⟨lw_p60, List.forall_mem_cons.mpr ⟨lw_p61, List.forall_mem_cons.mpr ⟨lw_p62, List.forall_mem_cons.mpr ⟨lw_p63, fun _ h => absurd h List.not_mem_nil⟩⟩⟩⟩⟩⟩⟩⟩⟩⟩⟩⟩⟩⟩⟩⟩
theorem lw_p64 : lw_okq (⟨"DeferredDeskModel", "canEnact", "(III)Z"⟩, 25) := ⟨⟨by decide +kernel, by decide +kernel⟩, List.mem_of_getElem? (i := 754) (by decide +kernel), List.mem_of_getElem? (i := 1065) (by decide +kernel), List.mem_of_getElem? (i := 1066) (by decide +kernel)⟩
theorem lw_p65 : lw_okq (⟨"DeferredDeskModel", "isEnough", "(III)Z"⟩, 25) := ⟨⟨by decide +kernel, by decide +kernel⟩, List.mem_of_getElem? (i := 754) (by decide +kernel), List.mem_of_getElem? (i := 1073) (by decide +kernel), List.mem_of_getElem? (i := 1074) (by decide +kernel)⟩
theorem lw_p66 : lw_okq (⟨"DeferredDeskModel", "snap", "()V"⟩, 25) := ⟨⟨by decide +kernel, by decide +kernel⟩, List.mem_of_getElem? (i := 754) (by decide +kernel), List.mem_of_getElem? (i := 1081) (by decide +kernel), List.mem_of_getElem? (i := 1082) (by decide +kernel)⟩
theorem lw_p67 : lw_okq (⟨"DeferredDeskModel", "addsLoss", "(III)I"⟩, 25) := ⟨⟨by decide +kernel, by decide +kernel⟩, List.mem_of_getElem? (i := 754) (by decide +kernel), List.mem_of_getElem? (i := 1101) (by decide +kernel), List.mem_of_getElem? (i := 1102) (by decide +kernel)⟩
theorem lw_p68 : lw_okq (⟨"DeferredDeskModel", "bears", "(I)V"⟩, 25) := ⟨⟨by decide +kernel, by decide +kernel⟩, List.mem_of_getElem? (i := 754) (by decide +kernel), List.mem_of_getElem? (i := 1109) (by decide +kernel), List.mem_of_getElem? (i := 1110) (by decide +kernel)⟩
theorem lw_p69 : lw_okq (⟨"DeferredDeskModel", "closes", "(I)V"⟩, 25) := ⟨⟨by decide +kernel, by decide +kernel⟩, List.mem_of_getElem? (i := 754) (by decide +kernel), List.mem_of_getElem? (i := 1113) (by decide +kernel), List.mem_of_getElem? (i := 1114) (by decide +kernel)⟩
def lw_privs_5 : List (MethodName × Nat) := [(⟨"DeferredDeskModel", "canEnact", "(III)Z"⟩, 25), (⟨"DeferredDeskModel", "isEnough", "(III)Z"⟩, 25), (⟨"DeferredDeskModel", "snap", "()V"⟩, 25), (⟨"DeferredDeskModel", "addsLoss", "(III)I"⟩, 25), (⟨"DeferredDeskModel", "bears", "(I)V"⟩, 25), (⟨"DeferredDeskModel", "closes", "(I)V"⟩, 25)]
theorem lw_r5 : ∀ q ∈ lw_privs_5, lw_okq q := List.forall_mem_cons.mpr ⟨lw_p64, List.forall_mem_cons.mpr ⟨lw_p65, List.forall_mem_cons.mpr ⟨lw_p66, List.forall_mem_cons.mpr ⟨lw_p67, List.forall_mem_cons.mpr ⟨lw_p68, List.forall_mem_cons.mpr ⟨lw_p69, fun _ h => absurd h List.not_mem_nil⟩⟩⟩⟩⟩⟩
def lw_privs : List (MethodName × Nat) := lw_privs_1 ++ (lw_privs_2 ++ (lw_privs_3 ++ (lw_privs_4 ++ (lw_privs_5))))
def lw_tbl : List Cond := k2_sels lw_privs ++ tables_1
theorem lw_privs_ok : ∀ q ∈ lw_privs, lw_okq q := by
  show ∀ q ∈ lw_privs_1 ++ (lw_privs_2 ++ (lw_privs_3 ++ (lw_privs_4 ++ (lw_privs_5)))), lw_okq q
  exact List.forall_mem_append.mpr ⟨lw_r1, List.forall_mem_append.mpr ⟨lw_r2, List.forall_mem_append.mpr ⟨lw_r3, List.forall_mem_append.mpr ⟨lw_r4, lw_r5⟩⟩⟩⟩
-- ===== end of PART A; then your names; then what follows =====
end
section
/-! ===== BEGIN words of one list among another's, by their places ===== -/
theorem goodIn_r {big : List Cond} (ws : List Cond) (ps : List Nat) (hp : ws = ps.filterMap (fun i => big[i]?)) (h : ws.all goodWord = true) : GoodIn big ws := by
  intro w hw
  have h1 := List.all_eq_true.mp h w hw
  rw [hp] at hw
  obtain ⟨i, -, hi⟩ := List.mem_filterMap.mp hw
  have hm : w ∈ big := by first | exact List.mem_of_getElem? hi | exact List.getElem?_mem hi
  exact ⟨hm, good_of_word h1⟩
theorem goodIn_app {big a b : List Cond} (ha : GoodIn big a) (hb : GoodIn big b) : GoodIn big (a ++ b) := fun w h => (List.mem_append.mp h).elim (ha w) (hb w)
theorem goodIn_ca {big a b : List Cond} {c : Cond} (ha : GoodIn big (c :: a)) (hb : GoodIn big b) : GoodIn big (c :: (a ++ b)) := fun w h => (List.mem_cons.mp h).elim (fun e => ha w (List.mem_cons.mpr (Or.inl e))) (fun h => (List.mem_append.mp h).elim (fun h => ha w (List.mem_cons.mpr (Or.inr h))) (hb w))
theorem goodIn_sub {big ws : List Cond} (hm : ∀ w ∈ ws, w ∈ big) (h : ws.all goodWord = true) : GoodIn big ws := fun w hw => ⟨hm w hw, good_of_word (List.all_eq_true.mp h w hw)⟩
/-! ===== END ===== -/
/-! ===== BEGIN printed: names, fields, word lists, decode rows ===== -/
def RX0 : String := "DeferredDesk$1"
def TX0 : u_T := fun k => match k with
  | _ => ("", "", "", false)
def tyX0 : Nat → FieldType := fun k => match k with
  | _ => .int
abbrev wsX00 : List Cond := u_ws RX0 TX0 0
theorem nmX0 : ∀ a, a < 0 → ∀ b, b < 0 → a ≠ b → (TX0 a).2.1 ≠ (TX0 b).2.1 := by decide +kernel
theorem tyX0_ok : ∀ k, k < 0 → parseFieldDescriptor (TX0 k).2.2.1 = some (tyX0 k) := by decide +kernel
def RX1 : String := "DeferredDesk$Acts"
def TX1 : u_T := fun k => match k with
  | 0 => ("DeferredDesk$Acts", "books", "[LDeferredDesk$Book;", true)
  | 1 => ("DeferredDesk$Acts", "next", "I", false)
  | _ => ("DeferredDesk$Acts", "count", "I", false)
def tyX1 : Nat → FieldType := fun k => match k with
  | 0 => .array (.object "DeferredDesk$Book")
  | 1 => .int
  | _ => .int
abbrev wsX10 : List Cond := u_ws RX1 TX1 3
theorem nmX1 : ∀ a, a < 3 → ∀ b, b < 3 → a ≠ b → (TX1 a).2.1 ≠ (TX1 b).2.1 := by decide +kernel
theorem tyX1_ok : ∀ k, k < 3 → parseFieldDescriptor (TX1 k).2.2.1 = some (tyX1 k) := by decide +kernel
abbrev cX1_init : ByteArray := prog_3_method_1_code
def yX1_init : MethodName := ⟨RX1, "<init>", "()V"⟩
abbrev cX1_keep : ByteArray := prog_3_method_2_code
def yX1_keep : MethodName := ⟨RX1, "keep", "(LDeferredDesk$Book;)V"⟩
abbrev cX1_takeBack : ByteArray := prog_3_method_3_code
def yX1_takeBack : MethodName := ⟨RX1, "takeBack", "(LDeferredDesk$Book;)V"⟩
abbrev cX1_forget : ByteArray := prog_3_method_4_code
def yX1_forget : MethodName := ⟨RX1, "forget", "()V"⟩
def RX2 : String := "DeferredDesk$Book"
def TX2 : u_T := fun k => match k with
  | 0 => ("DeferredDesk$Book", "rates", "[I", true)
  | 1 => ("DeferredDesk$Book", "profits", "[I", true)
  | 2 => ("DeferredDesk$Book", "items", "[I", true)
  | 3 => ("DeferredDesk$Book", "losses", "[I", true)
  | 4 => ("DeferredDesk$Book", "year", "I", false)
  | 5 => ("DeferredDesk$Book", "carry", "I", false)
  | 6 => ("DeferredDesk$Book", "offices", "I", false)
  | 7 => ("DeferredDesk$Book", "itemCount", "I", false)
  | _ => ("DeferredDesk$Book", "lossCount", "I", false)
def tyX2 : Nat → FieldType := fun k => match k with
  | 0 => .array .int
  | 1 => .array .int
  | 2 => .array .int
  | 3 => .array .int
  | 4 => .int
  | 5 => .int
  | 6 => .int
  | 7 => .int
  | _ => .int
abbrev wsX20 : List Cond := u_ws RX2 TX2 9
theorem nmX2 : ∀ a, a < 9 → ∀ b, b < 9 → a ≠ b → (TX2 a).2.1 ≠ (TX2 b).2.1 := by decide +kernel
theorem tyX2_ok : ∀ k, k < 9 → parseFieldDescriptor (TX2 k).2.2.1 = some (tyX2 k) := by decide +kernel
abbrev cX2_init : ByteArray := prog_4_method_1_code
def yX2_init : MethodName := ⟨RX2, "<init>", "()V"⟩
abbrev cX2_clear : ByteArray := prog_4_method_2_code
def yX2_clear : MethodName := ⟨RX2, "clear", "()V"⟩
abbrev cX2_copyFrom : ByteArray := prog_4_method_3_code
def yX2_copyFrom : MethodName := ⟨RX2, "copyFrom", "(LDeferredDesk$Book;)V"⟩
abbrev cX2_hasOffice : ByteArray := prog_4_method_4_code
def yX2_hasOffice : MethodName := ⟨RX2, "hasOffice", "(I)Z"⟩
abbrev cX2_hasItem : ByteArray := prog_4_method_5_code
def yX2_hasItem : MethodName := ⟨RX2, "hasItem", "(I)Z"⟩
abbrev cX2_hasLoss : ByteArray := prog_4_method_6_code
def yX2_hasLoss : MethodName := ⟨RX2, "hasLoss", "(I)Z"⟩
abbrev cX2_setRate : ByteArray := prog_4_method_7_code
def yX2_setRate : MethodName := ⟨RX2, "setRate", "(III)V"⟩
abbrev cX2_addItem : ByteArray := prog_4_method_8_code
def yX2_addItem : MethodName := ⟨RX2, "addItem", "(IZIII)I"⟩
abbrev cX2_addLoss : ByteArray := prog_4_method_9_code
def yX2_addLoss : MethodName := ⟨RX2, "addLoss", "(III)I"⟩
abbrev cX2_bringForward : ByteArray := prog_4_method_10_code
def yX2_bringForward : MethodName := ⟨RX2, "bringForward", "(II)V"⟩
abbrev cX2_isItemOf : ByteArray := prog_4_method_11_code
def yX2_isItemOf : MethodName := ⟨RX2, "isItemOf", "(II)Z"⟩
abbrev cX2_isTaxable : ByteArray := prog_4_method_12_code
def yX2_isTaxable : MethodName := ⟨RX2, "isTaxable", "(I)Z"⟩
abbrev cX2_lastOf : ByteArray := prog_4_method_13_code
def yX2_lastOf : MethodName := ⟨RX2, "lastOf", "(I)I"⟩
abbrev cX2_partsUpTo : ByteArray := prog_4_method_14_code
def yX2_partsUpTo : MethodName := ⟨RX2, "partsUpTo", "(II)I"⟩
abbrev cX2_partOf : ByteArray := prog_4_method_15_code
def yX2_partOf : MethodName := ⟨RX2, "partOf", "(II)I"⟩
abbrev cX2_openOf : ByteArray := prog_4_method_16_code
def yX2_openOf : MethodName := ⟨RX2, "openOf", "(I)I"⟩
abbrev cX2_itemsWithNothingOpen : ByteArray := prog_4_method_17_code
def yX2_itemsWithNothingOpen : MethodName := ⟨RX2, "itemsWithNothingOpen", "()I"⟩
abbrev cX2_leftOf : ByteArray := prog_4_method_18_code
def yX2_leftOf : MethodName := ⟨RX2, "leftOf", "(III)I"⟩
abbrev cX2_leftWithLast : ByteArray := prog_4_method_19_code
def yX2_leftWithLast : MethodName := ⟨RX2, "leftWithLast", "(II)I"⟩
abbrev cX2_incomeOf : ByteArray := prog_4_method_20_code
def yX2_incomeOf : MethodName := ⟨RX2, "incomeOf", "(I)I"⟩
abbrev cX2_settleIncome : ByteArray := prog_4_method_21_code
def yX2_settleIncome : MethodName := ⟨RX2, "settleIncome", "(II)V"⟩
abbrev cX2_useLosses : ByteArray := prog_4_method_22_code
def yX2_useLosses : MethodName := ⟨RX2, "useLosses", "(II)V"⟩
def RX3 : String := "DeferredDesk$Closing"
def TX3 : u_T := fun k => match k with
  | 0 => ("DeferredDesk$Closing", "sums", "[I", true)
  | 1 => ("DeferredDesk$Closing", "taxed", "[I", true)
  | _ => ("DeferredDesk$Closing", "used", "[I", true)
def tyX3 : Nat → FieldType := fun k => match k with
  | 0 => .array .int
  | 1 => .array .int
  | _ => .array .int
abbrev wsX30 : List Cond := u_ws RX3 TX3 3
theorem nmX3 : ∀ a, a < 3 → ∀ b, b < 3 → a ≠ b → (TX3 a).2.1 ≠ (TX3 b).2.1 := by decide +kernel
theorem tyX3_ok : ∀ k, k < 3 → parseFieldDescriptor (TX3 k).2.2.1 = some (tyX3 k) := by decide +kernel
abbrev cX3_init : ByteArray := prog_5_method_1_code
def yX3_init : MethodName := ⟨RX3, "<init>", "()V"⟩
abbrev cX3_fill : ByteArray := prog_5_method_2_code
def yX3_fill : MethodName := ⟨RX3, "fill", "(LDeferredDesk$Cover;LDeferredDesk$Closing;)V"⟩
abbrev cX3_net : ByteArray := prog_5_method_3_code
def yX3_net : MethodName := ⟨RX3, "net", "()I"⟩
def RX4 : String := "DeferredDesk$Cover"
def TX4 : u_T := fun k => match k with
  | 0 => ("DeferredDesk$Cover", "taxed", "[I", true)
  | 1 => ("DeferredDesk$Cover", "covering", "[I", true)
  | 2 => ("DeferredDesk$Cover", "deducted", "[I", true)
  | 3 => ("DeferredDesk$Cover", "usedOfDeducted", "[I", true)
  | 4 => ("DeferredDesk$Cover", "used", "[I", true)
  | 5 => ("DeferredDesk$Cover", "behind", "[I", true)
  | 6 => ("DeferredDesk$Cover", "rates", "[I", true)
  | 7 => ("DeferredDesk$Cover", "leftByLast", "[I", true)
  | 8 => ("DeferredDesk$Cover", "standing", "I", false)
  | _ => ("DeferredDesk$Cover", "unused", "I", false)
def tyX4 : Nat → FieldType := fun k => match k with
  | 0 => .array .int
  | 1 => .array .int
  | 2 => .array .int
  | 3 => .array .int
  | 4 => .array .int
  | 5 => .array .int
  | 6 => .array .int
  | 7 => .array .int
  | 8 => .int
  | _ => .int
abbrev wsX40 : List Cond := u_ws RX4 TX4 10
theorem nmX4 : ∀ a, a < 10 → ∀ b, b < 10 → a ≠ b → (TX4 a).2.1 ≠ (TX4 b).2.1 := by decide +kernel
theorem tyX4_ok : ∀ k, k < 10 → parseFieldDescriptor (TX4 k).2.2.1 = some (tyX4 k) := by decide +kernel
abbrev cX4_init : ByteArray := prog_6_method_1_code
def yX4_init : MethodName := ⟨RX4, "<init>", "()V"⟩
abbrev cX4_workOut : ByteArray := prog_6_method_2_code
def yX4_workOut : MethodName := ⟨RX4, "workOut", "(LDeferredDesk$Book;I)V"⟩
abbrev cX4_addParts : ByteArray := prog_6_method_3_code
def yX4_addParts : MethodName := ⟨RX4, "addParts", "(LDeferredDesk$Book;I[I)V"⟩
abbrev cX4_spread : ByteArray := prog_6_method_4_code
def yX4_spread : MethodName := ⟨RX4, "spread", "(LDeferredDesk$Book;III)V"⟩
abbrev cX4_coverYear : ByteArray := prog_6_method_5_code
def yX4_coverYear : MethodName := ⟨RX4, "coverYear", "(II)V"⟩
abbrev cX4_useEarliest : ByteArray := prog_6_method_6_code
def yX4_useEarliest : MethodName := ⟨RX4, "useEarliest", "(II)V"⟩
abbrev cX4_supposeRate : ByteArray := prog_6_method_7_code
def yX4_supposeRate : MethodName := ⟨RX4, "supposeRate", "(II)V"⟩
abbrev cX4_taxOn : ByteArray := prog_6_method_8_code
def yX4_taxOn : MethodName := ⟨RX4, "taxOn", "([I)I"⟩
abbrev cX4_liability : ByteArray := prog_6_method_9_code
def yX4_liability : MethodName := ⟨RX4, "liability", "()I"⟩
abbrev cX4_asset : ByteArray := prog_6_method_10_code
def yX4_asset : MethodName := ⟨RX4, "asset", "()I"⟩
abbrev cX4_net : ByteArray := prog_6_method_11_code
def yX4_net : MethodName := ⟨RX4, "net", "()I"⟩
abbrev cX4_unrecognised : ByteArray := prog_6_method_12_code
def yX4_unrecognised : MethodName := ⟨RX4, "unrecognised", "()I"⟩
def RX5 : String := "DeferredDesk$Line"
def TX5 : u_T := fun k => match k with
  | _ => ("", "", "", false)
def tyX5 : Nat → FieldType := fun k => match k with
  | _ => .int
abbrev wsX50 : List Cond := u_ws RX5 TX5 0
theorem nmX5 : ∀ a, a < 0 → ∀ b, b < 0 → a ≠ b → (TX5 a).2.1 ≠ (TX5 b).2.1 := by decide +kernel
theorem tyX5_ok : ∀ k, k < 0 → parseFieldDescriptor (TX5 k).2.2.1 = some (tyX5 k) := by decide +kernel
def RX6 : String := "DeferredDesk$Reader"
def TX6 : u_T := fun k => match k with
  | 0 => ("DeferredDesk$Reader", "numbers", "[I", true)
  | 1 => ("DeferredDesk$Reader", "tape", "LDeferredDesk$Tape;", false)
  | 2 => ("DeferredDesk$Reader", "book", "LDeferredDesk$Book;", false)
  | 3 => ("DeferredDesk$Reader", "behind", "I", false)
  | 4 => ("DeferredDesk$Reader", "kind", "I", false)
  | 5 => ("DeferredDesk$Reader", "value", "I", false)
  | 6 => ("DeferredDesk$Reader", "place", "I", false)
  | 7 => ("DeferredDesk$Reader", "lines", "I", false)
  | _ => ("DeferredDesk$Reader", "refused", "I", false)
def tyX6 : Nat → FieldType := fun k => match k with
  | 0 => .array .int
  | 1 => .object "DeferredDesk$Tape"
  | 2 => .object "DeferredDesk$Book"
  | 3 => .int
  | 4 => .int
  | 5 => .int
  | 6 => .int
  | 7 => .int
  | _ => .int
abbrev wsX60 : List Cond := u_ws RX6 TX6 9
theorem nmX6 : ∀ a, a < 9 → ∀ b, b < 9 → a ≠ b → (TX6 a).2.1 ≠ (TX6 b).2.1 := by decide +kernel
theorem tyX6_ok : ∀ k, k < 9 → parseFieldDescriptor (TX6 k).2.2.1 = some (tyX6 k) := by decide +kernel
abbrev cX6_init : ByteArray := prog_8_method_1_code
def yX6_init : MethodName := ⟨RX6, "<init>", "()V"⟩
abbrev cX6_reads : ByteArray := prog_8_method_2_code
def yX6_reads : MethodName := ⟨RX6, "reads", "(LDeferredDesk$Tape;LDeferredDesk$Book;)Z"⟩
abbrev cX6_refuse : ByteArray := prog_8_method_3_code
def yX6_refuse : MethodName := ⟨RX6, "refuse", "(I)Z"⟩
abbrev cX6_lineThatComes : ByteArray := prog_8_method_4_code
def yX6_lineThatComes : MethodName := ⟨RX6, "lineThatComes", "()LDeferredDesk$Line;"⟩
abbrev cX6_isWord : ByteArray := prog_8_method_5_code
def yX6_isWord : MethodName := ⟨RX6, "isWord", "(Ljava/lang/String;)Z"⟩
abbrev cX6_mayCome : ByteArray := prog_8_method_6_code
def yX6_mayCome : MethodName := ⟨RX6, "mayCome", "(LDeferredDesk$Line;)Z"⟩
abbrev cX6_isOneMore : ByteArray := prog_8_method_7_code
def yX6_isOneMore : MethodName := ⟨RX6, "isOneMore", "(LDeferredDesk$Line;)Z"⟩
abbrev cX6_readsNumbers : ByteArray := prog_8_method_8_code
def yX6_readsNumbers : MethodName := ⟨RX6, "readsNumbers", "(Ljava/lang/String;)Z"⟩
abbrev cX6_least : ByteArray := prog_8_method_9_code
def yX6_least : MethodName := ⟨RX6, "least", "(C)I"⟩
abbrev cX6_most : ByteArray := prog_8_method_10_code
def yX6_most : MethodName := ⟨RX6, "most", "(C)I"⟩
abbrev cX6_enter : ByteArray := prog_8_method_11_code
def yX6_enter : MethodName := ⟨RX6, "enter", "(LDeferredDesk$Line;)V"⟩
abbrev cX6_advance : ByteArray := prog_8_method_12_code
def yX6_advance : MethodName := ⟨RX6, "advance", "()V"⟩
abbrev cX6_takeRun : ByteArray := prog_8_method_13_code
def yX6_takeRun : MethodName := ⟨RX6, "takeRun", "()V"⟩
abbrev cX6_isBlank : ByteArray := prog_8_method_14_code
def yX6_isBlank : MethodName := ⟨RX6, "isBlank", "(I)Z"⟩
abbrev cX6_isDigit : ByteArray := prog_8_method_15_code
def yX6_isDigit : MethodName := ⟨RX6, "isDigit", "(I)Z"⟩
abbrev cX6_isOfRun : ByteArray := prog_8_method_16_code
def yX6_isOfRun : MethodName := ⟨RX6, "isOfRun", "(I)Z"⟩
def RX7 : String := "DeferredDesk$Tape"
def TX7 : u_T := fun k => match k with
  | 0 => ("DeferredDesk$Tape", "bytes", "[B", true)
  | _ => ("DeferredDesk$Tape", "size", "I", false)
def tyX7 : Nat → FieldType := fun k => match k with
  | 0 => .array .byte
  | _ => .int
abbrev wsX70 : List Cond := u_ws RX7 TX7 2
theorem nmX7 : ∀ a, a < 2 → ∀ b, b < 2 → a ≠ b → (TX7 a).2.1 ≠ (TX7 b).2.1 := by decide +kernel
theorem tyX7_ok : ∀ k, k < 2 → parseFieldDescriptor (TX7 k).2.2.1 = some (tyX7 k) := by decide +kernel
abbrev cX7_init : ByteArray := prog_9_method_1_code
def yX7_init : MethodName := ⟨RX7, "<init>", "()V"⟩
abbrev cX7_add : ByteArray := prog_9_method_2_code
def yX7_add : MethodName := ⟨RX7, "add", "(I)V"⟩
abbrev cX7_at : ByteArray := prog_9_method_3_code
def yX7_at : MethodName := ⟨RX7, "at", "(I)I"⟩
def RX8 : String := "DeferredDesk"
def TX8 : u_T := fun k => match k with
  | 0 => ("DeferredDesk", "tape", "LDeferredDesk$Tape;", true)
  | 1 => ("DeferredDesk", "reader", "LDeferredDesk$Reader;", true)
  | 2 => ("DeferredDesk", "cover", "LDeferredDesk$Cover;", true)
  | 3 => ("DeferredDesk", "acts", "LDeferredDesk$Acts;", true)
  | 4 => ("DeferredDesk", "closings", "[LDeferredDesk$Closing;", true)
  | 5 => ("DeferredDesk", "book", "LDeferredDesk$Book;", false)
  | _ => ("DeferredDesk", "draft", "LDeferredDesk$Book;", false)
def tyX8 : Nat → FieldType := fun k => match k with
  | 0 => .object "DeferredDesk$Tape"
  | 1 => .object "DeferredDesk$Reader"
  | 2 => .object "DeferredDesk$Cover"
  | 3 => .object "DeferredDesk$Acts"
  | 4 => .array (.object "DeferredDesk$Closing")
  | 5 => .object "DeferredDesk$Book"
  | _ => .object "DeferredDesk$Book"
abbrev wsX80 : List Cond := u_ws RX8 TX8 7
theorem nmX8 : ∀ a, a < 7 → ∀ b, b < 7 → a ≠ b → (TX8 a).2.1 ≠ (TX8 b).2.1 := by decide +kernel
theorem tyX8_ok : ∀ k, k < 7 → parseFieldDescriptor (TX8 k).2.2.1 = some (tyX8 k) := by decide +kernel
abbrev cX8_init : ByteArray := prog_1_method_1_code
def yX8_init : MethodName := ⟨RX8, "<init>", "()V"⟩
abbrev cX8_feed : ByteArray := prog_1_method_2_code
def yX8_feed : MethodName := ⟨RX8, "feed", "(IIIII)I"⟩
abbrev cX8_end : ByteArray := prog_1_method_3_code
def yX8_end : MethodName := ⟨RX8, "end", "(I)Z"⟩
abbrev cX8_text : ByteArray := prog_1_method_4_code
def yX8_text : MethodName := ⟨RX8, "text", "()I"⟩
abbrev cX8_fault : ByteArray := prog_1_method_5_code
def yX8_fault : MethodName := ⟨RX8, "fault", "()I"⟩
abbrev cX8_now : ByteArray := prog_1_method_6_code
def yX8_now : MethodName := ⟨RX8, "now", "(I)I"⟩
abbrev cX8_item : ByteArray := prog_1_method_7_code
def yX8_item : MethodName := ⟨RX8, "item", "(II)I"⟩
abbrev cX8_loss : ByteArray := prog_1_method_8_code
def yX8_loss : MethodName := ⟨RX8, "loss", "(II)I"⟩
abbrev cX8_rate : ByteArray := prog_1_method_9_code
def yX8_rate : MethodName := ⟨RX8, "rate", "(II)I"⟩
abbrev cX8_covered : ByteArray := prog_1_method_10_code
def yX8_covered : MethodName := ⟨RX8, "covered", "(III)I"⟩
abbrev cX8_balance : ByteArray := prog_1_method_11_code
def yX8_balance : MethodName := ⟨RX8, "balance", "(II)I"⟩
abbrev cX8_closing : ByteArray := prog_1_method_12_code
def yX8_closing : MethodName := ⟨RX8, "closing", "(III)I"⟩
abbrev cX8_would : ByteArray := prog_1_method_13_code
def yX8_would : MethodName := ⟨RX8, "would", "(III)I"⟩
abbrev cX8_needs : ByteArray := prog_1_method_14_code
def yX8_needs : MethodName := ⟨RX8, "needs", "(II)I"⟩
abbrev cX8_enact : ByteArray := prog_1_method_15_code
def yX8_enact : MethodName := ⟨RX8, "enact", "(III)I"⟩
abbrev cX8_expect : ByteArray := prog_1_method_16_code
def yX8_expect : MethodName := ⟨RX8, "expect", "(III)I"⟩
abbrev cX8_arises : ByteArray := prog_1_method_17_code
def yX8_arises : MethodName := ⟨RX8, "arises", "(IZIII)I"⟩
abbrev cX8_settle : ByteArray := prog_1_method_18_code
def yX8_settle : MethodName := ⟨RX8, "settle", "(I)I"⟩
abbrev cX8_loses : ByteArray := prog_1_method_19_code
def yX8_loses : MethodName := ⟨RX8, "loses", "(III)I"⟩
abbrev cX8_yearEnd : ByteArray := prog_1_method_20_code
def yX8_yearEnd : MethodName := ⟨RX8, "yearEnd", "()I"⟩
abbrev cX8_undo : ByteArray := prog_1_method_21_code
def yX8_undo : MethodName := ⟨RX8, "undo", "()I"⟩
abbrev cX8_isSum : ByteArray := prog_1_method_22_code
def yX8_isSum : MethodName := ⟨RX8, "isSum", "(I)Z"⟩
abbrev cX8_isYearToCome : ByteArray := prog_1_method_23_code
def yX8_isYearToCome : MethodName := ⟨RX8, "isYearToCome", "(II)Z"⟩
abbrev cX8_isYearNotClosed : ByteArray := prog_1_method_24_code
def yX8_isYearNotClosed : MethodName := ⟨RX8, "isYearNotClosed", "(II)Z"⟩
abbrev cX8_mayBeEnacted : ByteArray := prog_1_method_25_code
def yX8_mayBeEnacted : MethodName := ⟨RX8, "mayBeEnacted", "(III)Z"⟩
abbrev cX8_balanceOfOne : ByteArray := prog_1_method_26_code
def yX8_balanceOfOne : MethodName := ⟨RX8, "balanceOfOne", "(II)I"⟩
abbrev cX8_balanceOfAll : ByteArray := prog_1_method_27_code
def yX8_balanceOfAll : MethodName := ⟨RX8, "balanceOfAll", "(I)I"⟩
abbrev cX8_leastProfitMore : ByteArray := prog_1_method_28_code
def yX8_leastProfitMore : MethodName := ⟨RX8, "leastProfitMore", "(II)I"⟩
abbrev cX8_isEnough : ByteArray := prog_1_method_29_code
def yX8_isEnough : MethodName := ⟨RX8, "isEnough", "(III)Z"⟩
abbrev cX8_closingToFill : ByteArray := prog_1_method_30_code
def yX8_closingToFill : MethodName := ⟨RX8, "closingToFill", "(I)LDeferredDesk$Closing;"⟩
abbrev cX8_closingAhead : ByteArray := prog_1_method_31_code
def yX8_closingAhead : MethodName := ⟨RX8, "closingAhead", "(I)LDeferredDesk$Closing;"⟩
def RX9 : String := "DeferredDeskModel"
def TX9 : u_T := fun k => match k with
  | 0 => ("DeferredDeskModel", "thrown", "I", false)
  | 1 => ("DeferredDeskModel", "tape", "[I", true)
  | 2 => ("DeferredDeskModel", "taped", "I", false)
  | 3 => ("DeferredDeskModel", "size", "I", false)
  | 4 => ("DeferredDeskModel", "to", "I", false)
  | 5 => ("DeferredDeskModel", "from", "I", false)
  | 6 => ("DeferredDeskModel", "sort", "I", false)
  | 7 => ("DeferredDeskModel", "number", "I", false)
  | 8 => ("DeferredDeskModel", "fault", "I", false)
  | 9 => ("DeferredDeskModel", "place", "I", false)
  | 10 => ("DeferredDeskModel", "word", "J", false)
  | 11 => ("DeferredDeskModel", "now", "[I", true)
  | 12 => ("DeferredDeskModel", "read", "[I", true)
  | 13 => ("DeferredDeskModel", "snaps", "[I", true)
  | 14 => ("DeferredDeskModel", "snapMany", "I", false)
  | 15 => ("DeferredDeskModel", "got", "I", false)
  | 16 => ("DeferredDeskModel", "left", "[I", true)
  | 17 => ("DeferredDeskModel", "lapse", "[I", true)
  | 18 => ("DeferredDeskModel", "taxed", "[I", true)
  | 19 => ("DeferredDeskModel", "cover", "[I", true)
  | 20 => ("DeferredDeskModel", "deducted", "[I", true)
  | 21 => ("DeferredDeskModel", "usedNow", "[I", true)
  | 22 => ("DeferredDeskModel", "usedLost", "[I", true)
  | 23 => ("DeferredDeskModel", "behind", "[I", true)
  | _ => ("DeferredDeskModel", "rates", "[I", true)
def tyX9 : Nat → FieldType := fun k => match k with
  | 0 => .int
  | 1 => .array .int
  | 2 => .int
  | 3 => .int
  | 4 => .int
  | 5 => .int
  | 6 => .int
  | 7 => .int
  | 8 => .int
  | 9 => .int
  | 10 => .long
  | 11 => .array .int
  | 12 => .array .int
  | 13 => .array .int
  | 14 => .int
  | 15 => .int
  | 16 => .array .int
  | 17 => .array .int
  | 18 => .array .int
  | 19 => .array .int
  | 20 => .array .int
  | 21 => .array .int
  | 22 => .array .int
  | 23 => .array .int
  | _ => .array .int
abbrev wsX90 : List Cond := u_ws RX9 TX9 25
theorem nmX9 : ∀ a, a < 25 → ∀ b, b < 25 → a ≠ b → (TX9 a).2.1 ≠ (TX9 b).2.1 := by decide +kernel
theorem tyX9_ok : ∀ k, k < 25 → parseFieldDescriptor (TX9 k).2.2.1 = some (tyX9 k) := by decide +kernel
abbrev cX9_thrown : ByteArray := prog_11_method_1_code
def yX9_thrown : MethodName := ⟨RX9, "thrown", "()I"⟩
abbrev cX9_refuse : ByteArray := prog_11_method_2_code
def yX9_refuse : MethodName := ⟨RX9, "refuse", "()I"⟩
abbrev cX9_isIn : ByteArray := prog_11_method_3_code
def yX9_isIn : MethodName := ⟨RX9, "isIn", "(III)Z"⟩
abbrev cX9_lays : ByteArray := prog_11_method_4_code
def yX9_lays : MethodName := ⟨RX9, "lays", "(I)V"⟩
abbrev cX9_feed : ByteArray := prog_11_method_5_code
def yX9_feed : MethodName := ⟨RX9, "feed", "(IIIII)I"⟩
abbrev cX9_end : ByteArray := prog_11_method_6_code
def yX9_end : MethodName := ⟨RX9, "end", "(I)Z"⟩
abbrev cX9_tapeAt : ByteArray := prog_11_method_7_code
def yX9_tapeAt : MethodName := ⟨RX9, "tapeAt", "(I)I"⟩
abbrev cX9_isDigit : ByteArray := prog_11_method_8_code
def yX9_isDigit : MethodName := ⟨RX9, "isDigit", "(I)Z"⟩
abbrev cX9_isLetter : ByteArray := prog_11_method_9_code
def yX9_isLetter : MethodName := ⟨RX9, "isLetter", "(I)Z"⟩
abbrev cX9_go : ByteArray := prog_11_method_10_code
def yX9_go : MethodName := ⟨RX9, "go", "()V"⟩
abbrev cX9_two : ByteArray := prog_11_method_11_code
def yX9_two : MethodName := ⟨RX9, "two", "(II)J"⟩
abbrev cX9_four : ByteArray := prog_11_method_12_code
def yX9_four : MethodName := ⟨RX9, "four", "(IIII)J"⟩
abbrev cX9_six : ByteArray := prog_11_method_13_code
def yX9_six : MethodName := ⟨RX9, "six", "(IIIIII)J"⟩
abbrev cX9_isWord : ByteArray := prog_11_method_14_code
def yX9_isWord : MethodName := ⟨RX9, "isWord", "(J)Z"⟩
abbrev cX9_bad : ByteArray := prog_11_method_15_code
def yX9_bad : MethodName := ⟨RX9, "bad", "(I)Z"⟩
abbrev cX9_init : ByteArray := prog_11_method_16_code
def yX9_init : MethodName := ⟨RX9, "<init>", "()V"⟩
abbrev cX9_told : ByteArray := prog_11_method_17_code
def yX9_told : MethodName := ⟨RX9, "told", "(III)Z"⟩
abbrev cX9_takes : ByteArray := prog_11_method_18_code
def yX9_takes : MethodName := ⟨RX9, "takes", "(II)Z"⟩
abbrev cX9_readEnd : ByteArray := prog_11_method_19_code
def yX9_readEnd : MethodName := ⟨RX9, "readEnd", "()Z"⟩
abbrev cX9_setRates : ByteArray := prog_11_method_20_code
def yX9_setRates : MethodName := ⟨RX9, "setRates", "([IIII)V"⟩
abbrev cX9_isOfficeWord : ByteArray := prog_11_method_21_code
def yX9_isOfficeWord : MethodName := ⟨RX9, "isOfficeWord", "()Z"⟩
abbrev cX9_readOffice : ByteArray := prog_11_method_22_code
def yX9_readOffice : MethodName := ⟨RX9, "readOffice", "()Z"⟩
abbrev cX9_readOfYear : ByteArray := prog_11_method_23_code
def yX9_readOfYear : MethodName := ⟨RX9, "readOfYear", "(Z)Z"⟩
abbrev cX9_readItem : ByteArray := prog_11_method_24_code
def yX9_readItem : MethodName := ⟨RX9, "readItem", "(Z)Z"⟩
abbrev cX9_readLoss : ByteArray := prog_11_method_25_code
def yX9_readLoss : MethodName := ⟨RX9, "readLoss", "()Z"⟩
abbrev cX9_readLine : ByteArray := prog_11_method_26_code
def yX9_readLine : MethodName := ⟨RX9, "readLine", "()Z"⟩
abbrev cX9_text : ByteArray := prog_11_method_27_code
def yX9_text : MethodName := ⟨RX9, "text", "()I"⟩
abbrev cX9_readHead : ByteArray := prog_11_method_28_code
def yX9_readHead : MethodName := ⟨RX9, "readHead", "()I"⟩
abbrev cX9_fault : ByteArray := prog_11_method_29_code
def yX9_fault : MethodName := ⟨RX9, "fault", "()I"⟩
abbrev cX9_isOffice : ByteArray := prog_11_method_30_code
def yX9_isOffice : MethodName := ⟨RX9, "isOffice", "(I)Z"⟩
abbrev cX9_isYear : ByteArray := prog_11_method_31_code
def yX9_isYear : MethodName := ⟨RX9, "isYear", "(I)Z"⟩
abbrev cX9_isAhead : ByteArray := prog_11_method_32_code
def yX9_isAhead : MethodName := ⟨RX9, "isAhead", "(I)Z"⟩
abbrev cX9_isItem : ByteArray := prog_11_method_33_code
def yX9_isItem : MethodName := ⟨RX9, "isItem", "(I)Z"⟩
abbrev cX9_isLoss : ByteArray := prog_11_method_34_code
def yX9_isLoss : MethodName := ⟨RX9, "isLoss", "(I)Z"⟩
abbrev cX9_its : ByteArray := prog_11_method_35_code
def yX9_its : MethodName := ⟨RX9, "its", "(II)I"⟩
abbrev cX9_lost : ByteArray := prog_11_method_36_code
def yX9_lost : MethodName := ⟨RX9, "lost", "(II)I"⟩
abbrev cX9_upTo : ByteArray := prog_11_method_37_code
def yX9_upTo : MethodName := ⟨RX9, "upTo", "(II)I"⟩
abbrev cX9_part : ByteArray := prog_11_method_38_code
def yX9_part : MethodName := ⟨RX9, "part", "(II)I"⟩
abbrev cX9_openOf : ByteArray := prog_11_method_39_code
def yX9_openOf : MethodName := ⟨RX9, "openOf", "(I)I"⟩
abbrev cX9_partsOf : ByteArray := prog_11_method_40_code
def yX9_partsOf : MethodName := ⟨RX9, "partsOf", "(III)I"⟩
abbrev cX9_rateOf : ByteArray := prog_11_method_41_code
def yX9_rateOf : MethodName := ⟨RX9, "rateOf", "(II)I"⟩
abbrev cX9_profitOf : ByteArray := prog_11_method_42_code
def yX9_profitOf : MethodName := ⟨RX9, "profitOf", "(II)I"⟩
abbrev cX9_nextLoss : ByteArray := prog_11_method_43_code
def yX9_nextLoss : MethodName := ⟨RX9, "nextLoss", "(I)I"⟩
abbrev cX9_sweeps : ByteArray := prog_11_method_44_code
def yX9_sweeps : MethodName := ⟨RX9, "sweeps", "(III)V"⟩
abbrev cX9_usesLosses : ByteArray := prog_11_method_45_code
def yX9_usesLosses : MethodName := ⟨RX9, "usesLosses", "(II)I"⟩
abbrev cX9_used : ByteArray := prog_11_method_46_code
def yX9_used : MethodName := ⟨RX9, "used", "(I)I"⟩
abbrev cX9_taxOn : ByteArray := prog_11_method_47_code
def yX9_taxOn : MethodName := ⟨RX9, "taxOn", "(II)I"⟩
abbrev cX9_liability : ByteArray := prog_11_method_48_code
def yX9_liability : MethodName := ⟨RX9, "liability", "(I)I"⟩
abbrev cX9_asset : ByteArray := prog_11_method_49_code
def yX9_asset : MethodName := ⟨RX9, "asset", "(I)I"⟩
abbrev cX9_unrecognised : ByteArray := prog_11_method_50_code
def yX9_unrecognised : MethodName := ⟨RX9, "unrecognised", "(I)I"⟩
abbrev cX9_balanceOf : ByteArray := prog_11_method_51_code
def yX9_balanceOf : MethodName := ⟨RX9, "balanceOf", "(II)I"⟩
abbrev cX9_doneItems : ByteArray := prog_11_method_52_code
def yX9_doneItems : MethodName := ⟨RX9, "doneItems", "()I"⟩
abbrev cX9_now : ByteArray := prog_11_method_53_code
def yX9_now : MethodName := ⟨RX9, "now", "(I)I"⟩
abbrev cX9_item : ByteArray := prog_11_method_54_code
def yX9_item : MethodName := ⟨RX9, "item", "(II)I"⟩
abbrev cX9_loss : ByteArray := prog_11_method_55_code
def yX9_loss : MethodName := ⟨RX9, "loss", "(II)I"⟩
abbrev cX9_rate : ByteArray := prog_11_method_56_code
def yX9_rate : MethodName := ⟨RX9, "rate", "(II)I"⟩
abbrev cX9_covered : ByteArray := prog_11_method_57_code
def yX9_covered : MethodName := ⟨RX9, "covered", "(III)I"⟩
abbrev cX9_balance : ByteArray := prog_11_method_58_code
def yX9_balance : MethodName := ⟨RX9, "balance", "(II)I"⟩
abbrev cX9_closingAt : ByteArray := prog_11_method_59_code
def yX9_closingAt : MethodName := ⟨RX9, "closingAt", "(II)I"⟩
abbrev cX9_closing : ByteArray := prog_11_method_60_code
def yX9_closing : MethodName := ⟨RX9, "closing", "(III)I"⟩
abbrev cX9_canEnact : ByteArray := prog_11_method_61_code
def yX9_canEnact : MethodName := ⟨RX9, "canEnact", "(III)Z"⟩
abbrev cX9_would : ByteArray := prog_11_method_62_code
def yX9_would : MethodName := ⟨RX9, "would", "(III)I"⟩
abbrev cX9_isEnough : ByteArray := prog_11_method_63_code
def yX9_isEnough : MethodName := ⟨RX9, "isEnough", "(III)Z"⟩
abbrev cX9_needs : ByteArray := prog_11_method_64_code
def yX9_needs : MethodName := ⟨RX9, "needs", "(II)I"⟩
abbrev cX9_snap : ByteArray := prog_11_method_65_code
def yX9_snap : MethodName := ⟨RX9, "snap", "()V"⟩
abbrev cX9_enact : ByteArray := prog_11_method_66_code
def yX9_enact : MethodName := ⟨RX9, "enact", "(III)I"⟩
abbrev cX9_expect : ByteArray := prog_11_method_67_code
def yX9_expect : MethodName := ⟨RX9, "expect", "(III)I"⟩
abbrev cX9_arises : ByteArray := prog_11_method_68_code
def yX9_arises : MethodName := ⟨RX9, "arises", "(IZIII)I"⟩
abbrev cX9_settle : ByteArray := prog_11_method_69_code
def yX9_settle : MethodName := ⟨RX9, "settle", "(I)I"⟩
abbrev cX9_addsLoss : ByteArray := prog_11_method_70_code
def yX9_addsLoss : MethodName := ⟨RX9, "addsLoss", "(III)I"⟩
abbrev cX9_loses : ByteArray := prog_11_method_71_code
def yX9_loses : MethodName := ⟨RX9, "loses", "(III)I"⟩
abbrev cX9_bears : ByteArray := prog_11_method_72_code
def yX9_bears : MethodName := ⟨RX9, "bears", "(I)V"⟩
abbrev cX9_closes : ByteArray := prog_11_method_73_code
def yX9_closes : MethodName := ⟨RX9, "closes", "(I)V"⟩
abbrev cX9_yearEnd : ByteArray := prog_11_method_74_code
def yX9_yearEnd : MethodName := ⟨RX9, "yearEnd", "()I"⟩
abbrev cX9_undo : ByteArray := prog_11_method_75_code
def yX9_undo : MethodName := ⟨RX9, "undo", "()I"⟩
def RJx145de : String := "java/io/Serializable"
def TJx145de : u_T := fun k => match k with
  | _ => ("", "", "", false)
def tyJx145de : Nat → FieldType := fun k => match k with
  | _ => .int
abbrev wsJx145de0 : List Cond := u_ws RJx145de TJx145de 0
theorem nmJx145de : ∀ a, a < 0 → ∀ b, b < 0 → a ≠ b → (TJx145de a).2.1 ≠ (TJx145de b).2.1 := by decide +kernel
theorem tyJx145de_ok : ∀ k, k < 0 → parseFieldDescriptor (TJx145de k).2.2.1 = some (tyJx145de k) := by decide +kernel
def RJx9f9b0 : String := "java/lang/CharSequence"
def TJx9f9b0 : u_T := fun k => match k with
  | _ => ("", "", "", false)
def tyJx9f9b0 : Nat → FieldType := fun k => match k with
  | _ => .int
abbrev wsJx9f9b00 : List Cond := u_ws RJx9f9b0 TJx9f9b0 0
theorem nmJx9f9b0 : ∀ a, a < 0 → ∀ b, b < 0 → a ≠ b → (TJx9f9b0 a).2.1 ≠ (TJx9f9b0 b).2.1 := by decide +kernel
theorem tyJx9f9b0_ok : ∀ k, k < 0 → parseFieldDescriptor (TJx9f9b0 k).2.2.1 = some (tyJx9f9b0 k) := by decide +kernel
def RJxb160c : String := "java/lang/Comparable"
def TJxb160c : u_T := fun k => match k with
  | _ => ("", "", "", false)
def tyJxb160c : Nat → FieldType := fun k => match k with
  | _ => .int
abbrev wsJxb160c0 : List Cond := u_ws RJxb160c TJxb160c 0
theorem nmJxb160c : ∀ a, a < 0 → ∀ b, b < 0 → a ≠ b → (TJxb160c a).2.1 ≠ (TJxb160c b).2.1 := by decide +kernel
theorem tyJxb160c_ok : ∀ k, k < 0 → parseFieldDescriptor (TJxb160c k).2.2.1 = some (tyJxb160c k) := by decide +kernel
def RJx29ce0 : String := "java/lang/Enum"
def TJx29ce0 : u_T := fun k => match k with
  | _ => ("", "", "", false)
def tyJx29ce0 : Nat → FieldType := fun k => match k with
  | _ => .int
abbrev wsJx29ce00 : List Cond := u_ws RJx29ce0 TJx29ce0 0
theorem nmJx29ce0 : ∀ a, a < 0 → ∀ b, b < 0 → a ≠ b → (TJx29ce0 a).2.1 ≠ (TJx29ce0 b).2.1 := by decide +kernel
theorem tyJx29ce0_ok : ∀ k, k < 0 → parseFieldDescriptor (TJx29ce0 k).2.2.1 = some (tyJx29ce0 k) := by decide +kernel
abbrev cJx29ce0_ordinal_8abf5 : ByteArray := prog_15_method_2_code
def yJx29ce0_ordinal_8abf5 : MethodName := ⟨RJx29ce0, "ordinal", "()I"⟩
def RJ9 : String := "java/lang/Math"
def TJ9 : u_T := fun k => match k with
  | _ => ("", "", "", false)
def tyJ9 : Nat → FieldType := fun k => match k with
  | _ => .int
abbrev wsJ90 : List Cond := u_ws RJ9 TJ9 0
theorem nmJ9 : ∀ a, a < 0 → ∀ b, b < 0 → a ≠ b → (TJ9 a).2.1 ≠ (TJ9 b).2.1 := by decide +kernel
theorem tyJ9_ok : ∀ k, k < 0 → parseFieldDescriptor (TJ9 k).2.2.1 = some (tyJ9 k) := by decide +kernel
abbrev cJ9_min_7cf53 : ByteArray := prog_17_method_69_code
def yJ9_min_7cf53 : MethodName := ⟨RJ9, "min", "(II)I"⟩
def RJ0 : String := "java/lang/String"
def TJ0 : u_T := fun k => match k with
  | _ => ("", "", "", false)
def tyJ0 : Nat → FieldType := fun k => match k with
  | _ => .int
abbrev wsJ00 : List Cond := u_ws RJ0 TJ0 0
theorem nmJ0 : ∀ a, a < 0 → ∀ b, b < 0 → a ≠ b → (TJ0 a).2.1 ≠ (TJ0 b).2.1 := by decide +kernel
theorem tyJ0_ok : ∀ k, k < 0 → parseFieldDescriptor (TJ0 k).2.2.1 = some (tyJ0 k) := by decide +kernel
abbrev cJ0_length_8abf5 : ByteArray := prog_19_method_54_code
def yJ0_length_8abf5 : MethodName := ⟨RJ0, "length", "()I"⟩
abbrev cJ0_charAt_5068e : ByteArray := prog_19_method_56_code
def yJ0_charAt_5068e : MethodName := ⟨RJ0, "charAt", "(I)C"⟩
abbrev cJ0_coder_7d493 : ByteArray := prog_19_method_152_code
def yJ0_coder_7d493 : MethodName := ⟨RJ0, "coder", "()B"⟩
abbrev cJ0_isLatin1_aae02 : ByteArray := prog_19_method_154_code
def yJ0_isLatin1_aae02 : MethodName := ⟨RJ0, "isLatin1", "()Z"⟩
abbrev cJ0_checkIndex_df160 : ByteArray := prog_19_method_155_code
def yJ0_checkIndex_df160 : MethodName := ⟨RJ0, "checkIndex", "(II)V"⟩
def RJ1 : String := "java/lang/StringLatin1"
def TJ1 : u_T := fun k => match k with
  | _ => ("", "", "", false)
def tyJ1 : Nat → FieldType := fun k => match k with
  | _ => .int
abbrev wsJ10 : List Cond := u_ws RJ1 TJ1 0
theorem nmJ1 : ∀ a, a < 0 → ∀ b, b < 0 → a ≠ b → (TJ1 a).2.1 ≠ (TJ1 b).2.1 := by decide +kernel
theorem tyJ1_ok : ∀ k, k < 0 → parseFieldDescriptor (TJ1 k).2.2.1 = some (tyJ1 k) := by decide +kernel
abbrev cJ1_charAt_3b067 : ByteArray := prog_20_method_2_code
def yJ1_charAt_3b067 : MethodName := ⟨RJ1, "charAt", "([BI)C"⟩
def RJ2 : String := "java/lang/StringUTF16"
def TJ2 : u_T := fun k => match k with
  | _ => ("", "", "", false)
def tyJ2 : Nat → FieldType := fun k => match k with
  | _ => .int
abbrev wsJ20 : List Cond := u_ws RJ2 TJ2 0
theorem nmJ2 : ∀ a, a < 0 → ∀ b, b < 0 → a ≠ b → (TJ2 a).2.1 ≠ (TJ2 b).2.1 := by decide +kernel
theorem tyJ2_ok : ∀ k, k < 0 → parseFieldDescriptor (TJ2 k).2.2.1 = some (tyJ2 k) := by decide +kernel
abbrev cJ2_getChar_3b067 : ByteArray := prog_21_method_5_code
def yJ2_getChar_3b067 : MethodName := ⟨RJ2, "getChar", "([BI)C"⟩
abbrev cJ2_length_9d52b : ByteArray := prog_21_method_6_code
def yJ2_length_9d52b : MethodName := ⟨RJ2, "length", "([B)I"⟩
abbrev cJ2_charAt_3b067 : ByteArray := prog_21_method_83_code
def yJ2_charAt_3b067 : MethodName := ⟨RJ2, "charAt", "([BI)C"⟩
abbrev cJ2_checkIndex_2214a : ByteArray := prog_21_method_91_code
def yJ2_checkIndex_2214a : MethodName := ⟨RJ2, "checkIndex", "(I[B)V"⟩
def RJ10 : String := "java/lang/System"
def TJ10 : u_T := fun k => match k with
  | _ => ("", "", "", false)
def tyJ10 : Nat → FieldType := fun k => match k with
  | _ => .int
abbrev wsJ100 : List Cond := u_ws RJ10 TJ10 0
theorem nmJ10 : ∀ a, a < 0 → ∀ b, b < 0 → a ≠ b → (TJ10 a).2.1 ≠ (TJ10 b).2.1 := by decide +kernel
theorem tyJ10_ok : ∀ k, k < 0 → parseFieldDescriptor (TJ10 k).2.2.1 = some (tyJ10 k) := by decide +kernel
def RJxfd54e : String := "java/lang/constant/Constable"
def TJxfd54e : u_T := fun k => match k with
  | _ => ("", "", "", false)
def tyJxfd54e : Nat → FieldType := fun k => match k with
  | _ => .int
abbrev wsJxfd54e0 : List Cond := u_ws RJxfd54e TJxfd54e 0
theorem nmJxfd54e : ∀ a, a < 0 → ∀ b, b < 0 → a ≠ b → (TJxfd54e a).2.1 ≠ (TJxfd54e b).2.1 := by decide +kernel
theorem tyJxfd54e_ok : ∀ k, k < 0 → parseFieldDescriptor (TJxfd54e k).2.2.1 = some (tyJxfd54e k) := by decide +kernel
def RJx3cf43 : String := "java/lang/constant/ConstantDesc"
def TJx3cf43 : u_T := fun k => match k with
  | _ => ("", "", "", false)
def tyJx3cf43 : Nat → FieldType := fun k => match k with
  | _ => .int
abbrev wsJx3cf430 : List Cond := u_ws RJx3cf43 TJx3cf43 0
theorem nmJx3cf43 : ∀ a, a < 0 → ∀ b, b < 0 → a ≠ b → (TJx3cf43 a).2.1 ≠ (TJx3cf43 b).2.1 := by decide +kernel
theorem tyJx3cf43_ok : ∀ k, k < 0 → parseFieldDescriptor (TJx3cf43 k).2.2.1 = some (tyJx3cf43 k) := by decide +kernel
def RJ3 : String := "jdk/internal/util/Preconditions"
def TJ3 : u_T := fun k => match k with
  | _ => ("", "", "", false)
def tyJ3 : Nat → FieldType := fun k => match k with
  | _ => .int
abbrev wsJ30 : List Cond := u_ws RJ3 TJ3 0
theorem nmJ3 : ∀ a, a < 0 → ∀ b, b < 0 → a ≠ b → (TJ3 a).2.1 ≠ (TJ3 b).2.1 := by decide +kernel
theorem tyJ3_ok : ∀ k, k < 0 → parseFieldDescriptor (TJ3 k).2.2.1 = some (tyJ3 k) := by decide +kernel
abbrev cJ3_checkIndex_8e157 : ByteArray := prog_27_method_11_code
def yJ3_checkIndex_8e157 : MethodName := ⟨RJ3, "checkIndex", "(IILjava/util/function/BiFunction;)I"⟩
def RL : String := "DeferredDeskLaw"
abbrev cL_item : ByteArray := method_3_code
def yL_item : MethodName := ⟨RL, "item", "(LDeferredDesk;II[J)I"⟩
abbrev cL_loss : ByteArray := method_4_code
def yL_loss : MethodName := ⟨RL, "loss", "(LDeferredDesk;II[J)I"⟩
abbrev cL_law : ByteArray := code
def yL_law : MethodName := ⟨RL, "law", "([I)Z"⟩
abbrev vwCl : List vw_C := [(RX1, TX1, 3), (RX2, TX2, 9), (RX3, TX3, 3), (RX4, TX4, 10), (RX6, TX6, 9), (RX7, TX7, 2), (RX8, TX8, 7), (RX9, TX9, 25)]
end
section
/-! ===== BEGIN exceptions that leave a method, and their catching by the caller (launches without stack traces) ===== -/
section VXA
/-! The laws vx_back, vx_callV, vx_callS, vx_callSW, vx_throw0, vx_throwS follow proofs of the library, with one case more: JvmDerived/Free/Laws.lean (Back.of_free), Shelf42/LK1.lean (callV, callS), Shelf/KitTraced.lean (throwNew0V, throwNewS). -/
/-- where a method has thrown q: the class by its name, the cell, what was written, the world -/
def vx_T (XC : String → State → State → Prop) (st : State) (q : Addr) (t : State) (mc ms : Nat) (free : Addr → Prop) : Prop :=
  ∃ (E : String) (ce : Cell) (L : List Loc), XC E st t ∧ t.heap[q]? = some ce ∧ ce.vm = .none ∧ st.vm.findClass E = some ce.cls ∧ st.WarmedH t.vm ∧ st.sameButNew ({ t with vm := st.vm } : State) L mc ms ∧ ∀ z ∈ L, free z.base
def vx_Q (Qc : Array Value → State → Outcome → State → Prop) (XC : String → State → State → Prop) (mc ms : Nat) (free : Addr → Prop) : Array Value → State → Outcome → State → Prop := fun a st o t =>
  (Qc a st o t ∧ ∃ L, FrameEnd st o t L mc ms ∧ ∀ q ∈ L, free q.base) ∨ ∃ q, o = .threw q ∧ vx_T XC st q t mc ms free
/-- a callee that returns or throws -/
def vx_Met (l : Launch) (y : MethodName) (ws : List Cond) (rm : Room) (Pc : Array Value → State → Prop) (Qc : Array Value → State → Outcome → State → Prop) (XC : String → State → State → Prop) (mc ms : Nat) (free : Addr → Prop) : Prop :=
  MetFree l y (headSpec ws rm) Pc (fun _ _ _ _ _ => True) (vx_Q Qc XC mc ms free)
def vx_Post (XC : String → State → State → Prop) (mc ms : Nat) (free : Addr → Prop) : Pt → Array Value → Addr → Pt → Prop := fun A a q B =>
  ∃ (g : JFrame) (mk : MethodId) (t : State) (L : List Loc) (E : String) (ce : Cell), B.U.heap = t.heap ∧ B.U.vm = t.vm ∧ XC E (A.U.calling g mk a) t ∧ t.heap[q]? = some ce ∧ ce.vm = .none ∧ A.U.vm.findClass E = some ce.cls ∧ B.locs = A.locs ++ L ∧ (∀ z ∈ L, free z.base) ∧ B.cells = A.cells + mc ∧ B.slots = A.slots + ms
def vx_Back (l : Launch) (R : Room) (p : Program) (e : Env) (below : List Frame) (s : State) (sargs : Array Value) (y : MethodName) (len W9 : Nat)
    (Pre : Pt → Array Value → Prop) (Post : Pt → Array Value → Option Value → Pt → Prop) (PostX : Pt → Array Value → Addr → Pt → Prop) : Prop :=
  ∀ (m : MethodId) (meth : Method) (c : Code) (A : Pt) (g : JFrame) (ig : Instr) (mk : MethodId) (a : Array Value),
    Stand p l e R s m sargs below meth c A.U A.locs A.cells A.slots → g.method = m → g.locals.size = c.maxLocals → decode c.code g.pc = .ok (ig, len) →
    2 * g.monitorRoom + (g.stack.map fun v => v.category).sum ≤ W9 → A.U.methodNamed? y = some mk → Pre A a →
    (∃ (v : Option Value) (B : Pt), Stand p l e R s m sargs below meth c B.U B.locs B.cells B.slots ∧ Post A a v B ∧
      Steps p.tables e below (doInvoke e (A.U.setTop g) [] mk a).1 (B.U.setTop { g with pc := g.pc + len, stack := v.toList ++ g.stack })) ∨
    (∃ (q : Addr) (B : Pt), Stand p l e R s m sargs below meth c B.U B.locs B.cells B.slots ∧ PostX A a q B ∧
      Steps p.tables e below (doInvoke e (A.U.setTop g) [] mk a).1 ((B.U.setTop g).pushFrame (.throwing q)))
section Payer
variable {l : Launch} {R : Room} {p : Program} {e : Env} {below : List Frame} {s : State} {sargs : Array Value} {y : MethodName} {len W9 : Nat}
theorem vx_back {ws : List Cond} {rm : Room} {Pc : Array Value → State → Prop} {Qc : Array Value → State → Outcome → State → Prop} {XC : String → State → State → Prop} {mc ms : Nat} {free : Addr → Prop} {bytes : ByteArray} {maxL : Nat} {ret : Option FieldType}
    (hM : vx_Met l y ws rm Pc Qc XC mc ms free) (hblind : FrameBlind Pc) (hrc : rm.cells = mc) (hrs : rm.slots = ms)
    (hframes : rm.frames + 1 ≤ R.frames) (hlocals : W9 + (maxL + 11) + rm.locals ≤ R.locals)
    (hws : ∀ w ∈ ws, ∀ a' U, s.WarmedH U.vm → w.before a' U = true) (hcode : Cond.code y bytes maxL ret ∈ ws) (hinit : ∀ a' U, s.WarmedH U.vm → (Cond.initialized y.cls).before a' U = true) :
    vx_Back l R p e below s sargs y len W9 (PreOf R mc ms Pc) (PostOf Qc mc ms free) (vx_Post XC mc ms free) := by
  intro m meth c A g ig mk a X hg hsize hdg hW hn hp
  have h1 : (headSpec ws rm).pre.before a A.U = true := atoms_intro fun w hw => hws w hw _ _ X.warmed
  have h2 : (Cond.code y bytes maxL ret).before a A.U = true := hws _ hcode _ _ X.warmed
  have h3 : (Cond.initialized y.cls).before a A.U = true := hinit _ _ X.warmed
  have h4 : A.cells + (headSpec ws rm).room.cells ≤ R.cells := by rw [show (headSpec ws rm).room.cells = mc from hrc]; exact hp.1
  have h5 : A.slots + (headSpec ws rm).room.slots ≤ R.slots := by rw [show (headSpec ws rm).room.slots = ms from hrs]; exact hp.2.1
  have hPc : Pc a (A.U.calling g mk a) := hblind _ _ _ _ hp.2.2
  obtain ⟨U, Ls, c0, s0⟩ := A
  dsimp only [Pt.U, Pt.locs, Pt.cells, Pt.slots] at h1 h2 h3 h4 h5 X hn hPc ⊢
  obtain ⟨methY, cY, hmY, hcY, -, hlY, -, -, -, -⟩ := Cond.code_spec hn h2
  obtain ⟨kY, hkY, -⟩ := className_of_methodNamed hn
  have hinitY : kY.init = .initialized := Cond.initialized_spec (findClass_of_methodNamed hn) hkY h3
  have h : At U g.method c below := by rw [hg]; exact X.here
  have hlocals9 : W9 + (maxL + 11) + (headSpec ws rm).room.locals ≤ R.locals := hlocals
  have happ : (headSpec ws rm).appliesLoose y e.platform (U.calling g mk a) = true :=
    Spec.appliesLoose_calling (g := g) h hdg hn hkY hinitY
      (X.room_calling (g := g) (R' := (headSpec ws rm).room) hsize hmY hcY hframes (by rw [hlY]; omega) h4 h5) h1
  obtain ⟨mid, hmid⟩ := h.above
  have hfr : (U.setTop g).frames = (.java g :: mid) ++ below := by rw [State.frames_setTop' g h.top, hmid]; rfl
  obtain ⟨o, s₂, hsteps, -, hend, hq⟩ := Steps.callFree hM p X.admits X.cas X.clock (acts := []) hfr happ hPc trivial
  have hq' : vx_Q Qc XC mc ms free a (U.calling g mk a) o s₂ := hq
  rw [State.frames_setTop' g h.top] at hend
  obtain ⟨g₀, hg0⟩ := Option.isSome_iff_exists.mp h.top
  obtain ⟨r, hr⟩ := State.topJava?_eq_some.mp hg0
  have hr' : (({ U with heap := s₂.heap, slotsUsed := s₂.slotsUsed } : State).setVm s₂.vm).frames = .java g₀ :: r := hr
  rcases hq' with ⟨hqc, L, hfe, hL⟩ | ⟨q, rfl, E, ce, L, hx, hce, hcv, hcl, hW₂, hsm, hL⟩
  · obtain ⟨⟨v, rfl⟩, hW₂, e2, q2, q3, q4, q5, q6⟩ := id hfe
    have e3 : s₂ = ({ (U.calling g mk a).setFrames s₂.frames with heap := s₂.heap, slotsUsed := s₂.slotsUsed } : State).setVm s₂.vm := by
      have : s₂ = ({ s₂ with vm := (U.calling g mk a).vm } : State).setVm s₂.vm := rfl
      rw [e2] at this
      exact this
    obtain ⟨c₂, i₂, len₂, hc₂, hd₂, hf₂⟩ := hend
    have hW' : U.WarmedH s₂.vm := hW₂
    have hcc : c₂ = c := by
      have h1 : s₂.code? g.method = U.code? g.method := by
        rw [State.code?_eq, State.code?_eq, hW'.alike.method?]
      exact Option.some.inj (hc₂.symm.trans (h1.trans h.code))
    subst hcc
    have hlen : len₂ = len := by rw [hdg] at hd₂; cases hd₂; rfl
    subst hlen
    have hs₂ : s₂ = (({ U with heap := s₂.heap, slotsUsed := s₂.slotsUsed } : State).setVm s₂.vm).setTop { g with pc := g.pc + len₂, stack := v.toList ++ g.stack } := by
      refine e3.trans ?_
      rw [hf₂, State.calling_eq h.top, State.setFrames_setFrames, State.setTop_of_frames _ hr', hr]
      rfl
    have hsame : U.sameButNew ({ U with heap := s₂.heap, slotsUsed := s₂.slotsUsed } : State) L mc ms := by
      refine ⟨?_, q2, q3, q4, q5, q6⟩
      obtain ⟨t, ht, -⟩ := State.frames_cons hr
      show ({ U with heap := s₂.heap, slotsUsed := s₂.slotsUsed } : State) = { U.setFrames U.frames with heap := s₂.heap, slotsUsed := s₂.slotsUsed }
      rw [State.setFrames_self ht]
    subst hg
    refine Or.inl ⟨v, ⟨(({ U with heap := s₂.heap, slotsUsed := s₂.slotsUsed } : State).setVm s₂.vm), Ls ++ L, c0 + mc, s0 + ms⟩,
      ⟨X.admits, X.cas, X.clock, X.frames, X.room, X.hears, X.method, X.code, (X.here.setHeapUsed s₂.heap s₂.slotsUsed).setVm hW'.alike, X.tail, State.WarmedH.trans X.warmed hW', X.limits, X.bytes, X.same.trans (hsame.setVm s.vm)⟩,
      ⟨g, mk, s₂, L, rfl, rfl, hqc, rfl, hL, rfl, rfl⟩, ?_⟩
    show Steps p.tables e below _ ((({ U with heap := s₂.heap, slotsUsed := s₂.slotsUsed } : State).setVm s₂.vm).setTop { g with pc := g.pc + len₂, stack := v.toList ++ g.stack })
    rw [← hs₂]
    exact hsteps
  · obtain ⟨e2, q2, q3, q4, q5, q6⟩ := id hsm
    have e3 : s₂ = ({ (U.calling g mk a).setFrames s₂.frames with heap := s₂.heap, slotsUsed := s₂.slotsUsed } : State).setVm s₂.vm := by
      have : s₂ = ({ s₂ with vm := (U.calling g mk a).vm } : State).setVm s₂.vm := rfl
      rw [e2] at this
      exact this
    have hf₂ : s₂.frames = .throwing q :: .java g :: U.frames.tail := hend
    have hW' : U.WarmedH s₂.vm := hW₂
    have hs₂ : s₂ = ((({ U with heap := s₂.heap, slotsUsed := s₂.slotsUsed } : State).setVm s₂.vm).setTop g).pushFrame (.throwing q) := by
      refine e3.trans ?_
      rw [hf₂, State.calling_eq h.top, State.setFrames_setFrames, State.pushFrame, State.frames_setTop _ hr', State.setTop_of_frames _ hr', State.setFrames_setFrames, hr]
      rfl
    have hsame : U.sameButNew ({ U with heap := s₂.heap, slotsUsed := s₂.slotsUsed } : State) L mc ms := by
      refine ⟨?_, q2, q3, q4, q5, q6⟩
      obtain ⟨t, ht, -⟩ := State.frames_cons hr
      show ({ U with heap := s₂.heap, slotsUsed := s₂.slotsUsed } : State) = { U.setFrames U.frames with heap := s₂.heap, slotsUsed := s₂.slotsUsed }
      rw [State.setFrames_self ht]
    subst hg
    refine Or.inr ⟨q, ⟨(({ U with heap := s₂.heap, slotsUsed := s₂.slotsUsed } : State).setVm s₂.vm), Ls ++ L, c0 + mc, s0 + ms⟩,
      ⟨X.admits, X.cas, X.clock, X.frames, X.room, X.hears, X.method, X.code, (X.here.setHeapUsed s₂.heap s₂.slotsUsed).setVm hW'.alike, X.tail, State.WarmedH.trans X.warmed hW', X.limits, X.bytes, X.same.trans (hsame.setVm s.vm)⟩,
      ⟨g, mk, s₂, L, E, ce, rfl, rfl, hx, hce, hcv, hcl, rfl, hL, rfl, rfl⟩, ?_⟩
    show Steps p.tables e below _ (((({ U with heap := s₂.heap, slotsUsed := s₂.slotsUsed } : State).setVm s₂.vm).setTop g).pushFrame (.throwing q))
    rw [← hs₂]
    exact hsteps
end Payer
section Calls
variable {p : Program} {l : Launch} {e : Env} {R : Room} {s : State} {m : MethodId} {args : Array Value} {below : List Frame} {meth : Method} {c : Code} {T : State} {locs : List Loc} {cells slots : Nat}
theorem vx_callV (X : Stand p l e R s m args below meth c T locs cells slots) (hexec : p.tables.exec = Jvm.exec) {own C : String} {index : Nat} {y : MethodName} {bytes : ByteArray} {maxL : Nat} {ret : Option FieldType}
    (hown : s.vm.findClass own = some m.cls) (hlink : (Cond.methodLink own index y).before args s = true) (hinst : (Cond.instanceMethod y).before args s = true) (hsel : (Cond.selects C y y).before args s = true)
    (hcode : (Cond.code y bytes maxL ret).before args s = true) (hy : y.cls ≠ "java/lang/invoke/MethodHandle" ∧ y.cls ≠ "java/lang/invoke/VarHandle")
    {W9 : Nat} {Pre : Pt → Array Value → Prop} {Post : Pt → Array Value → Option Value → Pt → Prop} {PostX : Pt → Array Value → Addr → Pt → Prop} (hK : vx_Back l R p e below s args y 3 W9 Pre Post PostX)
    {b : Addr} {cellB : Cell} (hcell : T.heap[b]? = some cellB) (hobj : cellB.vm.isStatics = false) (hcls : s.vm.findClass C = some cellB.cls)
    {g : JFrame} (hg : g.method = m) (hsize : g.locals.size = c.maxLocals) {argsL rest : List Value} (hlen : ∀ sig, parseMethodDescriptor y.desc = some sig → argsL.length = sig.parameters.length)
    (hstack : g.stack = argsL.reverse ++ .ref b :: rest) (hW : 2 * g.monitorRoom + (rest.map fun v => v.category).sum ≤ W9) (hdg : decode c.code g.pc = .ok (.invokevirtual index, 3))
    (hpre : ∀ vm₁, s.WarmedH vm₁ → Pre ⟨T.setVm vm₁, locs, cells, slots⟩ (Value.ref b :: argsL).toArray) :
    (∃ (v : Option Value) (vm₁ : Vm) (B : Pt), s.WarmedH vm₁ ∧ Stand p l e R s m args below meth c B.U B.locs B.cells B.slots ∧ Post ⟨T.setVm vm₁, locs, cells, slots⟩ (Value.ref b :: argsL).toArray v B ∧
      ∀ target, Steps p.tables e below (B.U.setTop { g with pc := g.pc + 3, stack := v.toList ++ rest }) target → Steps p.tables e below (T.setTop g) target) ∨
    (∃ (q : Addr) (vm₁ : Vm) (B : Pt), s.WarmedH vm₁ ∧ Stand p l e R s m args below meth c B.U B.locs B.cells B.slots ∧ PostX ⟨T.setVm vm₁, locs, cells, slots⟩ (Value.ref b :: argsL).toArray q B ∧
      Steps p.tables e below (T.setTop g) ((B.U.setTop { g with stack := rest }).pushFrame (.throwing q))) := by
  obtain ⟨mk, methM, hnamed, hmethM, hstM, habM⟩ := Cond.instanceMethod_spec hinst
  obtain ⟨methM', cM, hmethM', -, -, -, -, -, -, hsigM⟩ := Cond.code_spec hnamed hcode
  cases hmethM.symm.trans hmethM'
  obtain ⟨c2, r2, m2, q1, q2, q3, q4, kP, hkP, hkPi⟩ := Cond.selects_spec hsel
  cases hcls.symm.trans q1
  cases (State.methodFound?_of_named hnamed hy).symm.trans q2
  cases hnamed.symm.trans q3
  have hselP : selectMethod e.platform s.vm cellB.cls mk = .method mk := by rw [Launch.admits_selectMethod X.admits]; exact q4
  obtain ⟨vm₁, X₁, hstep₁⟩ := X.invokevirtual hexec hown hlink hnamed hmethM hstM hkP hkPi hy (a := b) (cell := cellB) hcell
    (fun z h => by rw [h] at hobj; cases hobj) hselP hmethM habM hkP hkPi (g := g) hg (argsL := argsL) (rest := rest) (hlen _ hsigM) hstack hdg
  rcases hK m meth c ⟨T.setVm vm₁, locs, cells, slots⟩ { g with stack := rest } (.invokevirtual index) mk (Value.ref b :: argsL).toArray X₁ hg hsize hdg hW (X₁.named hnamed) (hpre vm₁ X₁.warmed) with ⟨v, B, X', hpost, hsteps⟩ | ⟨q, B, X', hpost, hsteps⟩
  · exact Or.inl ⟨v, vm₁, B, X₁.warmed, X', hpost, fun target h => hstep₁ _ fun acts => by rw [doInvoke_state]; exact hsteps.trans h⟩
  · exact Or.inr ⟨q, vm₁, B, X₁.warmed, X', hpost, hstep₁ _ fun acts => by rw [doInvoke_state]; exact hsteps⟩
theorem vx_callS (X : Stand p l e R s m args below meth c T locs cells slots) (hexec : p.tables.exec = Jvm.exec) {own : String} {index : Nat} {y : MethodName} {bytes : ByteArray} {maxL : Nat} {ret : Option FieldType}
    (hown : s.vm.findClass own = some m.cls) (hlink : (Cond.methodLink own index y).before args s = true) (hstat : (Cond.static y).before args s = true) (hinit : (Cond.initialized y.cls).before args s = true)
    (hcode : (Cond.code y bytes maxL ret).before args s = true) (hy : y.cls ≠ "java/lang/invoke/MethodHandle" ∧ y.cls ≠ "java/lang/invoke/VarHandle")
    {W9 : Nat} {Pre : Pt → Array Value → Prop} {Post : Pt → Array Value → Option Value → Pt → Prop} {PostX : Pt → Array Value → Addr → Pt → Prop} (hK : vx_Back l R p e below s args y 3 W9 Pre Post PostX)
    {g : JFrame} (hg : g.method = m) (hsize : g.locals.size = c.maxLocals) {argsL rest : List Value} (hlen : ∀ sig, parseMethodDescriptor y.desc = some sig → argsL.length = sig.parameters.length)
    (hstack : g.stack = argsL.reverse ++ rest) (hW : 2 * g.monitorRoom + (rest.map fun v => v.category).sum ≤ W9) (hdg : decode c.code g.pc = .ok (.invokestatic index, 3))
    (hpre : ∀ vm₁, s.WarmedH vm₁ → Pre ⟨T.setVm vm₁, locs, cells, slots⟩ argsL.toArray) :
    (∃ (v : Option Value) (vm₁ : Vm) (B : Pt), s.WarmedH vm₁ ∧ Stand p l e R s m args below meth c B.U B.locs B.cells B.slots ∧ Post ⟨T.setVm vm₁, locs, cells, slots⟩ argsL.toArray v B ∧
      ∀ target, Steps p.tables e below (B.U.setTop { g with pc := g.pc + 3, stack := v.toList ++ rest }) target → Steps p.tables e below (T.setTop g) target) ∨
    (∃ (q : Addr) (vm₁ : Vm) (B : Pt), s.WarmedH vm₁ ∧ Stand p l e R s m args below meth c B.U B.locs B.cells B.slots ∧ PostX ⟨T.setVm vm₁, locs, cells, slots⟩ argsL.toArray q B ∧
      Steps p.tables e below (T.setTop g) ((B.U.setTop { g with stack := rest }).pushFrame (.throwing q))) := by
  obtain ⟨mk, hnamed⟩ := Cond.code_named hcode
  obtain ⟨methM, cM, hmethM, -, -, -, -, -, -, hsigM⟩ := Cond.code_spec hnamed hcode
  have hstatic : methM.isStatic = true := Cond.static_spec hnamed hmethM hstat
  obtain ⟨kP, hkP, -⟩ := className_of_methodNamed hnamed
  have hinitP : kP.init = .initialized := Cond.initialized_spec (findClass_of_methodNamed hnamed) hkP hinit
  obtain ⟨vm₁, X₁, hstep₁⟩ := X.invokestatic hexec hown hlink hnamed hmethM hstatic hkP hinitP hy (g := g) hg (argsL := argsL) (rest := rest) (hlen _ hsigM) hstack hdg
  rcases hK m meth c ⟨T.setVm vm₁, locs, cells, slots⟩ { g with stack := rest } (.invokestatic index) mk argsL.toArray X₁ hg hsize hdg hW (X₁.named hnamed) (hpre vm₁ X₁.warmed) with ⟨v, B, X', hpost, hsteps⟩ | ⟨q, B, X', hpost, hsteps⟩
  · exact Or.inl ⟨v, vm₁, B, X₁.warmed, X', hpost, fun target h => hstep₁ _ fun acts => by rw [doInvoke_state]; exact hsteps.trans h⟩
  · exact Or.inr ⟨q, vm₁, B, X₁.warmed, X', hpost, hstep₁ _ fun acts => by rw [doInvoke_state]; exact hsteps⟩
end Calls
theorem vx_cls {s : State} {T : State} {vm₁ : Vm} {E : String} {k : ClassId} (hW : s.WarmedH vm₁) (h : (T.setVm vm₁).vm.findClass E = some k) : s.vm.findClass E = some k := by
  have h1 : vm₁.findClass E = some k := h
  rw [hW.alike.findClass] at h1
  exact h1
/-- the method's frame g, with q thrown over it -/
def vx_W (p : Program) (l : Launch) (e : Env) (R : Room) (s : State) (m : MethodId) (args : Array Value) (below : List Frame) (meth : Method) (c : Code) (H : Heap) (locs : List Loc) (cells slots : Nat) (Q : State → Prop) (g : JFrame) (q : Addr) : Prop :=
  ∀ T : State, T.heap = H → Stand p l e R s m args below meth c T locs cells slots → ∃ t, Steps p.tables e below ((T.setTop g).pushFrame (.throwing q)) t ∧ Q t
def vx_Run (p : Program) (l : Launch) (e : Env) (R : Room) (s : State) (m : MethodId) (args : Array Value) (below : List Frame) (meth : Method) (c : Code) (H : Heap) (locs : List Loc) (cells slots mc ms : Nat) (g : JFrame) (rest : List Value) (Qa : State → Outcome → State → Prop) (XC : String → State → State → Prop) (free : Addr → Prop) : Prop :=
  ∀ T : State, T.heap = H → Stand p l e R s m args below meth c T locs cells slots →
    (∃ (v : Option Value) (st₀ t T' : State) (L : List Loc), st₀.heap = H ∧ Stand p l e R s m args below meth c T' (locs ++ L) (cells + mc) (slots + ms) ∧ (∀ q ∈ L, free q.base) ∧ T'.heap = t.heap ∧ T'.vm = t.vm ∧ Qa st₀ (.returned v) t ∧
      Goes p e below T g T' { g with pc := g.pc + 3, stack := v.toList ++ rest }) ∨
    (∃ (q : Addr) (st₀ t T' : State) (L : List Loc) (E : String) (ce : Cell), st₀.heap = H ∧ Stand p l e R s m args below meth c T' (locs ++ L) (cells + mc) (slots + ms) ∧ (∀ z ∈ L, free z.base) ∧ T'.heap = t.heap ∧ T'.vm = t.vm ∧ XC E st₀ t ∧ t.heap[q]? = some ce ∧ ce.vm = .none ∧ s.vm.findClass E = some ce.cls ∧
      Steps p.tables e below (T.setTop g) ((T'.setTop { g with stack := rest }).pushFrame (.throwing q)))
def vx_X {S : Type} (px : S → Prop) (B : String → S → State → Prop) (A : Nat → Prop) : String → State → State → Prop := fun E st t => ∃ u : S, px u ∧ B E u t ∧ va_F A st t
section Runs
variable {p : Program} {l : Launch} {e : Env} {R : Room} {s : State} {m : MethodId} {args : Array Value} {below : List Frame} {meth : Method} {c : Code} {H : Heap} {locs : List Loc} {cells slots : Nat}
variable {y : MethodName} {bytes cc : ByteArray} {maxL nL mc ms n index : Nat} {ret : Option FieldType} {ws : List Cond} {rm : Room} {Pc : Array Value → State → Prop} {Qc : Array Value → State → Outcome → State → Prop} {XC : String → State → State → Prop} {free : Addr → Prop} {Ts : List Cond} {own C : String} {b : Addr} {As rest : List Value} {g : JFrame}
theorem vx_callBack (cb : CallB R s args own index y bytes maxL ret ws rm mc ms n) (hM : vx_Met l y ws rm Pc Qc XC mc ms free) (hbl : FrameBlind Pc) : vx_Back l R p e below s args y 3 8 (PreOf R mc ms Pc) (PostOf Qc mc ms free) (vx_Post XC mc ms free) := by
  obtain ⟨hrc, hrs, hfr, hlo, hws, hcw, -, hini, -⟩ := cb
  exact vx_back (bytes := bytes) (maxL := maxL) (ret := ret) hM hbl hrc hrs hfr hlo hws hcw (fun a' U hW => word_at hW (Or.inl (by first | rfl | simp [Cond.onTables, Cond.keeps, Cond.steady])) hini)
theorem vx_runV (S : CallFix p m c cc nL s args Ts own) (hM : vx_Met l y ws rm Pc Qc XC mc ms free) (cw : CallW R s args own C index y bytes maxL ret ws rm mc ms n) (hp : PreV s H C b Pc As)
    (hg : g.method = m) (hn : As.length = n) (hsize : g.locals.size = nL) (hstack : g.stack = As.reverse ++ .ref b :: rest) (hW : 2 * g.monitorRoom + (rest.map fun v => v.category).sum ≤ 8) (hdg : decode cc g.pc = .ok (.invokevirtual index, 3)) (hf : cells + mc ≤ R.cells ∧ slots + ms ≤ R.slots) :
    vx_Run p l e R s m args below meth c H locs cells slots mc ms g rest (Qc (Value.ref b :: As).toArray) XC free := by
  have hK : vx_Back l R p e below s args y 3 8 (PreOf R mc ms Pc) (PostOf Qc mc ms free) (vx_Post XC mc ms free) := vx_callBack cw.1 hM hp.1
  obtain ⟨⟨-, -, -, -, -, -, hcode, -, hy, hlen, hl⟩, hin, hse⟩ := cw
  obtain ⟨hx, hb, hml, ho, -⟩ := S
  obtain ⟨-, ⟨cellB, hcB, hoB, hclB⟩, hPc⟩ := hp
  intro T hT X
  rcases vx_callV X hx (C := C) (bytes := bytes) (maxL := maxL) (ret := ret) ho hl hin hse hcode hy hK (by rw [hT]; exact hcB) hoB hclB hg (hsize.trans hml.symm) (argsL := As) (rest := rest) (fun sig h => hn.trans (hlen sig h)) hstack hW (by rw [hb]; exact hdg)
    (fun vm₁ hW₁ => ⟨hf.1, hf.2, hPc (T.setVm vm₁) hT hW₁⟩) with ⟨v, vm₁, ⟨U', l2, c2, s2⟩, hW₁, X', ⟨g', mk, t, L, e1, e2, hq, h1, hL, h2, h3⟩, st⟩ | ⟨q, vm₁, ⟨U', l2, c2, s2⟩, hW₁, X', ⟨g', mk, t, L, E, ce, e1, e2, hq, hce, hcv, hcl, h1, hL, h2, h3⟩, st⟩
  · dsimp only [Pt.U, Pt.locs, Pt.cells, Pt.slots] at X' e1 e2 h1 h2 h3 st
    subst h1; subst h2; subst h3
    exact Or.inl ⟨v, (T.setVm vm₁).calling g' mk (Value.ref b :: As).toArray, t, U', L, hT, X', hL, e1, e2, hq, st⟩
  · dsimp only [Pt.U, Pt.locs, Pt.cells, Pt.slots] at X' e1 e2 h1 h2 h3 st hcl
    subst h1; subst h2; subst h3
    exact Or.inr ⟨q, (T.setVm vm₁).calling g' mk (Value.ref b :: As).toArray, t, U', L, E, ce, hT, X', hL, e1, e2, hq, hce, hcv, vx_cls hW₁ hcl, st⟩
theorem vx_runS (S : CallFix p m c cc nL s args Ts own) (hM : vx_Met l y ws rm Pc Qc XC mc ms free) (cw : CallB R s args own index y bytes maxL ret ws rm mc ms n ∧ (Cond.static y).before args s = true) (hp : PreS s H Pc As)
    (hg : g.method = m) (hn : As.length = n) (hsize : g.locals.size = nL) (hstack : g.stack = As.reverse ++ rest) (hW : 2 * g.monitorRoom + (rest.map fun v => v.category).sum ≤ 8) (hdg : decode cc g.pc = .ok (.invokestatic index, 3)) (hf : cells + mc ≤ R.cells ∧ slots + ms ≤ R.slots) :
    vx_Run p l e R s m args below meth c H locs cells slots mc ms g rest (Qc As.toArray) XC free := by
  have hK : vx_Back l R p e below s args y 3 8 (PreOf R mc ms Pc) (PostOf Qc mc ms free) (vx_Post XC mc ms free) := vx_callBack cw.1 hM hp.1
  obtain ⟨⟨-, -, -, -, -, -, hcode, hini, hy, hlen, hl⟩, hstt⟩ := cw
  obtain ⟨hx, hb, hml, ho, -⟩ := S
  intro T hT X
  rcases vx_callS X hx (bytes := bytes) (maxL := maxL) (ret := ret) ho hl hstt hini hcode hy hK hg (hsize.trans hml.symm) (argsL := As) (rest := rest) (fun sig h => hn.trans (hlen sig h)) hstack hW (by rw [hb]; exact hdg)
    (fun vm₁ hW₁ => ⟨hf.1, hf.2, hp.2 (T.setVm vm₁) hT hW₁⟩) with ⟨v, vm₁, ⟨U', l2, c2, s2⟩, hW₁, X', ⟨g', mk, t, L, e1, e2, hq, h1, hL, h2, h3⟩, st⟩ | ⟨q, vm₁, ⟨U', l2, c2, s2⟩, hW₁, X', ⟨g', mk, t, L, E, ce, e1, e2, hq, hce, hcv, hcl, h1, hL, h2, h3⟩, st⟩
  · dsimp only [Pt.U, Pt.locs, Pt.cells, Pt.slots] at X' e1 e2 h1 h2 h3 st
    subst h1; subst h2; subst h3
    exact Or.inl ⟨v, (T.setVm vm₁).calling g' mk As.toArray, t, U', L, hT, X', hL, e1, e2, hq, st⟩
  · dsimp only [Pt.U, Pt.locs, Pt.cells, Pt.slots] at X' e1 e2 h1 h2 h3 st hcl
    subst h1; subst h2; subst h3
    exact Or.inr ⟨q, (T.setVm vm₁).calling g' mk As.toArray, t, U', L, E, ce, hT, X', hL, e1, e2, hq, hce, hcv, vx_cls hW₁ hcl, st⟩
end Runs
section Rows
variable {p : Program} {l : Launch} {e : Env} {R : Room} {s : State} {m : MethodId} {args : Array Value} {below : List Frame} {meth : Method} {c : Code} {H : Heap} {locs : List Loc} {cells slots : Nat} {Q : State → Prop}
variable {mc ms : Nat} {free : Addr → Prop} {A0 A1 : Nat → Prop} {H0 : Heap} {a : Array Value} {pc : Nat} {ls : Array Slot} {st0 rest : List Value}
theorem vx_keep {st₀ t T' : State} {L : List Loc} (h0 : st₀.heap = H) (e1 : T'.heap = t.heap) (hS : va_S A0 H0 H locs) (hA : ∀ q, q < H.size → A1 q → A0 q) (hf : ∀ q, free q → A0 q) (hL : ∀ q ∈ L, free q.base) (hF : va_F A1 st₀ t) :
    H.size ≤ T'.heap.size ∧ (∀ q : Nat, q < H.size → ¬ A1 q → T'.heap[q]? = H[q]?) ∧ va_S A0 H0 T'.heap (locs ++ L) := by
  obtain ⟨hz, hk⟩ := hF
  rw [h0] at hz hk
  exact ⟨by rw [e1]; exact hz, fun q h1 h2 => by rw [e1]; exact hk q h1 h2,
    ⟨Nat.le_trans hS.1 (by rw [e1]; exact hz), fun q h1 h2 => by rw [e1, hk q (Nat.lt_of_lt_of_le h1 hS.1) (fun z => h2 (hA q (Nat.lt_of_lt_of_le h1 hS.1) z))]; exact hS.2.1 q h1 h2, fun q hq => by
      rcases List.mem_append.mp hq with h | h
      · exact hS.2.2 q h
      · exact hf _ (hL q h)⟩⟩
theorem vx_calli {S SX : Type} {post : Int32 → S → Prop} {px : SX → Prop} {B : S → State → Prop} {BX : String → SX → State → Prop} {AX : Nat → Prop} (hr : vx_Run p l e R s m args below meth c H locs cells slots mc ms (F0 m pc ls st0) rest (va_Qi post B A1 a) (vx_X px BX AX) free) (hS : va_S A0 H0 H locs) (hA : ∀ q, q < H.size → A1 q → A0 q) (hf : ∀ q, free q → A0 q) (hAX : ∀ q, q < H.size → AX q → A0 q)
    (kx : ∀ (E : String) (ce : Cell) (q9 : Addr) (u : SX) (t : State) (H1 : Heap) (locs1 : List Loc), t.heap = H1 → s.vm.Alike t.vm → px u → BX E u t → H.size ≤ H1.size → (∀ q : Nat, q < H.size → ¬ AX q → H1[q]? = H[q]?) → va_S A0 H0 H1 locs1 → H1[q9]? = some ce → ce.vm = .none → s.vm.findClass E = some ce.cls → vx_W p l e R s m args below meth c H1 locs1 (cells + mc) (slots + ms) Q (F0 m pc ls rest) q9)
    (kk : ∀ (r : Int32) (u : S) (t : State) (H1 : Heap) (locs1 : List Loc), t.heap = H1 → s.vm.Alike t.vm → post r u → B u t → H.size ≤ H1.size → (∀ q : Nat, q < H.size → ¬ A1 q → H1[q]? = H[q]?) → va_S A0 H0 H1 locs1 → W p l e R s m args below meth c H1 locs1 (cells + mc) (slots + ms) Q (F0 m (pc + 3) ls (.int r :: rest))) : W p l e R s m args below meth c H locs cells slots Q (F0 m pc ls st0) := by
  intro T hT X
  rcases hr T hT X with ⟨v, st₀, t, T', L, h0, X', hL, e1, e2, ⟨⟨r, u, hv, hp, hb⟩, hF⟩, st⟩ | ⟨q, st₀, t, T', L, E, ce, h0, X', hL, e1, e2, ⟨u, hp, hb, hF⟩, hce, hcv, hcl, st⟩
  · cases hv
    obtain ⟨k1, k2, k3⟩ := vx_keep h0 e1 hS hA hf hL hF
    obtain ⟨t2, a1, b1⟩ := kk r u t T'.heap (locs ++ L) e1.symm (by rw [← e2]; exact X'.warmed.alike) hp hb k1 k2 k3 T' rfl X'
    exact ⟨t2, st t2 a1, b1⟩
  · obtain ⟨k1, k2, k3⟩ := vx_keep h0 e1 hS hAX hf hL hF
    obtain ⟨t2, a1, b1⟩ := kx E ce q u t T'.heap (locs ++ L) e1.symm (by rw [← e2]; exact X'.warmed.alike) hp hb k1 k2 k3 (by rw [e1]; exact hce) hcv hcl T' rfl X'
    exact ⟨t2, st.trans a1, b1⟩
theorem vx_calll {S SX : Type} {post : Int64 → S → Prop} {px : SX → Prop} {B : S → State → Prop} {BX : String → SX → State → Prop} {AX : Nat → Prop} (hr : vx_Run p l e R s m args below meth c H locs cells slots mc ms (F0 m pc ls st0) rest (va_Ql post B A1 a) (vx_X px BX AX) free) (hS : va_S A0 H0 H locs) (hA : ∀ q, q < H.size → A1 q → A0 q) (hf : ∀ q, free q → A0 q) (hAX : ∀ q, q < H.size → AX q → A0 q)
    (kx : ∀ (E : String) (ce : Cell) (q9 : Addr) (u : SX) (t : State) (H1 : Heap) (locs1 : List Loc), t.heap = H1 → s.vm.Alike t.vm → px u → BX E u t → H.size ≤ H1.size → (∀ q : Nat, q < H.size → ¬ AX q → H1[q]? = H[q]?) → va_S A0 H0 H1 locs1 → H1[q9]? = some ce → ce.vm = .none → s.vm.findClass E = some ce.cls → vx_W p l e R s m args below meth c H1 locs1 (cells + mc) (slots + ms) Q (F0 m pc ls rest) q9)
    (kk : ∀ (r : Int64) (u : S) (t : State) (H1 : Heap) (locs1 : List Loc), t.heap = H1 → s.vm.Alike t.vm → post r u → B u t → H.size ≤ H1.size → (∀ q : Nat, q < H.size → ¬ A1 q → H1[q]? = H[q]?) → va_S A0 H0 H1 locs1 → W p l e R s m args below meth c H1 locs1 (cells + mc) (slots + ms) Q (F0 m (pc + 3) ls (.long r :: rest))) : W p l e R s m args below meth c H locs cells slots Q (F0 m pc ls st0) := by
  intro T hT X
  rcases hr T hT X with ⟨v, st₀, t, T', L, h0, X', hL, e1, e2, ⟨⟨r, u, hv, hp, hb⟩, hF⟩, st⟩ | ⟨q, st₀, t, T', L, E, ce, h0, X', hL, e1, e2, ⟨u, hp, hb, hF⟩, hce, hcv, hcl, st⟩
  · cases hv
    obtain ⟨k1, k2, k3⟩ := vx_keep h0 e1 hS hA hf hL hF
    obtain ⟨t2, a1, b1⟩ := kk r u t T'.heap (locs ++ L) e1.symm (by rw [← e2]; exact X'.warmed.alike) hp hb k1 k2 k3 T' rfl X'
    exact ⟨t2, st t2 a1, b1⟩
  · obtain ⟨k1, k2, k3⟩ := vx_keep h0 e1 hS hAX hf hL hF
    obtain ⟨t2, a1, b1⟩ := kx E ce q u t T'.heap (locs ++ L) e1.symm (by rw [← e2]; exact X'.warmed.alike) hp hb k1 k2 k3 (by rw [e1]; exact hce) hcv hcl T' rfl X'
    exact ⟨t2, st.trans a1, b1⟩
theorem vx_callf {S SX : Type} {post : UInt32 → S → Prop} {px : SX → Prop} {B : S → State → Prop} {BX : String → SX → State → Prop} {AX : Nat → Prop} (hr : vx_Run p l e R s m args below meth c H locs cells slots mc ms (F0 m pc ls st0) rest (va_Qf post B A1 a) (vx_X px BX AX) free) (hS : va_S A0 H0 H locs) (hA : ∀ q, q < H.size → A1 q → A0 q) (hf : ∀ q, free q → A0 q) (hAX : ∀ q, q < H.size → AX q → A0 q)
    (kx : ∀ (E : String) (ce : Cell) (q9 : Addr) (u : SX) (t : State) (H1 : Heap) (locs1 : List Loc), t.heap = H1 → s.vm.Alike t.vm → px u → BX E u t → H.size ≤ H1.size → (∀ q : Nat, q < H.size → ¬ AX q → H1[q]? = H[q]?) → va_S A0 H0 H1 locs1 → H1[q9]? = some ce → ce.vm = .none → s.vm.findClass E = some ce.cls → vx_W p l e R s m args below meth c H1 locs1 (cells + mc) (slots + ms) Q (F0 m pc ls rest) q9)
    (kk : ∀ (r : UInt32) (u : S) (t : State) (H1 : Heap) (locs1 : List Loc), t.heap = H1 → s.vm.Alike t.vm → post r u → B u t → H.size ≤ H1.size → (∀ q : Nat, q < H.size → ¬ A1 q → H1[q]? = H[q]?) → va_S A0 H0 H1 locs1 → W p l e R s m args below meth c H1 locs1 (cells + mc) (slots + ms) Q (F0 m (pc + 3) ls (.float r :: rest))) : W p l e R s m args below meth c H locs cells slots Q (F0 m pc ls st0) := by
  intro T hT X
  rcases hr T hT X with ⟨v, st₀, t, T', L, h0, X', hL, e1, e2, ⟨⟨r, u, hv, hp, hb⟩, hF⟩, st⟩ | ⟨q, st₀, t, T', L, E, ce, h0, X', hL, e1, e2, ⟨u, hp, hb, hF⟩, hce, hcv, hcl, st⟩
  · cases hv
    obtain ⟨k1, k2, k3⟩ := vx_keep h0 e1 hS hA hf hL hF
    obtain ⟨t2, a1, b1⟩ := kk r u t T'.heap (locs ++ L) e1.symm (by rw [← e2]; exact X'.warmed.alike) hp hb k1 k2 k3 T' rfl X'
    exact ⟨t2, st t2 a1, b1⟩
  · obtain ⟨k1, k2, k3⟩ := vx_keep h0 e1 hS hAX hf hL hF
    obtain ⟨t2, a1, b1⟩ := kx E ce q u t T'.heap (locs ++ L) e1.symm (by rw [← e2]; exact X'.warmed.alike) hp hb k1 k2 k3 (by rw [e1]; exact hce) hcv hcl T' rfl X'
    exact ⟨t2, st.trans a1, b1⟩
theorem vx_calld {S SX : Type} {post : UInt64 → S → Prop} {px : SX → Prop} {B : S → State → Prop} {BX : String → SX → State → Prop} {AX : Nat → Prop} (hr : vx_Run p l e R s m args below meth c H locs cells slots mc ms (F0 m pc ls st0) rest (va_Qd post B A1 a) (vx_X px BX AX) free) (hS : va_S A0 H0 H locs) (hA : ∀ q, q < H.size → A1 q → A0 q) (hf : ∀ q, free q → A0 q) (hAX : ∀ q, q < H.size → AX q → A0 q)
    (kx : ∀ (E : String) (ce : Cell) (q9 : Addr) (u : SX) (t : State) (H1 : Heap) (locs1 : List Loc), t.heap = H1 → s.vm.Alike t.vm → px u → BX E u t → H.size ≤ H1.size → (∀ q : Nat, q < H.size → ¬ AX q → H1[q]? = H[q]?) → va_S A0 H0 H1 locs1 → H1[q9]? = some ce → ce.vm = .none → s.vm.findClass E = some ce.cls → vx_W p l e R s m args below meth c H1 locs1 (cells + mc) (slots + ms) Q (F0 m pc ls rest) q9)
    (kk : ∀ (r : UInt64) (u : S) (t : State) (H1 : Heap) (locs1 : List Loc), t.heap = H1 → s.vm.Alike t.vm → post r u → B u t → H.size ≤ H1.size → (∀ q : Nat, q < H.size → ¬ A1 q → H1[q]? = H[q]?) → va_S A0 H0 H1 locs1 → W p l e R s m args below meth c H1 locs1 (cells + mc) (slots + ms) Q (F0 m (pc + 3) ls (.double r :: rest))) : W p l e R s m args below meth c H locs cells slots Q (F0 m pc ls st0) := by
  intro T hT X
  rcases hr T hT X with ⟨v, st₀, t, T', L, h0, X', hL, e1, e2, ⟨⟨r, u, hv, hp, hb⟩, hF⟩, st⟩ | ⟨q, st₀, t, T', L, E, ce, h0, X', hL, e1, e2, ⟨u, hp, hb, hF⟩, hce, hcv, hcl, st⟩
  · cases hv
    obtain ⟨k1, k2, k3⟩ := vx_keep h0 e1 hS hA hf hL hF
    obtain ⟨t2, a1, b1⟩ := kk r u t T'.heap (locs ++ L) e1.symm (by rw [← e2]; exact X'.warmed.alike) hp hb k1 k2 k3 T' rfl X'
    exact ⟨t2, st t2 a1, b1⟩
  · obtain ⟨k1, k2, k3⟩ := vx_keep h0 e1 hS hAX hf hL hF
    obtain ⟨t2, a1, b1⟩ := kx E ce q u t T'.heap (locs ++ L) e1.symm (by rw [← e2]; exact X'.warmed.alike) hp hb k1 k2 k3 (by rw [e1]; exact hce) hcv hcl T' rfl X'
    exact ⟨t2, st.trans a1, b1⟩
theorem vx_callv {S SX : Type} {post : S → Prop} {px : SX → Prop} {B : S → State → Prop} {BX : String → SX → State → Prop} {AX : Nat → Prop} (hr : vx_Run p l e R s m args below meth c H locs cells slots mc ms (F0 m pc ls st0) rest (va_Qv post B A1 a) (vx_X px BX AX) free) (hS : va_S A0 H0 H locs) (hA : ∀ q, q < H.size → A1 q → A0 q) (hf : ∀ q, free q → A0 q) (hAX : ∀ q, q < H.size → AX q → A0 q)
    (kx : ∀ (E : String) (ce : Cell) (q9 : Addr) (u : SX) (t : State) (H1 : Heap) (locs1 : List Loc), t.heap = H1 → s.vm.Alike t.vm → px u → BX E u t → H.size ≤ H1.size → (∀ q : Nat, q < H.size → ¬ AX q → H1[q]? = H[q]?) → va_S A0 H0 H1 locs1 → H1[q9]? = some ce → ce.vm = .none → s.vm.findClass E = some ce.cls → vx_W p l e R s m args below meth c H1 locs1 (cells + mc) (slots + ms) Q (F0 m pc ls rest) q9)
    (kk : ∀ (u : S) (t : State) (H1 : Heap) (locs1 : List Loc), t.heap = H1 → s.vm.Alike t.vm → post u → B u t → H.size ≤ H1.size → (∀ q : Nat, q < H.size → ¬ A1 q → H1[q]? = H[q]?) → va_S A0 H0 H1 locs1 → W p l e R s m args below meth c H1 locs1 (cells + mc) (slots + ms) Q (F0 m (pc + 3) ls (rest))) : W p l e R s m args below meth c H locs cells slots Q (F0 m pc ls st0) := by
  intro T hT X
  rcases hr T hT X with ⟨v, st₀, t, T', L, h0, X', hL, e1, e2, ⟨⟨u, hv, hp, hb⟩, hF⟩, st⟩ | ⟨q, st₀, t, T', L, E, ce, h0, X', hL, e1, e2, ⟨u, hp, hb, hF⟩, hce, hcv, hcl, st⟩
  · cases hv
    obtain ⟨k1, k2, k3⟩ := vx_keep h0 e1 hS hA hf hL hF
    obtain ⟨t2, a1, b1⟩ := kk u t T'.heap (locs ++ L) e1.symm (by rw [← e2]; exact X'.warmed.alike) hp hb k1 k2 k3 T' rfl X'
    exact ⟨t2, st t2 a1, b1⟩
  · obtain ⟨k1, k2, k3⟩ := vx_keep h0 e1 hS hAX hf hL hF
    obtain ⟨t2, a1, b1⟩ := kx E ce q u t T'.heap (locs ++ L) e1.symm (by rw [← e2]; exact X'.warmed.alike) hp hb k1 k2 k3 (by rw [e1]; exact hce) hcv hcl T' rfl X'
    exact ⟨t2, st.trans a1, b1⟩
/-- caught by the row x of this method's table; the rows ahead don't take it -/
theorem vx_catch {own name : String} {E : String} {ce : Cell} {q : Addr} (hown : s.vm.findClass own = some m.cls) (pre : List ExceptionTableEntry) (x : ExceptionTableEntry) (suf : List ExceptionTableEntry) (hsplit : c.exceptionTable.toList = pre ++ x :: suf)
    (hpass : ∀ z ∈ pre, covers z pc = false ∨ (z.catchType ≠ 0 ∧ ∃ nm : String, (Cond.classLink own z.catchType nm).before args s = true ∧ va_Nc E nm s)) (hx : covers x pc = true) (h0 : x.catchType ≠ 0)
    (hlink : (Cond.classLink own x.catchType name).before args s = true) (hcast : (Cond.castable E name).before args s = true) (hcell : H[q]? = some ce) (hv : ce.vm = .none) (hcl : s.vm.findClass E = some ce.cls)
    (kk : W p l e R s m args below meth c H locs cells slots Q (F0 m x.handlerPc ls [.ref q])) : vx_W p l e R s m args below meth c H locs cells slots Q (F0 m pc ls rest) q := by
  intro T hT X
  have hpl : e.platform.magicAccessors = ({} : Platform).magicAccessors := by rw [X.admits.platform]
  obtain ⟨c3, c4, hc3, hc4, hasg⟩ := Cond.castable_spec hcast
  cases Option.some.inj (hc3.symm.trans hcl)
  obtain ⟨c5, hc5, hcl5⟩ := Cond.classLink_spec hown hlink e.platform hpl
  cases Option.some.inj (hc4.symm.trans hc5)
  obtain ⟨vm', X', st⟩ := X.thenCaughtThrough q (g := F0 m pc ls rest) rfl (Steps.refl _) (by rw [hT]; exact hcell) (by rw [hv]; rfl) (by obtain ⟨k9, h9, -⟩ := Vm.findClass_spec hcl; exact ⟨k9, h9⟩) pre x suf hsplit
    (fun z hz => by
      rcases hpass z hz with h | ⟨hz0, nm, hl1, hn1⟩
      · exact Or.inl h
      · obtain ⟨c6, hc6, hcl6⟩ := Cond.classLink_spec hown hl1 e.platform hpl
        obtain ⟨a8, b8, h1, h2, h3⟩ := hn1
        cases Option.some.inj (h1.symm.trans hcl)
        cases Option.some.inj (h2.symm.trans hc6)
        exact Or.inr ⟨hz0, _, hcl6, h3⟩) hx (Or.inr ⟨h0, c4, hcl5, hasg⟩)
  obtain ⟨t, a1, b1⟩ := kk (T.setVm vm') hT X'
  exact ⟨t, st.trans a1, b1⟩
end Rows
section Ends
variable {p : Program} {l : Launch} {e : Env} {R : Room} {s : State} {m : MethodId} {args : Array Value} {below : List Frame} {meth : Method} {c : Code} {H : Heap} {locs : List Loc} {cells slots : Nat} {Q : State → Prop}
variable {mc ms : Nat} {free : Addr → Prop} {A0 A1 : Nat → Prop} {H0 : Heap} {a : Array Value} {ls : Array Slot} {st0 rest : List Value}
variable {Qc : Array Value → State → Outcome → State → Prop} {XC : String → State → State → Prop}
/-- what a body that may throw owes at its end -/
def vx_MQ (below : List Frame) (Qc : Array Value → State → Outcome → State → Prop) (XC : String → State → State → Prop) (a : Array Value) (s : State) (mc ms : Nat) (free : Addr → Prop) : State → Prop := fun t =>
  ∃ o, t.status = .running ∧ Ended t below o ∧ vx_Q Qc XC mc ms free a s o t
theorem vx_ret {g : JFrame} {mc ms : Nat} (k : W p l e R s m args below meth c H locs cells slots (MQ below Qc args s mc ms free) g) : W p l e R s m args below meth c H locs cells slots (vx_MQ below Qc XC args s mc ms free) g := by
  intro T hT X
  obtain ⟨t, a1, o, b1, b2, b3, b4⟩ := k T hT X
  exact ⟨t, a1, o, b1, b2, Or.inl ⟨b3, b4⟩⟩
/-- not caught here: it goes on to the caller -/
theorem vx_widen {g : JFrame} {q : Addr} {k n : Nat} (h1 : cells ≤ k) (h2 : slots ≤ n) (kk : vx_W p l e R s m args below meth c H locs k n Q g q) : vx_W p l e R s m args below meth c H locs cells slots Q g q := fun T hT X => kk T hT (stand_widen X h1 h2)
theorem vx_out {pc : Nat} {E : String} {ce : Cell} {q : Addr} {mc ms : Nat} (hout : ∀ x ∈ c.exceptionTable.toList, covers x pc = false) (hlocks : meth.locks = false) (hcell : H[q]? = some ce) (hv : ce.vm = .none) (hcl : s.vm.findClass E = some ce.cls)
    (hx : ∀ t : State, t.heap = H → s.vm.Alike t.vm → XC E s t) (hf : ∀ z ∈ locs, free z.base) (hc : cells ≤ mc) (hs : slots ≤ ms) :
    vx_W p l e R s m args below meth c H locs cells slots (vx_MQ below Qc XC args s mc ms free) (F0 m pc ls rest) q := by
  intro T hT X
  obtain ⟨st1, hrun, hend, hW, hsm⟩ := X.leaveThrown q (g := F0 m pc ls rest) rfl rfl rfl hout hlocks
  have hcell9 : (T.setFrames (.throwing q :: below)).heap[q]? = some ce := by
    show T.heap[q]? = some ce
    rw [hT]; exact hcell
  exact ⟨_, st1, .threw q, hrun, hend, Or.inr ⟨q, rfl, E, ce, locs, hx _ hT hW.alike, hcell9, hv, hcl, hW, hsm.mono hc hs, hf⟩⟩
theorem vx_frame {U : State} {k n : Nat} (h : s.sameButNew ({ U with vm := s.vm } : State) locs k n) : s.heap.size ≤ U.heap.size ∧ ∀ q : Nat, q < s.heap.size → (∀ z ∈ locs, z.base ≠ q) → U.heap[q]? = s.heap[q]? := by
  obtain ⟨-, h2, -, -, -, h6⟩ := h
  refine ⟨h2, fun q hq hz => ?_⟩
  obtain ⟨c9, e1, e2, e3, e4⟩ := h6 q _ (Array.getElem?_eq_getElem hq)
  have hs : c9.slots = (s.heap[q]).slots := Array.ext_getElem? fun i => e4 i fun hm => hz _ hm rfl
  have h9 : c9 = s.heap[q] := by
    rw [hs] at e2
    exact e2
  have e5 : U.heap[q]? = some c9 := e1
  rw [e5, h9, Array.getElem?_eq_getElem hq]
/-- the words of a throw but the four that speak of the heap -/
def vx_no (w : Cond) : Bool := decide (w ≠ .isRef (.static Bundle.tN "UNASSIGNED_STACK" Bundle.steD)) && decide (w ≠ .isRef (.static Bundle.tN "SUPPRESSED_SENTINEL" Bundle.listD)) && decide (w ≠ .laysStatic Bundle.tN "UNASSIGNED_STACK" Bundle.steD) && decide (w ≠ .laysStatic Bundle.tN "SUPPRESSED_SENTINEL" Bundle.listD)
def vx_at0 (own : String) (ic : Nat) (X : String) (names : List String) : List Cond := (Bundle.ownAtoms0 own ic X names).filter vx_no
def vx_atS (own : String) (ic : Nat) (X : String) (names : List String) : List Cond := (Bundle.ownAtoms own ic X names).filter vx_no
/-- a word that the tables alone decide, or a good one -/
def vx_ot (w : Cond) : Bool := w.onTables || goodWord w
theorem vx_ot_at {args a' : Array Value} {s U : State} {w : Cond} (hW : s.WarmedH U.vm) (hvm : s.vm = U.vm) (hg : vx_ot w = true) (h : w.before args s = true) : w.before a' U = true := by
  simp only [vx_ot, Bool.or_eq_true] at hg
  rcases hg with hg | hg
  · exact va_tabs hg hvm h
  · exact word_at hW (good_of_word hg) h
/-- a list's words: the good ones out of the method's own list, the others by premises of their own -/
theorem vx_hat {args : Array Value} {s : State} {L B : List Cond} (h1 : ∀ w ∈ L.filter goodWord, w.before args s = true) (h2 : ∀ w ∈ L.filter (fun w => !goodWord w), w ∈ B) (h3 : ∀ w ∈ B, w.before args s = true) : ∀ w ∈ L, w.before args s = true := by
  intro w hw
  by_cases g : goodWord w = true
  · exact h1 w (List.mem_filter.mpr ⟨hw, g⟩)
  · refine h3 w (h2 w (List.mem_filter.mpr ⟨hw, ?_⟩))
    show (!goodWord w) = true
    cases hgw : goodWord w
    · rfl
    · exact absurd hgw g
theorem vx_c {args : Array Value} {s : State} {w : Cond} {B : List Cond} (h : w.before args s = true) (t : ∀ w ∈ B, w.before args s = true) : ∀ w' ∈ w :: B, w'.before args s = true := fun w' h' => (List.mem_cons.mp h').elim (fun e => by rw [e]; exact h) (t w')
theorem vx_n {args : Array Value} {s : State} : ∀ w ∈ ([] : List Cond), w.before args s = true := fun _ h => nomatch h
theorem vx_own {args : Array Value} {s : State} {L : List Cond} (h1 : ∀ w ∈ L.filter vx_no, w.before args s = true)
    (hU : (Cond.isRef (.static Bundle.tN "UNASSIGNED_STACK" Bundle.steD)).before args s = true) (hN : (Cond.isRef (.static Bundle.tN "SUPPRESSED_SENTINEL" Bundle.listD)).before args s = true)
    (lU : (Cond.laysStatic Bundle.tN "UNASSIGNED_STACK" Bundle.steD).before args s = true) (lN : (Cond.laysStatic Bundle.tN "SUPPRESSED_SENTINEL" Bundle.listD).before args s = true) : ∀ w ∈ L, w.before args s = true := by
  intro w hw
  by_cases e1 : w = .isRef (.static Bundle.tN "UNASSIGNED_STACK" Bundle.steD)
  · rw [e1]; exact hU
  · by_cases e2 : w = .isRef (.static Bundle.tN "SUPPRESSED_SENTINEL" Bundle.listD)
    · rw [e2]; exact hN
    · by_cases e3 : w = .laysStatic Bundle.tN "UNASSIGNED_STACK" Bundle.steD
      · rw [e3]; exact lU
      · by_cases e4 : w = .laysStatic Bundle.tN "SUPPRESSED_SENTINEL" Bundle.listD
        · rw [e4]; exact lN
        · exact h1 w (List.mem_filter.mpr ⟨hw, by unfold vx_no; rw [decide_eq_true e1, decide_eq_true e2, decide_eq_true e3, decide_eq_true e4]; rfl⟩)
/-- where a static field lies, its class's statics cell in H -/
def vx_L (C n d : String) (A : Nat → Prop) (U : State) (H : Heap) : Prop := ∃ (c : ClassId) (k : Class) (i : Nat) (f : Field) (a : Nat) (cell : Cell), U.vm.findClass C = some c ∧ U.fieldFound? C n d = some (c, k, i, f) ∧ f.isStatic = true ∧ k.statics = some a ∧ H[a]? = some cell ∧ cell.vm.isStatics = true ∧ cell.cls = c ∧ f.slot < cell.slots.size ∧ k.staticTypes[f.slot]? = some f.type ∧ ¬ A a
theorem vx_L.moved {C n d : String} {A : Nat → Prop} {u U : State} {H : Heap} (hvm : u.vm.Alike U.vm) (h : vx_L C n d A u H) : vx_L C n d A U H := by
  obtain ⟨c, k, i, f, a, cell, h1, h2, h3, h4, h5, h6, h7, h8, h9, h10⟩ := h
  obtain ⟨k', hi', he⟩ := State.fieldFound?_setVm hvm h2
  exact ⟨c, k', i, f, a, cell, by rw [hvm.findClass]; exact h1, hi', h3, by rw [he]; exact h4, h5, h6, h7, h8, by rw [he]; exact h9, h10⟩
theorem vx_L.kept {C n d : String} {A : Nat → Prop} {U : State} {H H1 : Heap} (h : vx_L C n d A U H) (hq : ∀ a : Nat, a < H.size → ¬ A a → H1[a]? = H[a]?) : vx_L C n d A U H1 := by
  obtain ⟨c, k, i, f, a, cell, h1, h2, h3, h4, h5, h6, h7, h8, h9, h10⟩ := h
  exact ⟨c, k, i, f, a, cell, h1, h2, h3, h4, by rw [hq a (Array.getElem?_eq_some_iff.mp h5).1 h10]; exact h5, h6, h7, h8, h9, h10⟩
theorem vx_L.narrow {C n d : String} {A B : Nat → Prop} {U : State} {H : Heap} (h : vx_L C n d A U H) (hAB : ∀ q, B q → A q) : vx_L C n d B U H := by
  obtain ⟨c, k, i, f, a, cell, h1, h2, h3, h4, h5, h6, h7, h8, h9, h10⟩ := h
  exact ⟨c, k, i, f, a, cell, h1, h2, h3, h4, h5, h6, h7, h8, h9, fun z => h10 (hAB _ z)⟩
theorem vx_L.word {C n d : String} {A : Nat → Prop} {s : State} {args : Array Value} (h : vx_L C n d A s s.heap) : (Cond.laysStatic C n d).before args s = true := by
  obtain ⟨c, k, i, f, a, cell, h1, h2, h3, h4, h5, h6, h7, h8, h9, -⟩ := h
  show (Cond.laysStatic C n d).holds args s none s [] = true
  exact Cond.laysStatic_of h1 h2 h3 h4 h5 h6 h7 h8 h9
/-- .. and what it holds: null or some reference -/
def vx_Zq (C n d : String) (A : Nat → Prop) (U : State) (H : Heap) : Prop := va_Zq C n d A U H ∧ vx_L C n d A U H
theorem vx_Zq.moved {C n d : String} {A : Nat → Prop} {u U : State} {H : Heap} (hvm : u.vm.Alike U.vm) (h : vx_Zq C n d A u H) : vx_Zq C n d A U H := ⟨va_Zq.moved hvm h.1, vx_L.moved hvm h.2⟩
theorem vx_Zq.kept {C n d : String} {A : Nat → Prop} {U : State} {H H1 : Heap} (h : vx_Zq C n d A U H) (hq : ∀ a : Nat, a < H.size → ¬ A a → H1[a]? = H[a]?) : vx_Zq C n d A U H1 := ⟨va_Zq.kept h.1 hq, vx_L.kept h.2 hq⟩
theorem vx_Zq.narrow {C n d : String} {A B : Nat → Prop} {U : State} {H : Heap} (h : vx_Zq C n d A U H) (hAB : ∀ q, B q → A q) : vx_Zq C n d B U H := ⟨va_Zq.narrow h.1 hAB, vx_L.narrow h.2 hAB⟩
theorem vx_Zqof {args : Array Value} {s : State} {C n d : String} {A : Nat → Prop} (hl : (Cond.laysStatic C n d).before args s = true) (hini : (Cond.initialized C).before args s = true) (h : (Cond.isRef (.static C n d)).before args s = true) (hA : ∀ a : Nat, a < s.heap.size → ¬ A a) : vx_Zq C n d A s s.heap := by
  refine ⟨va_Zqof hl hini h hA, ?_⟩
  obtain ⟨c, k, i, f, a, cell, h1, h2, h3, h4, h5, h6, h7, h8, h9⟩ := Cond.laysStatic_spec hl
  exact ⟨c, k, i, f, a, cell, h1, h2, h3, h4, h5, h6, h7, h8, h9, hA a (Array.getElem?_eq_some_iff.mp h5).1⟩
theorem vx_isRef {C n d : String} {v : Value} {A : Nat → Prop} {s : State} {args : Array Value} (h : va_Z C n d v A s s.heap) (hv : v.isRef = true) : (Cond.isRef (.static C n d)).before args s = true := by
  obtain ⟨cf, kf, fi, f, a, cell, h1, h2, h3, h4, h5, h6, h7, -⟩ := h
  have he : (Term.static C n d).eval args s none [] s = some v := by
    simp [Term.eval, State.fieldNamed?, h1, h2, h4, h5, h6, h7]
  simp only [Cond.before, Cond.holds, Cond.value, he]
  cases v <;> simp_all [Value.isRef]
theorem vx_isRefq {C n d : String} {A : Nat → Prop} {s : State} {args : Array Value} (h : va_Zq C n d A s s.heap) : (Cond.isRef (.static C n d)).before args s = true := by
  rcases h with h | ⟨t, h⟩
  · exact vx_isRef h rfl
  · exact vx_isRef h rfl
/-- the same frame, seen from here: as if the method were called anew in this heap -/
theorem vx_rebase {T : State} (X : Stand p l e R s m args below meth c T locs cells slots) {R' : Room} (hf : R'.frames ≤ R.frames) (hl : R'.locals ≤ R.locals) (hc : cells + R'.cells ≤ R.cells) (hs : slots + R'.slots ≤ R.slots) :
    Stand p l e R' ((T.setVm s.vm).setFrames (.invoking m args :: below)) m args below meth c T [] 0 0 := by
  have htop : (T.setVm s.vm).topJava?.isSome := X.here.top
  have hF : ((T.setVm s.vm).setFrames (.invoking m args :: below)).frames = .invoking m args :: below := State.frames_setFrames _ (State.cur_lt_of_top htop)
  obtain ⟨g₀, hg0⟩ := Option.isSome_iff_exists.mp htop
  obtain ⟨r, hr⟩ := State.topJava?_eq_some.mp hg0
  have hl9 : e.platform.stackLimits (T.setVm s.vm).me = e.platform.stackLimits s.me := X.limits
  have hb9 : (T.setVm s.vm).me.stackBytes = s.me.stackBytes := X.bytes
  refine ⟨X.admits, X.cas, X.clock, hF, ?_, X.hears, X.method, X.code, X.here, X.tail, X.warmed, ?_, ?_, ?_⟩
  · have h := X.room
    have hU : ((T.setVm s.vm).setFrames (.invoking m args :: below)).localsInUse = s.localsInUse := by
      rw [State.localsInUse_invoking hF (meth := meth) (c := c) X.method X.code, State.localsInUse_invoking X.frames X.method X.code]
    simp only [State.hasRoom, Bool.and_eq_true, decide_eq_true_eq] at h ⊢
    obtain ⟨⟨⟨⟨h1, h2, h3, h4, h5, h6⟩, h7⟩, h8⟩, h9⟩ := h
    rw [X.frames, List.length_cons] at h2 h3
    have q1 := X.heapSize
    have q2 := X.used
    simp only [hF, hU, List.length_cons, State.stackLimits_setFrames, State.stackBytes_setFrames, hl9, hb9]
    refine ⟨⟨⟨⟨by omega, by omega, by omega, by omega, by omega, h6⟩, ?_⟩, ?_⟩, X.book⟩
    · show T.heap.size + R'.cells ≤ e.platform.maxCells
      omega
    · show T.slotsUsed + R'.slots ≤ e.platform.maxSlots
      omega
  · rw [State.stackLimits_setFrames]; rfl
  · rw [State.stackBytes_setFrames]; rfl
  · refine ⟨?_, Nat.le_refl _, Nat.le_refl _, ?_, ?_, fun a c9 h9 => ⟨c9, h9, rfl, rfl, fun _ _ => rfl⟩⟩
    · obtain ⟨t, ht, -⟩ := State.frames_cons hr
      show T.setVm s.vm = { ((T.setVm s.vm).setFrames (.invoking m args :: below)).setFrames (T.setVm s.vm).frames with heap := T.heap, slotsUsed := T.slotsUsed }
      rw [State.setFrames_setFrames, State.setFrames_self ht]
      rfl
    · show T.slotsUsed = T.slotsUsed + ((T.heap.toList.drop T.heap.size).map (·.slots.size)).sum
      rw [List.drop_eq_nil_of_le (Nat.le_of_eq Array.length_toList)]
      rfl
    · show ((T.heap.toList.drop T.heap.size).map (·.slots.size)).sum ≤ 0
      rw [List.drop_eq_nil_of_le (Nat.le_of_eq Array.length_toList)]
      exact Nat.le_refl _
/-- 'throw new E()': new; dup; invokespecial; athrow -/
theorem vx_throw0 {cc : ByteArray} {pc : Nat} (hexec : p.tables.exec = Jvm.exec) (hb : c.code = cc) (hl : l.stackTraces = false) {own cls : String} {names : List String} {ik ic mc ms : Nat} {A : Nat → Prop}
    (hown : s.vm.findClass own = some m.cls) (hcls : Bundle.fit cls = true) (hnames : ∀ n ∈ names, Bundle.fit n = true)
    (hk : (Cond.classLink own ik cls).before args s = true) (hini : (Cond.initialized cls).before args s = true) (hat : ∀ w ∈ vx_at0 own ic cls names, w.before args s = true)
    (hgood : ∀ w ∈ Cond.classLink own ik cls :: Cond.initialized cls :: vx_at0 own ic cls names, vx_ot w = true)
    (hU : vx_Zq Bundle.tN "UNASSIGNED_STACK" Bundle.steD A s s.heap) (hN : vx_Zq Bundle.tN "SUPPRESSED_SENTINEL" Bundle.listD A s s.heap) (hS : va_S A s.heap H locs) (hsize : ls.size = c.maxLocals)
    (d0 : decode cc pc = .ok (.new ik, 3)) (d3 : decode cc (pc + 3) = .ok (.dup, 1)) (d4 : decode cc (pc + 4) = .ok (.invokespecial ic, 3)) (d7 : decode cc (pc + 7) = .ok (.athrow, 1))
    (hout : ∀ x ∈ c.exceptionTable.toList, covers x (pc + 7) = false)
    (hRframes : names.length + 3 < R.frames) (hRlocals : (rest.map fun v => v.category).sum + (13 * (names.length + 1) + 42) ≤ R.locals) (hRcells : cells + 1 ≤ R.cells) (hRslots : slots + 6 ≤ R.slots) (hlocks : meth.locks = false)
    (hx : ∀ t : State, s.vm.Alike t.vm → H.size ≤ t.heap.size → (∀ q : Nat, q < H.size → t.heap[q]? = H[q]?) → XC cls s t)
    (hf : ∀ z ∈ locs, free z.base) (hc : cells + 1 ≤ mc) (hs : slots + 6 ≤ ms) :
    W p l e R s m args below meth c H locs cells slots (vx_MQ below Qc XC args s mc ms free) (F0 m pc ls rest) := by
  intro T hT X
  have htr : e.platform.stackTraces = false := (show e.platform.stackTraces = l.stackTraces by rw [X.admits.platform]).trans hl
  have Y := vx_rebase X (R' := { frames := R.frames, locals := R.locals, cells := 1, slots := 6 }) (Nat.le_refl _) (Nat.le_refl _) hRcells hRslots
  obtain ⟨s', hA⟩ : ∃ z, z = (T.setVm s.vm).setFrames (.invoking m args :: below) := ⟨_, rfl⟩
  rw [← hA] at Y
  have hvm : s'.vm = s.vm := by rw [hA]; rfl
  have hhp : s'.heap = H := by rw [hA]; exact hT
  have hW0 : s.WarmedH s'.vm := by rw [hvm]; exact State.WarmedH.refl s
  have hat' : ∀ w ∈ vx_at0 own ic cls names, w.before args s' = true := fun w hw => vx_ot_at hW0 hvm.symm (hgood w (List.mem_cons_of_mem _ (List.mem_cons_of_mem _ hw))) (hat w hw)
  have hk' : (Cond.classLink own ik cls).before args s' = true := vx_ot_at hW0 hvm.symm (hgood _ List.mem_cons_self) hk
  have hini' : (Cond.initialized cls).before args s' = true := vx_ot_at hW0 hvm.symm (hgood _ (List.mem_cons_of_mem _ List.mem_cons_self)) hini
  have hU' : vx_Zq Bundle.tN "UNASSIGNED_STACK" Bundle.steD A s' s'.heap := by rw [hhp]; exact vx_Zq.moved hW0.alike (hU.kept hS.2.1)
  have hN' : vx_Zq Bundle.tN "SUPPRESSED_SENTINEL" Bundle.listD A s' s'.heap := by rw [hhp]; exact vx_Zq.moved hW0.alike (hN.kept hS.2.1)
  have h : ∀ w ∈ Bundle.ownAtoms0 own ic cls names, w.before args s' = true := vx_own hat' (vx_isRefq hU'.1) (vx_isRefq hN'.1) hU'.2.word hN'.2.word
  have hown' : s'.vm.findClass own = some m.cls := by rw [hvm]; exact hown
  have hins : (Cond.instantiable cls 6).before args s' = true := h _ (by simp [Bundle.ownAtoms0])
  obtain ⟨vm₁, cX, kX, hfX, hkX, -, -, X₁, st1⟩ := Y.newCold hexec (own := own) (C := cls) (index := ik) (n := 6) hown' hk' hins hini'
    (g := F0 m pc ls rest) rfl (by rw [hb]; exact d0) (Nat.le_refl _) (Nat.le_refl _)
  generalize hT1 : (T.setVm vm₁).pushCell { cls := cX, slots := kX.instanceTypes.map defaultValue, vm := .none } = T1 at X₁ st1
  have hcat : (Value.ref T.heap.size).category = 1 := rfl
  have hcellA : T1.heap[T.heap.size]? = some (freshCell cX kX) := by rw [← hT1]; exact State.heap_pushCell_size _ _
  have d3' : decode c.code (pc + 3) = .ok (.dup, 1) := by rw [hb]; exact d3
  obtain ⟨U, hsteps, hrun, hend, hW, hsame, ce, hce, hO⟩ := X₁.ctorThrow0 hexec htr (own := own) (cls := cls) (names := names) (ic := ic) hown' hcls hnames h (fun x hx => nomatch hx) hfX hkX hcellA (by rw [hhp, hT]; exact Nat.le_refl _)
    (g := { method := m, pc := pc + 4, locals := ls, stack := .ref T.heap.size :: .ref T.heap.size :: rest, locked := none }) rfl hsize rfl rfl (rest := rest) rfl
    (by rw [hb]; exact d4) (by rw [hb]; exact d7) hout hRframes (by simp only [List.map_cons, List.sum_cons, hcat]; omega) hlocks
  obtain ⟨f1, f2⟩ := vx_frame hsame
  rw [hhp] at f1 f2
  have hWs : s.WarmedH U.vm := State.WarmedH.trans hW0 hW
  have hcl : s.vm.findClass cls = some ce.cls := by
    have h9 := hO.cls
    rw [hvm] at h9
    exact h9
  have hall : s.sameButNew ({ U with vm := s.vm } : State) locs mc ms := by
    subst hA
    obtain ⟨e1, e2⟩ := hsame
    rw [State.setFrames_setFrames] at e1
    have h2 : (T.setVm s.vm).sameButNew ({ U with vm := s.vm } : State) [] (0 + 1) (0 + 6) := ⟨e1, e2⟩
    have h3 := X.same.trans h2
    rw [List.append_nil] at h3
    exact h3.mono hc hs
  refine ⟨U, ?_, .threw T.heap.size, hrun, hend, Or.inr ⟨T.heap.size, rfl, cls, ce, locs, hx U hWs.alike f1 (fun q hq => f2 q hq (fun z hz => nomatch hz)), hce, hO.vm, hcl, hWs, hall, hf⟩⟩
  refine st1 _ ?_
  show Steps p.tables e below (T1.setTop { method := m, pc := pc + 3, locals := ls, stack := .ref T.heap.size :: rest, locked := none }) _
  jvm_step X₁.here [X₁.here.top, hexec, d3', Value.category]
  exact hsteps
/-- 'throw new E("text")': new; dup; ldc; invokespecial; athrow -/
theorem vx_throwS {cc : ByteArray} {pc : Nat} (hexec : p.tables.exec = Jvm.exec) (hb : c.code = cc) (hl : l.stackTraces = false) {own cls text : String} {names : List String} {ik is ic mc ms sa : Nat} {A : Nat → Prop}
    (hown : s.vm.findClass own = some m.cls) (hcls : Bundle.fit cls = true) (hnames : ∀ n ∈ names, Bundle.fit n = true)
    (hk : (Cond.classLink own ik cls).before args s = true) (hini : (Cond.initialized cls).before args s = true) (hstr : vk_R own is text sa s) (hat : ∀ w ∈ vx_atS own ic cls names, w.before args s = true)
    (hgood : ∀ w ∈ Cond.classLink own ik cls :: Cond.initialized cls :: vx_atS own ic cls names, vx_ot w = true)
    (hU : vx_Zq Bundle.tN "UNASSIGNED_STACK" Bundle.steD A s s.heap) (hN : vx_Zq Bundle.tN "SUPPRESSED_SENTINEL" Bundle.listD A s s.heap) (hS : va_S A s.heap H locs) (hsize : ls.size = c.maxLocals)
    (d0 : decode cc pc = .ok (.new ik, 3)) (d3 : decode cc (pc + 3) = .ok (.dup, 1)) (d4 : decode cc (pc + 4) = .ok (.ldc is, 2)) (d6 : decode cc (pc + 6) = .ok (.invokespecial ic, 3)) (d9 : decode cc (pc + 9) = .ok (.athrow, 1))
    (hout : ∀ x ∈ c.exceptionTable.toList, covers x (pc + 9) = false)
    (hRframes : names.length + 3 < R.frames) (hRlocals : (rest.map fun v => v.category).sum + (13 * (names.length + 1) + 43) ≤ R.locals) (hRcells : cells + 1 ≤ R.cells) (hRslots : slots + 6 ≤ R.slots) (hlocks : meth.locks = false)
    (hx : ∀ t : State, s.vm.Alike t.vm → H.size ≤ t.heap.size → (∀ q : Nat, q < H.size → t.heap[q]? = H[q]?) → XC cls s t)
    (hf : ∀ z ∈ locs, free z.base) (hc : cells + 1 ≤ mc) (hs : slots + 6 ≤ ms) :
    W p l e R s m args below meth c H locs cells slots (vx_MQ below Qc XC args s mc ms free) (F0 m pc ls rest) := by
  intro T hT X
  have htr : e.platform.stackTraces = false := (show e.platform.stackTraces = l.stackTraces by rw [X.admits.platform]).trans hl
  have Y := vx_rebase X (R' := { frames := R.frames, locals := R.locals, cells := 1, slots := 6 }) (Nat.le_refl _) (Nat.le_refl _) hRcells hRslots
  obtain ⟨s', hA⟩ : ∃ z, z = (T.setVm s.vm).setFrames (.invoking m args :: below) := ⟨_, rfl⟩
  rw [← hA] at Y
  have hvm : s'.vm = s.vm := by rw [hA]; rfl
  have hhp : s'.heap = H := by rw [hA]; exact hT
  have hW0 : s.WarmedH s'.vm := by rw [hvm]; exact State.WarmedH.refl s
  have hat' : ∀ w ∈ vx_atS own ic cls names, w.before args s' = true := fun w hw => vx_ot_at hW0 hvm.symm (hgood w (List.mem_cons_of_mem _ (List.mem_cons_of_mem _ hw))) (hat w hw)
  have hk' : (Cond.classLink own ik cls).before args s' = true := vx_ot_at hW0 hvm.symm (hgood _ List.mem_cons_self) hk
  have hini' : (Cond.initialized cls).before args s' = true := vx_ot_at hW0 hvm.symm (hgood _ (List.mem_cons_of_mem _ List.mem_cons_self)) hini
  have hU' : vx_Zq Bundle.tN "UNASSIGNED_STACK" Bundle.steD A s' s'.heap := by rw [hhp]; exact vx_Zq.moved hW0.alike (hU.kept hS.2.1)
  have hN' : vx_Zq Bundle.tN "SUPPRESSED_SENTINEL" Bundle.listD A s' s'.heap := by rw [hhp]; exact vx_Zq.moved hW0.alike (hN.kept hS.2.1)
  have h : ∀ w ∈ Bundle.ownAtoms own ic cls names, w.before args s' = true := vx_own hat' (vx_isRefq hU'.1) (vx_isRefq hN'.1) hU'.2.word hN'.2.word
  have hown' : s'.vm.findClass own = some m.cls := by rw [hvm]; exact hown
  have hins : (Cond.instantiable cls 6).before args s' = true := h _ (by simp [Bundle.ownAtoms])
  obtain ⟨vm₁, cX, kX, hfX, hkX, -, -, X₁, st1⟩ := Y.newCold hexec (own := own) (C := cls) (index := ik) (n := 6) hown' hk' hins hini'
    (g := F0 m pc ls rest) rfl (by rw [hb]; exact d0) (Nat.le_refl _) (Nat.le_refl _)
  generalize hT1 : (T.setVm vm₁).pushCell { cls := cX, slots := kX.instanceTypes.map defaultValue, vm := .none } = T1 at X₁ st1
  have hcat : (Value.ref T.heap.size).category = 1 := rfl
  have hcellA : T1.heap[T.heap.size]? = some (freshCell cX kX) := by rw [← hT1]; exact State.heap_pushCell_size _ _
  have d3' : decode c.code (pc + 3) = .ok (.dup, 1) := by rw [hb]; exact d3
  have d4' : decode c.code (pc + 4) = .ok (.ldc is, 2) := by rw [hb]; exact d4
  have hstr' : vk_R own is text sa s' := vk_R.warm hW0 hstr
  obtain ⟨U, hsteps, hrun, hend, hW, hsame, ce, hce, hO⟩ := X₁.ctorThrowS hexec htr (own := own) (cls := cls) (names := names) (ic := ic) hown' hcls hnames h (fun x hx => nomatch hx) hfX hkX hcellA (by rw [hhp, hT]; exact Nat.le_refl _) (msg := .ref sa) rfl
    (g := { method := m, pc := pc + 6, locals := ls, stack := .ref sa :: .ref T.heap.size :: .ref T.heap.size :: rest, locked := none }) rfl hsize rfl rfl (rest := rest) rfl
    (by rw [hb]; exact d6) (by rw [hb]; exact d9) hout hRframes (by simp only [List.map_cons, List.sum_cons, hcat]; omega) hlocks
  obtain ⟨f1, f2⟩ := vx_frame hsame
  rw [hhp] at f1 f2
  have hWs : s.WarmedH U.vm := State.WarmedH.trans hW0 hW
  have hcl : s.vm.findClass cls = some ce.cls := by
    have h9 := hO.cls
    rw [hvm] at h9
    exact h9
  have hall : s.sameButNew ({ U with vm := s.vm } : State) locs mc ms := by
    subst hA
    obtain ⟨e1, e2⟩ := hsame
    rw [State.setFrames_setFrames] at e1
    have h2 : (T.setVm s.vm).sameButNew ({ U with vm := s.vm } : State) [] (0 + 1) (0 + 6) := ⟨e1, e2⟩
    have h3 := X.same.trans h2
    rw [List.append_nil] at h3
    exact h3.mono hc hs
  refine ⟨U, ?_, .threw T.heap.size, hrun, hend, Or.inr ⟨T.heap.size, rfl, cls, ce, locs, hx U hWs.alike f1 (fun q hq => f2 q hq (fun z hz => nomatch hz)), hce, hO.vm, hcl, hWs, hall, hf⟩⟩
  refine st1 _ ?_
  show Steps p.tables e below (T1.setTop { method := m, pc := pc + 3, locals := ls, stack := .ref T.heap.size :: rest, locked := none }) _
  jvm_step X₁.here [X₁.here.top, hexec, d3', Value.category]
  exact X₁.ldcString hexec (own := own) (text := text) (index := is) (a := sa) hown' hstr'.1 hstr'.2
    (g := { method := m, pc := pc + 4, locals := ls, stack := .ref T.heap.size :: .ref T.heap.size :: rest, locked := none }) rfl d4' _ hsteps
/-- 'throw new E("text")', the text by a wide index -/
theorem vx_throwSW {cc : ByteArray} {pc : Nat} (hexec : p.tables.exec = Jvm.exec) (hb : c.code = cc) (hl : l.stackTraces = false) {own cls text : String} {names : List String} {ik is ic mc ms sa : Nat} {A : Nat → Prop}
    (hown : s.vm.findClass own = some m.cls) (hcls : Bundle.fit cls = true) (hnames : ∀ n ∈ names, Bundle.fit n = true)
    (hk : (Cond.classLink own ik cls).before args s = true) (hini : (Cond.initialized cls).before args s = true) (hstr : vk_R own is text sa s) (hat : ∀ w ∈ vx_atS own ic cls names, w.before args s = true)
    (hgood : ∀ w ∈ Cond.classLink own ik cls :: Cond.initialized cls :: vx_atS own ic cls names, vx_ot w = true)
    (hU : vx_Zq Bundle.tN "UNASSIGNED_STACK" Bundle.steD A s s.heap) (hN : vx_Zq Bundle.tN "SUPPRESSED_SENTINEL" Bundle.listD A s s.heap) (hS : va_S A s.heap H locs) (hsize : ls.size = c.maxLocals)
    (d0 : decode cc pc = .ok (.new ik, 3)) (d3 : decode cc (pc + 3) = .ok (.dup, 1)) (d4 : decode cc (pc + 4) = .ok (.ldc_w is, 3)) (d7 : decode cc (pc + 7) = .ok (.invokespecial ic, 3)) (d10 : decode cc (pc + 10) = .ok (.athrow, 1))
    (hout : ∀ x ∈ c.exceptionTable.toList, covers x (pc + 10) = false)
    (hRframes : names.length + 3 < R.frames) (hRlocals : (rest.map fun v => v.category).sum + (13 * (names.length + 1) + 43) ≤ R.locals) (hRcells : cells + 1 ≤ R.cells) (hRslots : slots + 6 ≤ R.slots) (hlocks : meth.locks = false)
    (hx : ∀ t : State, s.vm.Alike t.vm → H.size ≤ t.heap.size → (∀ q : Nat, q < H.size → t.heap[q]? = H[q]?) → XC cls s t)
    (hf : ∀ z ∈ locs, free z.base) (hc : cells + 1 ≤ mc) (hs : slots + 6 ≤ ms) :
    W p l e R s m args below meth c H locs cells slots (vx_MQ below Qc XC args s mc ms free) (F0 m pc ls rest) := by
  intro T hT X
  have htr : e.platform.stackTraces = false := (show e.platform.stackTraces = l.stackTraces by rw [X.admits.platform]).trans hl
  have Y := vx_rebase X (R' := { frames := R.frames, locals := R.locals, cells := 1, slots := 6 }) (Nat.le_refl _) (Nat.le_refl _) hRcells hRslots
  obtain ⟨s', hA⟩ : ∃ z, z = (T.setVm s.vm).setFrames (.invoking m args :: below) := ⟨_, rfl⟩
  rw [← hA] at Y
  have hvm : s'.vm = s.vm := by rw [hA]; rfl
  have hhp : s'.heap = H := by rw [hA]; exact hT
  have hW0 : s.WarmedH s'.vm := by rw [hvm]; exact State.WarmedH.refl s
  have hat' : ∀ w ∈ vx_atS own ic cls names, w.before args s' = true := fun w hw => vx_ot_at hW0 hvm.symm (hgood w (List.mem_cons_of_mem _ (List.mem_cons_of_mem _ hw))) (hat w hw)
  have hk' : (Cond.classLink own ik cls).before args s' = true := vx_ot_at hW0 hvm.symm (hgood _ List.mem_cons_self) hk
  have hini' : (Cond.initialized cls).before args s' = true := vx_ot_at hW0 hvm.symm (hgood _ (List.mem_cons_of_mem _ List.mem_cons_self)) hini
  have hU' : vx_Zq Bundle.tN "UNASSIGNED_STACK" Bundle.steD A s' s'.heap := by rw [hhp]; exact vx_Zq.moved hW0.alike (hU.kept hS.2.1)
  have hN' : vx_Zq Bundle.tN "SUPPRESSED_SENTINEL" Bundle.listD A s' s'.heap := by rw [hhp]; exact vx_Zq.moved hW0.alike (hN.kept hS.2.1)
  have h : ∀ w ∈ Bundle.ownAtoms own ic cls names, w.before args s' = true := vx_own hat' (vx_isRefq hU'.1) (vx_isRefq hN'.1) hU'.2.word hN'.2.word
  have hown' : s'.vm.findClass own = some m.cls := by rw [hvm]; exact hown
  have hins : (Cond.instantiable cls 6).before args s' = true := h _ (by simp [Bundle.ownAtoms])
  obtain ⟨vm₁, cX, kX, hfX, hkX, -, -, X₁, st1⟩ := Y.newCold hexec (own := own) (C := cls) (index := ik) (n := 6) hown' hk' hins hini'
    (g := F0 m pc ls rest) rfl (by rw [hb]; exact d0) (Nat.le_refl _) (Nat.le_refl _)
  generalize hT1 : (T.setVm vm₁).pushCell { cls := cX, slots := kX.instanceTypes.map defaultValue, vm := .none } = T1 at X₁ st1
  have hcat : (Value.ref T.heap.size).category = 1 := rfl
  have hcellA : T1.heap[T.heap.size]? = some (freshCell cX kX) := by rw [← hT1]; exact State.heap_pushCell_size _ _
  have d3' : decode c.code (pc + 3) = .ok (.dup, 1) := by rw [hb]; exact d3
  have d4' : decode c.code (pc + 4) = .ok (.ldc_w is, 3) := by rw [hb]; exact d4
  have hstr' : vk_R own is text sa s' := vk_R.warm hW0 hstr
  obtain ⟨U, hsteps, hrun, hend, hW, hsame, ce, hce, hO⟩ := X₁.ctorThrowS hexec htr (own := own) (cls := cls) (names := names) (ic := ic) hown' hcls hnames h (fun x hx => nomatch hx) hfX hkX hcellA (by rw [hhp, hT]; exact Nat.le_refl _) (msg := .ref sa) rfl
    (g := { method := m, pc := pc + 7, locals := ls, stack := .ref sa :: .ref T.heap.size :: .ref T.heap.size :: rest, locked := none }) rfl hsize rfl rfl (rest := rest) rfl
    (by rw [hb]; exact d7) (by rw [hb]; exact d10) hout hRframes (by simp only [List.map_cons, List.sum_cons, hcat]; omega) hlocks
  obtain ⟨f1, f2⟩ := vx_frame hsame
  rw [hhp] at f1 f2
  have hWs : s.WarmedH U.vm := State.WarmedH.trans hW0 hW
  have hcl : s.vm.findClass cls = some ce.cls := by
    have h9 := hO.cls
    rw [hvm] at h9
    exact h9
  have hall : s.sameButNew ({ U with vm := s.vm } : State) locs mc ms := by
    subst hA
    obtain ⟨e1, e2⟩ := hsame
    rw [State.setFrames_setFrames] at e1
    have h2 : (T.setVm s.vm).sameButNew ({ U with vm := s.vm } : State) [] (0 + 1) (0 + 6) := ⟨e1, e2⟩
    have h3 := X.same.trans h2
    rw [List.append_nil] at h3
    exact h3.mono hc hs
  refine ⟨U, ?_, .threw T.heap.size, hrun, hend, Or.inr ⟨T.heap.size, rfl, cls, ce, locs, hx U hWs.alike f1 (fun q hq => f2 q hq (fun z hz => nomatch hz)), hce, hO.vm, hcl, hWs, hall, hf⟩⟩
  refine st1 _ ?_
  show Steps p.tables e below (T1.setTop { method := m, pc := pc + 3, locals := ls, stack := .ref T.heap.size :: rest, locked := none }) _
  jvm_step X₁.here [X₁.here.top, hexec, d3', Value.category]
  exact X₁.ldcStringW hexec (own := own) (text := text) (index := is) (a := sa) hown' hstr'.1 hstr'.2
    (g := { method := m, pc := pc + 4, locals := ls, stack := .ref T.heap.size :: .ref T.heap.size :: rest, locked := none }) rfl d4' _ hsteps
end Ends
section Bodies
variable {l : Launch}
theorem vx_ofW {y : MethodName} {ws ws' : List Cond} {rm : Room} {Pc : Array Value → State → Prop} {Qc : Array Value → State → Outcome → State → Prop} {XC : String → State → State → Prop} {mc ms : Nat} {free : Addr → Prop} {cc : ByteArray} {maxL : Nat} {ret : Option FieldType}
    (hy : plainName y.cls = true) (hw : ws = Cond.code y cc maxL ret :: ws')
    (body : ∀ p e s m args below meth c s₁, BodyLoose p l y (headSpec ws rm) cc maxL ret e s m args below meth c s₁ → c.maxLocals = maxL → (∀ x ∈ c.exceptionTable.toList, False) → Pc args s →
      W p l e (headSpec ws rm).room s m args below meth c s.heap [] 0 0 (vx_MQ below Qc XC args s mc ms free) (entryFrame m args maxL)) : vx_Met l y ws rm Pc Qc XC mc ms free := by
  refine MetFree.of_bodyS (code := cc) (maxLocals := maxL) (ret := ret) hy ?_ ?_
  · intro args s m h hn
    obtain ⟨meth, c, h1, h2, h3, h4, h5, h6, -, -⟩ := Cond.code_spec hn (atoms_spec (ws := ws) h _ (by rw [hw]; exact List.mem_cons_self))
    exact ⟨meth, c, h1, h2, h3, h4, h5, h6⟩
  · intro p e s m args below meth c s₁ B hml hP _
    have hh0 : s₁.heap = s.heap := by rw [B.state]; rfl
    have ht : ∀ x ∈ c.exceptionTable.toList, False := by
      obtain ⟨meth9, c9, h1, h2, -, -, -, -, h7, -⟩ := Cond.code_spec B.named (atoms_spec (ws := ws) B.pre _ (by rw [hw]; exact List.mem_cons_self))
      cases Option.some.inj (h1.symm.trans B.method)
      cases Option.some.inj (h2.symm.trans (Stand.of_body B).code)
      intro x hx
      rw [Array.isEmpty_iff.mp h7] at hx
      cases hx
    obtain ⟨t, a1, o, b1, b2, b3⟩ := body p e s m args below meth c s₁ B hml ht hP s₁ hh0 (Stand.of_body B)
    exact ⟨t, o, a1, b1, b2, b3⟩
/-- the table of a body with handlers -/
theorem vx_table {p : Program} {x y : MethodName} {S : Spec} {cc bytes : ByteArray} {maxL maxL' : Nat} {ret ret' : Option FieldType} {e : Env} {s s₁ : State} {m : MethodId} {args : Array Value} {below : List Frame} {meth : Method} {c : Code} {hh : List (Nat × Nat × Nat × Nat)}
    (B : BodyLoose p l y S cc maxL ret e s m args below meth c s₁) (h : (Cond.codeWith y bytes maxL' ret' hh).before args s = true) : c.exceptionTable.toList = tableOf hh := by
  obtain ⟨m9, meth9, c9, hn9, h1, h2, -, -, h6, -⟩ := Cond.codeWith_spec h
  cases Option.some.inj (hn9.symm.trans B.named)
  cases Option.some.inj (h1.symm.trans B.method)
  cases Option.some.inj (h2.symm.trans (Stand.of_body B).code)
  rw [← h6, table_eq]
end Bodies
end VXA
/-! ===== END ===== -/
/-! ===== BEGIN a static call of a method with an exception table ===== -/
section VXS
variable {p : Program} {l : Launch} {e : Env} {R : Room} {s : State} {m : MethodId} {args : Array Value} {below : List Frame} {meth : Method} {c : Code} {T : State} {H : Heap} {locs : List Loc} {cells slots : Nat}
abbrev vx_CSW (R : Room) (s : State) (args : Array Value) (own : String) (index : Nat) (y : MethodName) (bytes : ByteArray) (maxL : Nat) (ret : Option FieldType) (hh : List (Nat × Nat × Nat × Nat)) (ws : List Cond) (rm : Room) (mc ms n : Nat) : Prop :=
  (rm.cells = mc ∧ rm.slots = ms ∧ rm.frames + 1 ≤ R.frames ∧ 8 + (maxL + 11) + rm.locals ≤ R.locals ∧ (∀ w ∈ ws, ∀ (a' : Array Value) (U : State), s.WarmedH U.vm → w.before a' U = true) ∧ Cond.codeWith y bytes maxL ret hh ∈ ws) ∧
  (Cond.codeWith y bytes maxL ret hh).before args s = true ∧ (Cond.initialized y.cls).before args s = true ∧ (y.cls ≠ "java/lang/invoke/MethodHandle" ∧ y.cls ≠ "java/lang/invoke/VarHandle") ∧
  (∀ sig, parseMethodDescriptor y.desc = some sig → n = sig.parameters.length) ∧ (Cond.methodLink own index y).before args s = true ∧ (Cond.static y).before args s = true
theorem vx_cwSW {own : String} {index maxL mc ms : Nat} {y : MethodName} {bytes : ByteArray} {ret : Option FieldType} {hh : List (Nat × Nat × Nat × Nat)} {Ts ws ws' : List Cond} {rm : Room} (n : Nat) (ht : ∀ w ∈ Ts, w.before args s = true) (hT : GoodIn Ts (va_wsS own index y ws)) (hw : ws = Cond.codeWith y bytes maxL ret hh :: ws') (hrc : rm.cells = mc) (hrs : rm.slots = ms)
    (hd : y.cls ≠ "java/lang/invoke/MethodHandle" ∧ y.cls ≠ "java/lang/invoke/VarHandle" ∧ (parseMethodDescriptor y.desc).map (fun d => d.parameters.length) = some n) (hR : rm.frames + 1 ≤ R.frames ∧ 8 + (maxL + 11) + rm.locals ≤ R.locals) :
    vx_CSW R s args own index y bytes maxL ret hh ws rm mc ms n := by
  have ok : ∀ w ∈ va_wsS own index y ws, w.before args s = true := fun w h => ht w (hT w h).1
  have hG : GoodIn Ts ws := fun w h => hT w (by unfold va_wsS; exact List.mem_append_right _ h)
  have hc : Cond.codeWith y bytes maxL ret hh ∈ ws := by rw [hw]; exact List.mem_cons_self
  refine ⟨⟨hrc, hrs, hR.1, hR.2, pay_in ht hG, hc⟩, ht _ (hG _ hc).1, ok _ (by simp [va_wsS]), ⟨hd.1, hd.2.1⟩, fun sig h => ?_, ok _ (by simp [va_wsS]), ok _ (by simp [va_wsS])⟩
  have h2 := hd.2.2
  rw [h] at h2
  exact (Option.some.inj h2).symm
theorem vx_callSW (X : Stand p l e R s m args below meth c T locs cells slots) (hexec : p.tables.exec = Jvm.exec) {own : String} {index : Nat} {y : MethodName} {bytes : ByteArray} {maxL : Nat} {ret : Option FieldType} {hh : List (Nat × Nat × Nat × Nat)}
    (hown : s.vm.findClass own = some m.cls) (hlink : (Cond.methodLink own index y).before args s = true) (hstat : (Cond.static y).before args s = true) (hinit : (Cond.initialized y.cls).before args s = true)
    (hcode : (Cond.codeWith y bytes maxL ret hh).before args s = true) (hy : y.cls ≠ "java/lang/invoke/MethodHandle" ∧ y.cls ≠ "java/lang/invoke/VarHandle")
    {W9 : Nat} {Pre : Pt → Array Value → Prop} {Post : Pt → Array Value → Option Value → Pt → Prop} (hK : Back l R p e below s args y 3 W9 Pre Post)
    {g : JFrame} (hg : g.method = m) (hsize : g.locals.size = c.maxLocals) {argsL rest : List Value} (hlen : ∀ sig, parseMethodDescriptor y.desc = some sig → argsL.length = sig.parameters.length)
    (hstack : g.stack = argsL.reverse ++ rest) (hW : 2 * g.monitorRoom + (rest.map fun v => v.category).sum ≤ W9) (hdg : decode c.code g.pc = .ok (.invokestatic index, 3))
    (hpre : ∀ vm₁, s.WarmedH vm₁ → Pre ⟨T.setVm vm₁, locs, cells, slots⟩ argsL.toArray) :
    ∃ (v : Option Value) (vm₁ : Vm) (B : Pt), s.WarmedH vm₁ ∧ Stand p l e R s m args below meth c B.U B.locs B.cells B.slots ∧ Post ⟨T.setVm vm₁, locs, cells, slots⟩ argsL.toArray v B ∧
      ∀ target, Steps p.tables e below (B.U.setTop { g with pc := g.pc + 3, stack := v.toList ++ rest }) target → Steps p.tables e below (T.setTop g) target := by
  obtain ⟨mk, methM, cM, hnamed, hmethM, -, -, -, -, -, -, hsigM⟩ := Cond.codeWith_spec hcode
  have hstatic : methM.isStatic = true := Cond.static_spec hnamed hmethM hstat
  obtain ⟨kP, hkP, -⟩ := className_of_methodNamed hnamed
  have hinitP : kP.init = .initialized := Cond.initialized_spec (findClass_of_methodNamed hnamed) hkP hinit
  obtain ⟨vm₁, X₁, hstep₁⟩ := X.invokestatic hexec hown hlink hnamed hmethM hstatic hkP hinitP hy (g := g) hg (argsL := argsL) (rest := rest) (hlen _ hsigM) hstack hdg
  obtain ⟨v, B, X', hpost, hsteps⟩ := hK m meth c ⟨T.setVm vm₁, locs, cells, slots⟩ { g with stack := rest } (.invokestatic index) mk argsL.toArray X₁ hg hsize hdg hW (X₁.named hnamed) (hpre vm₁ X₁.warmed)
  exact ⟨v, vm₁, B, X₁.warmed, X', hpost, fun target h => hstep₁ _ fun acts => by rw [doInvoke_state]; exact hsteps.trans h⟩
theorem vx_runSW {y : MethodName} {bytes cc : ByteArray} {maxL nL mc ms n index : Nat} {ret : Option FieldType} {hh : List (Nat × Nat × Nat × Nat)} {ws : List Cond} {rm : Room} {Pc : Array Value → State → Prop} {Qc : Array Value → State → Outcome → State → Prop} {free : Addr → Prop} {Ts : List Cond} {own : String} {As rest : List Value} {g : JFrame}
    (S : CallFix p m c cc nL s args Ts own) (hM : Met l y ws rm Pc Qc mc ms free) (cw : vx_CSW R s args own index y bytes maxL ret hh ws rm mc ms n) (hp : PreS s H Pc As)
    (hg : g.method = m) (hn : As.length = n) (hsize : g.locals.size = nL) (hstack : g.stack = As.reverse ++ rest) (hW : 2 * g.monitorRoom + (rest.map fun v => v.category).sum ≤ 8) (hdg : decode cc g.pc = .ok (.invokestatic index, 3)) (hf : cells + mc ≤ R.cells ∧ slots + ms ≤ R.slots) :
    va_Run p l e R s m args below meth c H locs cells slots mc ms g rest (Qc As.toArray) (free) := by
  obtain ⟨⟨hrc, hrs, hfr, hlo, hws, hcw⟩, hcode, hini, hy, hlen, hl, hstt⟩ := cw
  have hK : Back l R p e below s args y 3 8 (PreOf R mc ms Pc) (PostOf Qc mc ms free) := va_backW (hh := hh) (bytes := bytes) (maxL := maxL) (ret := ret) hM hp.1 hrc hrs hfr hlo hws hcw (fun a' U hW => word_at hW (Or.inl (by first | rfl | simp [Cond.onTables, Cond.keeps, Cond.steady])) hini)
  obtain ⟨hx, hb, hml, ho, -⟩ := S
  intro T hT X
  obtain ⟨v, vm₁, ⟨U', l2, c2, s2⟩, hW₁, X', ⟨g', mk, t, L, e1, e2, hq, h1, hL, h2, h3⟩, st⟩ := vx_callSW X hx (hh := hh) (bytes := bytes) (maxL := maxL) (ret := ret) ho hl hstt hini hcode hy hK hg (hsize.trans hml.symm) (argsL := As) (rest := rest) (fun sig h => hn.trans (hlen sig h)) hstack hW (by rw [hb]; exact hdg)
    (fun vm₁ hW₁ => ⟨hf.1, hf.2, hp.2 (T.setVm vm₁) hT hW₁⟩)
  dsimp only [Pt.U, Pt.locs, Pt.cells, Pt.slots] at X' e1 e2 h1 h2 h3 st
  subst h1; subst h2; subst h3
  exact ⟨v, (T.setVm vm₁).calling g' mk As.toArray, t, U', L, hT, X', hL, e1, e2, hq, st⟩
/-- not caught here, past rows that name other classes: it goes on to the caller -/
theorem vx_outP {p : Program} {l : Launch} {e : Env} {R : Room} {s : State} {m : MethodId} {args : Array Value} {below : List Frame} {meth : Method} {c : Code} {H : Heap} {locs : List Loc} {cells slots : Nat} {free : Addr → Prop} {ls : Array Slot} {rest : List Value} {Qc : Array Value → State → Outcome → State → Prop} {XC : String → State → State → Prop}
    {pc : Nat} {own E : String} {ce : Cell} {q : Addr} {mc ms : Nat} (hown : s.vm.findClass own = some m.cls) (hlocks : meth.locks = false)
    (hpass : ∀ z ∈ c.exceptionTable.toList, covers z pc = false ∨ (z.catchType ≠ 0 ∧ ∃ nm : String, (Cond.classLink own z.catchType nm).before args s = true ∧ va_Nc E nm s)) (hcell : H[q]? = some ce) (hv : ce.vm = .none) (hcl : s.vm.findClass E = some ce.cls)
    (hx : ∀ t : State, t.heap = H → s.vm.Alike t.vm → XC E s t) (hf : ∀ z ∈ locs, free z.base) (hc : cells ≤ mc) (hs : slots ≤ ms) :
    vx_W p l e R s m args below meth c H locs cells slots (vx_MQ below Qc XC args s mc ms free) (F0 m pc ls rest) q := by
  intro T hT X
  have hpl : e.platform.magicAccessors = ({} : Platform).magicAccessors := by rw [X.admits.platform]
  obtain ⟨vm', hW', X', st⟩ := X.outThrough hlocks q (g := F0 m pc ls rest) rfl rfl rfl (cell := ce) (by rw [hT]; exact hcell) (by rw [hv]; rfl)
    (by obtain ⟨k9, h9, -⟩ := Vm.findClass_spec hcl; exact ⟨k9, h9⟩) (fun z hz => by
      rcases hpass z hz with h | ⟨hz0, nm, hl1, hn1⟩
      · exact Or.inl h
      · obtain ⟨c6, hc6, hcl6⟩ := Cond.classLink_spec hown hl1 e.platform hpl
        obtain ⟨a8, b8, h1, h2, h3⟩ := hn1
        cases Option.some.inj (h1.symm.trans hcl)
        cases Option.some.inj (h2.symm.trans hc6)
        exact Or.inr ⟨hz0, _, hcl6, h3⟩)
  obtain ⟨g₀, hfr⟩ := X'.frames_eq
  have hcell9 : ((T.setVm vm').setFrames (.throwing q :: below)).heap[q]? = some ce := by
    show T.heap[q]? = some ce
    rw [hT]; exact hcell
  have hend : Ended ((T.setVm vm').setFrames (.throwing q :: below)) below (.threw q) := State.frames_setFrames _ (State.cur_lt_of_frames hfr)
  refine ⟨(T.setVm vm').setFrames (.throwing q :: below), ?_, .threw q, X'.here.running, hend, Or.inr ⟨q, rfl, E, ce, locs, hx _ hT (X'.ends _).1.alike, hcell9, hv, hcl, (X'.ends _).1, (X'.ends _).2.mono hc hs, hf⟩⟩
  rw [X.pushThrowing_eq]
  exact st
/-- a thing of a world lies in the heap -/
theorem vx_lt {D : va_G} {cl : List vw_C} {ws : va_W} {H1 : Heap} (h : va_P D cl ws H1) {k : Nat} {q : Nat × va_E} (hk : ws[k]? = some q) : q.1 < H1.size := (h k q hk).lt
end VXS
/-! ===== END ===== -/
/-! ===== BEGIN methods with a table of their own: called by a name, returning or throwing ===== -/
section VXH
/-! vx_backW, vx_callVX, vx_callSX, vx_callVW, vx_runVW, vx_runVX, vx_runSX, vx_ofWH follow the same proofs as their sisters above (Free/Laws.lean, Shelf42/LK1.lean); vx_outP calls Shelf42/NT130.lean (outThrough). -/
section
variable {l : Launch} {R : Room} {p : Program} {e : Env} {below : List Frame} {s : State} {sargs : Array Value} {y : MethodName} {len W9 : Nat}
theorem vx_backW {ws : List Cond} {rm : Room} {Pc : Array Value → State → Prop} {Qc : Array Value → State → Outcome → State → Prop} {XC : String → State → State → Prop} {mc ms : Nat} {free : Addr → Prop} {bytes : ByteArray} {maxL : Nat} {ret : Option FieldType} {hh : List (Nat × Nat × Nat × Nat)}
    (hM : vx_Met l y ws rm Pc Qc XC mc ms free) (hblind : FrameBlind Pc) (hrc : rm.cells = mc) (hrs : rm.slots = ms)
    (hframes : rm.frames + 1 ≤ R.frames) (hlocals : W9 + (maxL + 11) + rm.locals ≤ R.locals)
    (hws : ∀ w ∈ ws, ∀ a' U, s.WarmedH U.vm → w.before a' U = true) (hcode : Cond.codeWith y bytes maxL ret hh ∈ ws) (hinit : ∀ a' U, s.WarmedH U.vm → (Cond.initialized y.cls).before a' U = true) :
    vx_Back l R p e below s sargs y len W9 (PreOf R mc ms Pc) (PostOf Qc mc ms free) (vx_Post XC mc ms free) := by
  intro m meth c A g ig mk a X hg hsize hdg hW hn hp
  have h1 : (headSpec ws rm).pre.before a A.U = true := atoms_intro fun w hw => hws w hw _ _ X.warmed
  have h2 : (Cond.codeWith y bytes maxL ret hh).before a A.U = true := hws _ hcode _ _ X.warmed
  have h3 : (Cond.initialized y.cls).before a A.U = true := hinit _ _ X.warmed
  have h4 : A.cells + (headSpec ws rm).room.cells ≤ R.cells := by rw [show (headSpec ws rm).room.cells = mc from hrc]; exact hp.1
  have h5 : A.slots + (headSpec ws rm).room.slots ≤ R.slots := by rw [show (headSpec ws rm).room.slots = ms from hrs]; exact hp.2.1
  have hPc : Pc a (A.U.calling g mk a) := hblind _ _ _ _ hp.2.2
  obtain ⟨U, Ls, c0, s0⟩ := A
  dsimp only [Pt.U, Pt.locs, Pt.cells, Pt.slots] at h1 h2 h3 h4 h5 X hn hPc ⊢
  obtain ⟨m9, methY, cY, hn9, hmY, hcY, -, hlY, -⟩ := Cond.codeWith_spec h2
  cases Option.some.inj (hn9.symm.trans hn)
  obtain ⟨kY, hkY, -⟩ := className_of_methodNamed hn
  have hinitY : kY.init = .initialized := Cond.initialized_spec (findClass_of_methodNamed hn) hkY h3
  have h : At U g.method c below := by rw [hg]; exact X.here
  have hlocals9 : W9 + (maxL + 11) + (headSpec ws rm).room.locals ≤ R.locals := hlocals
  have happ : (headSpec ws rm).appliesLoose y e.platform (U.calling g mk a) = true :=
    Spec.appliesLoose_calling (g := g) h hdg hn hkY hinitY
      (X.room_calling (g := g) (R' := (headSpec ws rm).room) hsize hmY hcY hframes (by rw [hlY]; omega) h4 h5) h1
  obtain ⟨mid, hmid⟩ := h.above
  have hfr : (U.setTop g).frames = (.java g :: mid) ++ below := by rw [State.frames_setTop' g h.top, hmid]; rfl
  obtain ⟨o, s₂, hsteps, -, hend, hq⟩ := Steps.callFree hM p X.admits X.cas X.clock (acts := []) hfr happ hPc trivial
  have hq' : vx_Q Qc XC mc ms free a (U.calling g mk a) o s₂ := hq
  rw [State.frames_setTop' g h.top] at hend
  obtain ⟨g₀, hg0⟩ := Option.isSome_iff_exists.mp h.top
  obtain ⟨r, hr⟩ := State.topJava?_eq_some.mp hg0
  have hr' : (({ U with heap := s₂.heap, slotsUsed := s₂.slotsUsed } : State).setVm s₂.vm).frames = .java g₀ :: r := hr
  rcases hq' with ⟨hqc, L, hfe, hL⟩ | ⟨q, rfl, E, ce, L, hx, hce, hcv, hcl, hW₂, hsm, hL⟩
  · obtain ⟨⟨v, rfl⟩, hW₂, e2, q2, q3, q4, q5, q6⟩ := id hfe
    have e3 : s₂ = ({ (U.calling g mk a).setFrames s₂.frames with heap := s₂.heap, slotsUsed := s₂.slotsUsed } : State).setVm s₂.vm := by
      have : s₂ = ({ s₂ with vm := (U.calling g mk a).vm } : State).setVm s₂.vm := rfl
      rw [e2] at this
      exact this
    obtain ⟨c₂, i₂, len₂, hc₂, hd₂, hf₂⟩ := hend
    have hW' : U.WarmedH s₂.vm := hW₂
    have hcc : c₂ = c := by
      have h1 : s₂.code? g.method = U.code? g.method := by
        rw [State.code?_eq, State.code?_eq, hW'.alike.method?]
      exact Option.some.inj (hc₂.symm.trans (h1.trans h.code))
    subst hcc
    have hlen : len₂ = len := by rw [hdg] at hd₂; cases hd₂; rfl
    subst hlen
    have hs₂ : s₂ = (({ U with heap := s₂.heap, slotsUsed := s₂.slotsUsed } : State).setVm s₂.vm).setTop { g with pc := g.pc + len₂, stack := v.toList ++ g.stack } := by
      refine e3.trans ?_
      rw [hf₂, State.calling_eq h.top, State.setFrames_setFrames, State.setTop_of_frames _ hr', hr]
      rfl
    have hsame : U.sameButNew ({ U with heap := s₂.heap, slotsUsed := s₂.slotsUsed } : State) L mc ms := by
      refine ⟨?_, q2, q3, q4, q5, q6⟩
      obtain ⟨t, ht, -⟩ := State.frames_cons hr
      show ({ U with heap := s₂.heap, slotsUsed := s₂.slotsUsed } : State) = { U.setFrames U.frames with heap := s₂.heap, slotsUsed := s₂.slotsUsed }
      rw [State.setFrames_self ht]
    subst hg
    refine Or.inl ⟨v, ⟨(({ U with heap := s₂.heap, slotsUsed := s₂.slotsUsed } : State).setVm s₂.vm), Ls ++ L, c0 + mc, s0 + ms⟩,
      ⟨X.admits, X.cas, X.clock, X.frames, X.room, X.hears, X.method, X.code, (X.here.setHeapUsed s₂.heap s₂.slotsUsed).setVm hW'.alike, X.tail, State.WarmedH.trans X.warmed hW', X.limits, X.bytes, X.same.trans (hsame.setVm s.vm)⟩,
      ⟨g, mk, s₂, L, rfl, rfl, hqc, rfl, hL, rfl, rfl⟩, ?_⟩
    show Steps p.tables e below _ ((({ U with heap := s₂.heap, slotsUsed := s₂.slotsUsed } : State).setVm s₂.vm).setTop { g with pc := g.pc + len₂, stack := v.toList ++ g.stack })
    rw [← hs₂]
    exact hsteps
  · obtain ⟨e2, q2, q3, q4, q5, q6⟩ := id hsm
    have e3 : s₂ = ({ (U.calling g mk a).setFrames s₂.frames with heap := s₂.heap, slotsUsed := s₂.slotsUsed } : State).setVm s₂.vm := by
      have : s₂ = ({ s₂ with vm := (U.calling g mk a).vm } : State).setVm s₂.vm := rfl
      rw [e2] at this
      exact this
    have hf₂ : s₂.frames = .throwing q :: .java g :: U.frames.tail := hend
    have hW' : U.WarmedH s₂.vm := hW₂
    have hs₂ : s₂ = ((({ U with heap := s₂.heap, slotsUsed := s₂.slotsUsed } : State).setVm s₂.vm).setTop g).pushFrame (.throwing q) := by
      refine e3.trans ?_
      rw [hf₂, State.calling_eq h.top, State.setFrames_setFrames, State.pushFrame, State.frames_setTop _ hr', State.setTop_of_frames _ hr', State.setFrames_setFrames, hr]
      rfl
    have hsame : U.sameButNew ({ U with heap := s₂.heap, slotsUsed := s₂.slotsUsed } : State) L mc ms := by
      refine ⟨?_, q2, q3, q4, q5, q6⟩
      obtain ⟨t, ht, -⟩ := State.frames_cons hr
      show ({ U with heap := s₂.heap, slotsUsed := s₂.slotsUsed } : State) = { U.setFrames U.frames with heap := s₂.heap, slotsUsed := s₂.slotsUsed }
      rw [State.setFrames_self ht]
    subst hg
    refine Or.inr ⟨q, ⟨(({ U with heap := s₂.heap, slotsUsed := s₂.slotsUsed } : State).setVm s₂.vm), Ls ++ L, c0 + mc, s0 + ms⟩,
      ⟨X.admits, X.cas, X.clock, X.frames, X.room, X.hears, X.method, X.code, (X.here.setHeapUsed s₂.heap s₂.slotsUsed).setVm hW'.alike, X.tail, State.WarmedH.trans X.warmed hW', X.limits, X.bytes, X.same.trans (hsame.setVm s.vm)⟩,
      ⟨g, mk, s₂, L, E, ce, rfl, rfl, hx, hce, hcv, hcl, rfl, hL, rfl, rfl⟩, ?_⟩
    show Steps p.tables e below _ (((({ U with heap := s₂.heap, slotsUsed := s₂.slotsUsed } : State).setVm s₂.vm).setTop g).pushFrame (.throwing q))
    rw [← hs₂]
    exact hsteps
end
variable {p : Program} {l : Launch} {e : Env} {R : Room} {s : State} {m : MethodId} {args : Array Value} {below : List Frame} {meth : Method} {c : Code} {T : State} {H : Heap} {locs : List Loc} {cells slots : Nat}
theorem vx_callVX (X : Stand p l e R s m args below meth c T locs cells slots) (hexec : p.tables.exec = Jvm.exec) {own C : String} {index : Nat} {y : MethodName} {bytes : ByteArray} {maxL : Nat} {ret : Option FieldType} {hh : List (Nat × Nat × Nat × Nat)}
    (hown : s.vm.findClass own = some m.cls) (hlink : (Cond.methodLink own index y).before args s = true) (hinst : (Cond.instanceMethod y).before args s = true) (hsel : (Cond.selects C y y).before args s = true)
    (hcode : (Cond.codeWith y bytes maxL ret hh).before args s = true) (hy : y.cls ≠ "java/lang/invoke/MethodHandle" ∧ y.cls ≠ "java/lang/invoke/VarHandle")
    {W9 : Nat} {Pre : Pt → Array Value → Prop} {Post : Pt → Array Value → Option Value → Pt → Prop} {PostX : Pt → Array Value → Addr → Pt → Prop} (hK : vx_Back l R p e below s args y 3 W9 Pre Post PostX)
    {b : Addr} {cellB : Cell} (hcell : T.heap[b]? = some cellB) (hobj : cellB.vm.isStatics = false) (hcls : s.vm.findClass C = some cellB.cls)
    {g : JFrame} (hg : g.method = m) (hsize : g.locals.size = c.maxLocals) {argsL rest : List Value} (hlen : ∀ sig, parseMethodDescriptor y.desc = some sig → argsL.length = sig.parameters.length)
    (hstack : g.stack = argsL.reverse ++ .ref b :: rest) (hW : 2 * g.monitorRoom + (rest.map fun v => v.category).sum ≤ W9) (hdg : decode c.code g.pc = .ok (.invokevirtual index, 3))
    (hpre : ∀ vm₁, s.WarmedH vm₁ → Pre ⟨T.setVm vm₁, locs, cells, slots⟩ (Value.ref b :: argsL).toArray) :
    (∃ (v : Option Value) (vm₁ : Vm) (B : Pt), s.WarmedH vm₁ ∧ Stand p l e R s m args below meth c B.U B.locs B.cells B.slots ∧ Post ⟨T.setVm vm₁, locs, cells, slots⟩ (Value.ref b :: argsL).toArray v B ∧
      ∀ target, Steps p.tables e below (B.U.setTop { g with pc := g.pc + 3, stack := v.toList ++ rest }) target → Steps p.tables e below (T.setTop g) target) ∨
    (∃ (q : Addr) (vm₁ : Vm) (B : Pt), s.WarmedH vm₁ ∧ Stand p l e R s m args below meth c B.U B.locs B.cells B.slots ∧ PostX ⟨T.setVm vm₁, locs, cells, slots⟩ (Value.ref b :: argsL).toArray q B ∧
      Steps p.tables e below (T.setTop g) ((B.U.setTop { g with stack := rest }).pushFrame (.throwing q))) := by
  obtain ⟨mk, methM, hnamed, hmethM, hstM, habM⟩ := Cond.instanceMethod_spec hinst
  obtain ⟨m8, methM', cM, hn8, hmethM', -, -, -, -, -, -, hsigM⟩ := Cond.codeWith_spec hcode
  cases Option.some.inj (hn8.symm.trans hnamed)
  cases hmethM.symm.trans hmethM'
  obtain ⟨c2, r2, m2, q1, q2, q3, q4, kP, hkP, hkPi⟩ := Cond.selects_spec hsel
  cases hcls.symm.trans q1
  cases (State.methodFound?_of_named hnamed hy).symm.trans q2
  cases hnamed.symm.trans q3
  have hselP : selectMethod e.platform s.vm cellB.cls mk = .method mk := by rw [Launch.admits_selectMethod X.admits]; exact q4
  obtain ⟨vm₁, X₁, hstep₁⟩ := X.invokevirtual hexec hown hlink hnamed hmethM hstM hkP hkPi hy (a := b) (cell := cellB) hcell
    (fun z h => by rw [h] at hobj; cases hobj) hselP hmethM habM hkP hkPi (g := g) hg (argsL := argsL) (rest := rest) (hlen _ hsigM) hstack hdg
  rcases hK m meth c ⟨T.setVm vm₁, locs, cells, slots⟩ { g with stack := rest } (.invokevirtual index) mk (Value.ref b :: argsL).toArray X₁ hg hsize hdg hW (X₁.named hnamed) (hpre vm₁ X₁.warmed) with ⟨v, B, X', hpost, hsteps⟩ | ⟨q, B, X', hpost, hsteps⟩
  · exact Or.inl ⟨v, vm₁, B, X₁.warmed, X', hpost, fun target h => hstep₁ _ fun acts => by rw [doInvoke_state]; exact hsteps.trans h⟩
  · exact Or.inr ⟨q, vm₁, B, X₁.warmed, X', hpost, hstep₁ _ fun acts => by rw [doInvoke_state]; exact hsteps⟩
theorem vx_callSX (X : Stand p l e R s m args below meth c T locs cells slots) (hexec : p.tables.exec = Jvm.exec) {own : String} {index : Nat} {y : MethodName} {bytes : ByteArray} {maxL : Nat} {ret : Option FieldType} {hh : List (Nat × Nat × Nat × Nat)}
    (hown : s.vm.findClass own = some m.cls) (hlink : (Cond.methodLink own index y).before args s = true) (hstat : (Cond.static y).before args s = true) (hinit : (Cond.initialized y.cls).before args s = true)
    (hcode : (Cond.codeWith y bytes maxL ret hh).before args s = true) (hy : y.cls ≠ "java/lang/invoke/MethodHandle" ∧ y.cls ≠ "java/lang/invoke/VarHandle")
    {W9 : Nat} {Pre : Pt → Array Value → Prop} {Post : Pt → Array Value → Option Value → Pt → Prop} {PostX : Pt → Array Value → Addr → Pt → Prop} (hK : vx_Back l R p e below s args y 3 W9 Pre Post PostX)
    {g : JFrame} (hg : g.method = m) (hsize : g.locals.size = c.maxLocals) {argsL rest : List Value} (hlen : ∀ sig, parseMethodDescriptor y.desc = some sig → argsL.length = sig.parameters.length)
    (hstack : g.stack = argsL.reverse ++ rest) (hW : 2 * g.monitorRoom + (rest.map fun v => v.category).sum ≤ W9) (hdg : decode c.code g.pc = .ok (.invokestatic index, 3))
    (hpre : ∀ vm₁, s.WarmedH vm₁ → Pre ⟨T.setVm vm₁, locs, cells, slots⟩ argsL.toArray) :
    (∃ (v : Option Value) (vm₁ : Vm) (B : Pt), s.WarmedH vm₁ ∧ Stand p l e R s m args below meth c B.U B.locs B.cells B.slots ∧ Post ⟨T.setVm vm₁, locs, cells, slots⟩ argsL.toArray v B ∧
      ∀ target, Steps p.tables e below (B.U.setTop { g with pc := g.pc + 3, stack := v.toList ++ rest }) target → Steps p.tables e below (T.setTop g) target) ∨
    (∃ (q : Addr) (vm₁ : Vm) (B : Pt), s.WarmedH vm₁ ∧ Stand p l e R s m args below meth c B.U B.locs B.cells B.slots ∧ PostX ⟨T.setVm vm₁, locs, cells, slots⟩ argsL.toArray q B ∧
      Steps p.tables e below (T.setTop g) ((B.U.setTop { g with stack := rest }).pushFrame (.throwing q))) := by
  obtain ⟨mk, methM, cM, hnamed, hmethM, -, -, -, -, -, -, hsigM⟩ := Cond.codeWith_spec hcode
  have hstatic : methM.isStatic = true := Cond.static_spec hnamed hmethM hstat
  obtain ⟨kP, hkP, -⟩ := className_of_methodNamed hnamed
  have hinitP : kP.init = .initialized := Cond.initialized_spec (findClass_of_methodNamed hnamed) hkP hinit
  obtain ⟨vm₁, X₁, hstep₁⟩ := X.invokestatic hexec hown hlink hnamed hmethM hstatic hkP hinitP hy (g := g) hg (argsL := argsL) (rest := rest) (hlen _ hsigM) hstack hdg
  rcases hK m meth c ⟨T.setVm vm₁, locs, cells, slots⟩ { g with stack := rest } (.invokestatic index) mk argsL.toArray X₁ hg hsize hdg hW (X₁.named hnamed) (hpre vm₁ X₁.warmed) with ⟨v, B, X', hpost, hsteps⟩ | ⟨q, B, X', hpost, hsteps⟩
  · exact Or.inl ⟨v, vm₁, B, X₁.warmed, X', hpost, fun target h => hstep₁ _ fun acts => by rw [doInvoke_state]; exact hsteps.trans h⟩
  · exact Or.inr ⟨q, vm₁, B, X₁.warmed, X', hpost, hstep₁ _ fun acts => by rw [doInvoke_state]; exact hsteps⟩
theorem vx_callVW (X : Stand p l e R s m args below meth c T locs cells slots) (hexec : p.tables.exec = Jvm.exec) {own C : String} {index : Nat} {y : MethodName} {bytes : ByteArray} {maxL : Nat} {ret : Option FieldType} {hh : List (Nat × Nat × Nat × Nat)}
    (hown : s.vm.findClass own = some m.cls) (hlink : (Cond.methodLink own index y).before args s = true) (hinst : (Cond.instanceMethod y).before args s = true) (hsel : (Cond.selects C y y).before args s = true)
    (hcode : (Cond.codeWith y bytes maxL ret hh).before args s = true) (hy : y.cls ≠ "java/lang/invoke/MethodHandle" ∧ y.cls ≠ "java/lang/invoke/VarHandle")
    {W9 : Nat} {Pre : Pt → Array Value → Prop} {Post : Pt → Array Value → Option Value → Pt → Prop} (hK : Back l R p e below s args y 3 W9 Pre Post)
    {b : Addr} {cellB : Cell} (hcell : T.heap[b]? = some cellB) (hobj : cellB.vm.isStatics = false) (hcls : s.vm.findClass C = some cellB.cls)
    {g : JFrame} (hg : g.method = m) (hsize : g.locals.size = c.maxLocals) {argsL rest : List Value} (hlen : ∀ sig, parseMethodDescriptor y.desc = some sig → argsL.length = sig.parameters.length)
    (hstack : g.stack = argsL.reverse ++ .ref b :: rest) (hW : 2 * g.monitorRoom + (rest.map fun v => v.category).sum ≤ W9) (hdg : decode c.code g.pc = .ok (.invokevirtual index, 3))
    (hpre : ∀ vm₁, s.WarmedH vm₁ → Pre ⟨T.setVm vm₁, locs, cells, slots⟩ (Value.ref b :: argsL).toArray) :
    ∃ (v : Option Value) (vm₁ : Vm) (B : Pt), s.WarmedH vm₁ ∧ Stand p l e R s m args below meth c B.U B.locs B.cells B.slots ∧ Post ⟨T.setVm vm₁, locs, cells, slots⟩ (Value.ref b :: argsL).toArray v B ∧
      ∀ target, Steps p.tables e below (B.U.setTop { g with pc := g.pc + 3, stack := v.toList ++ rest }) target → Steps p.tables e below (T.setTop g) target := by
  obtain ⟨mk, methM, hnamed, hmethM, hstM, habM⟩ := Cond.instanceMethod_spec hinst
  obtain ⟨m8, methM', cM, hn8, hmethM', -, -, -, -, -, -, hsigM⟩ := Cond.codeWith_spec hcode
  cases Option.some.inj (hn8.symm.trans hnamed)
  cases hmethM.symm.trans hmethM'
  obtain ⟨c2, r2, m2, q1, q2, q3, q4, kP, hkP, hkPi⟩ := Cond.selects_spec hsel
  cases hcls.symm.trans q1
  cases (State.methodFound?_of_named hnamed hy).symm.trans q2
  cases hnamed.symm.trans q3
  have hselP : selectMethod e.platform s.vm cellB.cls mk = .method mk := by rw [Launch.admits_selectMethod X.admits]; exact q4
  obtain ⟨vm₁, X₁, hstep₁⟩ := X.invokevirtual hexec hown hlink hnamed hmethM hstM hkP hkPi hy (a := b) (cell := cellB) hcell
    (fun z h => by rw [h] at hobj; cases hobj) hselP hmethM habM hkP hkPi (g := g) hg (argsL := argsL) (rest := rest) (hlen _ hsigM) hstack hdg
  obtain ⟨v, B, X', hpost, hsteps⟩ := hK m meth c ⟨T.setVm vm₁, locs, cells, slots⟩ { g with stack := rest } (.invokevirtual index) mk (Value.ref b :: argsL).toArray X₁ hg hsize hdg hW (X₁.named hnamed) (hpre vm₁ X₁.warmed)
  exact ⟨v, vm₁, B, X₁.warmed, X', hpost, fun target h => hstep₁ _ fun acts => by rw [doInvoke_state]; exact hsteps.trans h⟩
abbrev vx_CVW (R : Room) (s : State) (args : Array Value) (own C : String) (index : Nat) (y : MethodName) (bytes : ByteArray) (maxL : Nat) (ret : Option FieldType) (hh : List (Nat × Nat × Nat × Nat)) (ws : List Cond) (rm : Room) (mc ms n : Nat) : Prop :=
  (rm.cells = mc ∧ rm.slots = ms ∧ rm.frames + 1 ≤ R.frames ∧ 8 + (maxL + 11) + rm.locals ≤ R.locals ∧ (∀ w ∈ ws, ∀ (a' : Array Value) (U : State), s.WarmedH U.vm → w.before a' U = true) ∧ Cond.codeWith y bytes maxL ret hh ∈ ws) ∧
  (Cond.codeWith y bytes maxL ret hh).before args s = true ∧ (Cond.initialized y.cls).before args s = true ∧ (y.cls ≠ "java/lang/invoke/MethodHandle" ∧ y.cls ≠ "java/lang/invoke/VarHandle") ∧
  (∀ sig, parseMethodDescriptor y.desc = some sig → n = sig.parameters.length) ∧ (Cond.methodLink own index y).before args s = true ∧ (Cond.instanceMethod y).before args s = true ∧ (Cond.selects C y y).before args s = true
theorem vx_cwVW {own C : String} {index maxL mc ms : Nat} {y : MethodName} {bytes : ByteArray} {ret : Option FieldType} {hh : List (Nat × Nat × Nat × Nat)} {Ts ws ws' : List Cond} {rm : Room} (n : Nat) (ht : ∀ w ∈ Ts, w.before args s = true) (hT : GoodIn Ts (wsV own index C y ws)) (hw : ws = Cond.codeWith y bytes maxL ret hh :: ws') (hrc : rm.cells = mc) (hrs : rm.slots = ms)
    (hd : y.cls = C ∧ y.cls ≠ "java/lang/invoke/MethodHandle" ∧ y.cls ≠ "java/lang/invoke/VarHandle" ∧ (parseMethodDescriptor y.desc).map (fun d => d.parameters.length) = some n) (hR : rm.frames + 1 ≤ R.frames ∧ 8 + (maxL + 11) + rm.locals ≤ R.locals) :
    vx_CVW R s args own C index y bytes maxL ret hh ws rm mc ms n := by
  obtain ⟨hC, hd⟩ := hd
  subst hC
  have ok : ∀ w ∈ wsV own index y.cls y ws, w.before args s = true := fun w h => ht w (hT w h).1
  have hG : GoodIn Ts ws := fun w h => hT w (by unfold wsV; exact List.mem_append_right _ h)
  have hc : Cond.codeWith y bytes maxL ret hh ∈ ws := by rw [hw]; exact List.mem_cons_self
  refine ⟨⟨hrc, hrs, hR.1, hR.2, pay_in ht hG, hc⟩, ht _ (hG _ hc).1, ok _ (by simp [wsV]), ⟨hd.1, hd.2.1⟩, fun sig h => ?_, ok _ (by simp [wsV]), ok _ (by simp [wsV]), ok _ (by simp [wsV])⟩
  have h2 := hd.2.2
  rw [h] at h2
  exact (Option.some.inj h2).symm
theorem vx_runVW {y : MethodName} {bytes cc : ByteArray} {maxL nL mc ms n index : Nat} {ret : Option FieldType} {hh : List (Nat × Nat × Nat × Nat)} {ws : List Cond} {rm : Room} {Pc : Array Value → State → Prop} {Qc : Array Value → State → Outcome → State → Prop} {free : Addr → Prop} {Ts : List Cond} {own C : String} {b : Addr} {As rest : List Value} {g : JFrame}
    (S : CallFix p m c cc nL s args Ts own) (hM : Met l y ws rm Pc Qc mc ms free) (cw : vx_CVW R s args own C index y bytes maxL ret hh ws rm mc ms n) (hp : PreV s H C b Pc As)
    (hg : g.method = m) (hn : As.length = n) (hsize : g.locals.size = nL) (hstack : g.stack = As.reverse ++ .ref b :: rest) (hW : 2 * g.monitorRoom + (rest.map fun v => v.category).sum ≤ 8) (hdg : decode cc g.pc = .ok (.invokevirtual index, 3)) (hf : cells + mc ≤ R.cells ∧ slots + ms ≤ R.slots) :
    va_Run p l e R s m args below meth c H locs cells slots mc ms g rest (Qc (Value.ref b :: As).toArray) free := by
  obtain ⟨⟨hrc, hrs, hfr, hlo, hws, hcw⟩, hcode, hini, hy, hlen, hl, hin, hse⟩ := cw
  have hK : Back l R p e below s args y 3 8 (PreOf R mc ms Pc) (PostOf Qc mc ms free) := va_backW (hh := hh) (bytes := bytes) (maxL := maxL) (ret := ret) hM hp.1 hrc hrs hfr hlo hws hcw (fun a' U hW => word_at hW (Or.inl (by first | rfl | simp [Cond.onTables, Cond.keeps, Cond.steady])) hini)
  obtain ⟨hx, hb, hml, ho, -⟩ := S
  obtain ⟨-, ⟨cellB, hcB, hoB, hclB⟩, hPc⟩ := hp
  intro T hT X
  obtain ⟨v, vm₁, ⟨U', l2, c2, s2⟩, hW₁, X', ⟨g', mk, t, L, e1, e2, hq, h1, hL, h2, h3⟩, st⟩ := vx_callVW X hx (C := C) (hh := hh) (bytes := bytes) (maxL := maxL) (ret := ret) ho hl hin hse hcode hy hK (by rw [hT]; exact hcB) hoB hclB hg (hsize.trans hml.symm) (argsL := As) (rest := rest) (fun sig h => hn.trans (hlen sig h)) hstack hW (by rw [hb]; exact hdg)
    (fun vm₁ hW₁ => ⟨hf.1, hf.2, hPc (T.setVm vm₁) hT hW₁⟩)
  dsimp only [Pt.U, Pt.locs, Pt.cells, Pt.slots] at X' e1 e2 h1 h2 h3 st
  subst h1; subst h2; subst h3
  exact ⟨v, (T.setVm vm₁).calling g' mk (Value.ref b :: As).toArray, t, U', L, hT, X', hL, e1, e2, hq, st⟩
section
variable {y : MethodName} {bytes cc : ByteArray} {maxL nL mc ms n index : Nat} {ret : Option FieldType} {ws : List Cond} {rm : Room} {Pc : Array Value → State → Prop} {Qc : Array Value → State → Outcome → State → Prop} {XC : String → State → State → Prop} {free : Addr → Prop} {Ts : List Cond} {own C : String} {b : Addr} {As rest : List Value} {g : JFrame}
theorem vx_runVX {hh : List (Nat × Nat × Nat × Nat)} (S : CallFix p m c cc nL s args Ts own) (hM : vx_Met l y ws rm Pc Qc XC mc ms free) (cw : vx_CVW R s args own C index y bytes maxL ret hh ws rm mc ms n) (hp : PreV s H C b Pc As)
    (hg : g.method = m) (hn : As.length = n) (hsize : g.locals.size = nL) (hstack : g.stack = As.reverse ++ .ref b :: rest) (hW : 2 * g.monitorRoom + (rest.map fun v => v.category).sum ≤ 8) (hdg : decode cc g.pc = .ok (.invokevirtual index, 3)) (hf : cells + mc ≤ R.cells ∧ slots + ms ≤ R.slots) :
    vx_Run p l e R s m args below meth c H locs cells slots mc ms g rest (Qc (Value.ref b :: As).toArray) XC free := by
  obtain ⟨⟨hrc, hrs, hfr, hlo, hws, hcw⟩, hcode, hini, hy, hlen, hl, hin, hse⟩ := cw
  have hK : vx_Back l R p e below s args y 3 8 (PreOf R mc ms Pc) (PostOf Qc mc ms free) (vx_Post XC mc ms free) := vx_backW (hh := hh) (bytes := bytes) (maxL := maxL) (ret := ret) hM hp.1 hrc hrs hfr hlo hws hcw (fun a' U hW => word_at hW (Or.inl (by first | rfl | simp [Cond.onTables, Cond.keeps, Cond.steady])) hini)
  obtain ⟨hx, hb, hml, ho, -⟩ := S
  obtain ⟨-, ⟨cellB, hcB, hoB, hclB⟩, hPc⟩ := hp
  intro T hT X
  rcases vx_callVX X hx (C := C) (hh := hh) (bytes := bytes) (maxL := maxL) (ret := ret) ho hl hin hse hcode hy hK (by rw [hT]; exact hcB) hoB hclB hg (hsize.trans hml.symm) (argsL := As) (rest := rest) (fun sig h => hn.trans (hlen sig h)) hstack hW (by rw [hb]; exact hdg)
    (fun vm₁ hW₁ => ⟨hf.1, hf.2, hPc (T.setVm vm₁) hT hW₁⟩) with ⟨v, vm₁, ⟨U', l2, c2, s2⟩, hW₁, X', ⟨g', mk, t, L, e1, e2, hq, h1, hL, h2, h3⟩, st⟩ | ⟨q, vm₁, ⟨U', l2, c2, s2⟩, hW₁, X', ⟨g', mk, t, L, E, ce, e1, e2, hq, hce, hcv, hcl, h1, hL, h2, h3⟩, st⟩
  · dsimp only [Pt.U, Pt.locs, Pt.cells, Pt.slots] at X' e1 e2 h1 h2 h3 st
    subst h1; subst h2; subst h3
    exact Or.inl ⟨v, (T.setVm vm₁).calling g' mk (Value.ref b :: As).toArray, t, U', L, hT, X', hL, e1, e2, hq, st⟩
  · dsimp only [Pt.U, Pt.locs, Pt.cells, Pt.slots] at X' e1 e2 h1 h2 h3 st hcl
    subst h1; subst h2; subst h3
    exact Or.inr ⟨q, (T.setVm vm₁).calling g' mk (Value.ref b :: As).toArray, t, U', L, E, ce, hT, X', hL, e1, e2, hq, hce, hcv, vx_cls hW₁ hcl, st⟩
theorem vx_runSX {hh : List (Nat × Nat × Nat × Nat)} (S : CallFix p m c cc nL s args Ts own) (hM : vx_Met l y ws rm Pc Qc XC mc ms free) (cw : vx_CSW R s args own index y bytes maxL ret hh ws rm mc ms n) (hp : PreS s H Pc As)
    (hg : g.method = m) (hn : As.length = n) (hsize : g.locals.size = nL) (hstack : g.stack = As.reverse ++ rest) (hW : 2 * g.monitorRoom + (rest.map fun v => v.category).sum ≤ 8) (hdg : decode cc g.pc = .ok (.invokestatic index, 3)) (hf : cells + mc ≤ R.cells ∧ slots + ms ≤ R.slots) :
    vx_Run p l e R s m args below meth c H locs cells slots mc ms g rest (Qc As.toArray) XC free := by
  obtain ⟨⟨hrc, hrs, hfr, hlo, hws, hcw⟩, hcode, hini, hy, hlen, hl, hstt⟩ := cw
  have hK : vx_Back l R p e below s args y 3 8 (PreOf R mc ms Pc) (PostOf Qc mc ms free) (vx_Post XC mc ms free) := vx_backW (hh := hh) (bytes := bytes) (maxL := maxL) (ret := ret) hM hp.1 hrc hrs hfr hlo hws hcw (fun a' U hW => word_at hW (Or.inl (by first | rfl | simp [Cond.onTables, Cond.keeps, Cond.steady])) hini)
  obtain ⟨hx, hb, hml, ho, -⟩ := S
  intro T hT X
  rcases vx_callSX X hx (hh := hh) (bytes := bytes) (maxL := maxL) (ret := ret) ho hl hstt hini hcode hy hK hg (hsize.trans hml.symm) (argsL := As) (rest := rest) (fun sig h => hn.trans (hlen sig h)) hstack hW (by rw [hb]; exact hdg)
    (fun vm₁ hW₁ => ⟨hf.1, hf.2, hp.2 (T.setVm vm₁) hT hW₁⟩) with ⟨v, vm₁, ⟨U', l2, c2, s2⟩, hW₁, X', ⟨g', mk, t, L, e1, e2, hq, h1, hL, h2, h3⟩, st⟩ | ⟨q, vm₁, ⟨U', l2, c2, s2⟩, hW₁, X', ⟨g', mk, t, L, E, ce, e1, e2, hq, hce, hcv, hcl, h1, hL, h2, h3⟩, st⟩
  · dsimp only [Pt.U, Pt.locs, Pt.cells, Pt.slots] at X' e1 e2 h1 h2 h3 st
    subst h1; subst h2; subst h3
    exact Or.inl ⟨v, (T.setVm vm₁).calling g' mk As.toArray, t, U', L, hT, X', hL, e1, e2, hq, st⟩
  · dsimp only [Pt.U, Pt.locs, Pt.cells, Pt.slots] at X' e1 e2 h1 h2 h3 st hcl
    subst h1; subst h2; subst h3
    exact Or.inr ⟨q, (T.setVm vm₁).calling g' mk As.toArray, t, U', L, E, ce, hT, X', hL, e1, e2, hq, hce, hcv, vx_cls hW₁ hcl, st⟩
end
end VXH
theorem vx_ofWH {l : Launch} {y : MethodName} {ws ws' : List Cond} {rm : Room} {Pc : Array Value → State → Prop} {Qc : Array Value → State → Outcome → State → Prop} {XC : String → State → State → Prop} {mc ms : Nat} {free : Addr → Prop} {cc : ByteArray} {maxL : Nat} {ret : Option FieldType} {hh : List (Nat × Nat × Nat × Nat)}
    (hy : plainName y.cls = true) (hw : ws = Cond.codeWith y cc maxL ret hh :: ws')
    (body : ∀ p e s m args below meth c s₁, BodyLoose p l y (headSpec ws rm) cc maxL ret e s m args below meth c s₁ → c.maxLocals = maxL → Pc args s →
      W p l e (headSpec ws rm).room s m args below meth c s.heap [] 0 0 (vx_MQ below Qc XC args s mc ms free) (entryFrame m args maxL)) : vx_Met l y ws rm Pc Qc XC mc ms free := by
  refine MetFree.of_bodyS (code := cc) (maxLocals := maxL) (ret := ret) hy ?_ ?_
  · intro args s m h hn
    obtain ⟨m9, meth, c, hn9, h1, h2, h3, h4, -, h5, h6, -⟩ := Cond.codeWith_spec (atoms_spec (ws := ws) h _ (by rw [hw]; exact List.mem_cons_self))
    cases hn.symm.trans hn9
    exact ⟨meth, c, h1, h2, h3, h4, h5, h6⟩
  · intro p e s m args below meth c s₁ B hml hP _
    have hh0 : s₁.heap = s.heap := by rw [B.state]; rfl
    obtain ⟨t, a1, o, b1, b2, b3⟩ := body p e s m args below meth c s₁ B hml hP s₁ hh0 (Stand.of_body B)
    exact ⟨t, o, a1, b1, b2, b3⟩
/-! ===== END ===== -/
end
section
/-! AN ABSTRACT MACHINE OVER HANDLES AND WHOLE NUMBERS. A value: an int, a long (as whole numbers), a reference by its handle (or null), a reference to a cell that nobody writes (by its number). A heap: T (what a handle is: (0,_) nothing, (1,ci) an object, (2,n) int[n], (3,n) byte[n], (4,n) long[n], (5,n) Book[n], (6,n) Closing[n]), FR, AR (references in fields, in arrays), FI, AI (numbers in fields, in arrays). -/
abbrev zVal : Type := Int ⊕ (Int ⊕ (Option Nat ⊕ Nat))
abbrev zI (x : Int) : zVal := Sum.inl x
abbrev zL (x : Int) : zVal := Sum.inr (Sum.inl x)
abbrev zP (r : Option Nat) : zVal := Sum.inr (Sum.inr (Sum.inl r))
abbrev zR (k : Nat) : zVal := Sum.inr (Sum.inr (Sum.inl (some k)))
abbrev zN : zVal := Sum.inr (Sum.inr (Sum.inl none))
abbrev zA (a : Nat) : zVal := Sum.inr (Sum.inr (Sum.inr a))
/-- the numbers of cells that nobody writes lie from here on, among the handles -/
def zb : Nat := 1000000
def zc (ad : Nat → Nat) : zVal → Value
  | .inl x => .int (Int32.ofInt x)
  | .inr (.inl x) => .long (Int64.ofInt x)
  | .inr (.inr (.inl r)) => va_rf (r.map ad)
  | .inr (.inr (.inr a)) => .ref (ad (zb + a))
abbrev zr32 (x : Int) : Prop := -2147483648 ≤ x ∧ x < 2147483648
abbrev zr64 (x : Int) : Prop := -9223372036854775808 ≤ x ∧ x < 9223372036854775808
abbrev zTt : Type := Nat → Nat × Nat
abbrev zFR : Type := Nat → Nat → Option Nat
abbrev zAR : Type := Nat → Int → Option Nat
abbrev zFI : Type := Nat → Nat → Int
abbrev zAI : Type := Nat → Int → Int
def zok (T : zTt) : zVal → Prop
  | .inl x => zr32 x
  | .inr (.inl x) => zr64 x
  | .inr (.inr (.inl r)) => ∀ k, r = some k → (T k).1 ≠ 0
  | .inr (.inr (.inr _)) => True
def zcat : zVal → Nat
  | .inr (.inl _) => 2
  | _ => 1
theorem zcat_ok (ad : Nat → Nat) (v : zVal) : (zc ad v).category = zcat v := by
  rcases v with x | x | r | a
  · rfl
  · rfl
  · cases r <;> rfl
  · rfl
def zty (ci : Nat) : Nat → FieldType := match ci with
  | 0 => tyX1
  | 1 => tyX2
  | 2 => tyX3
  | 3 => tyX4
  | 4 => tyX6
  | 5 => tyX7
  | 6 => tyX8
  | _ => tyX9
def znf (ci : Nat) : Nat := match ci with
  | 0 => 3
  | 1 => 9
  | 2 => 3
  | 3 => 10
  | 4 => 9
  | 5 => 2
  | 6 => 7
  | _ => 25
abbrev zCs : Type := ClassId × ClassId × ClassId × ClassId × ClassId
def zfv (ad : Nat → Nat) (FR : zFR) (FI : zFI) (k j : Nat) (ty : FieldType) : Value := match ty with
  | .int => .int (Int32.ofInt (FI k j))
  | .long => .long (Int64.ofInt (FI k j))
  | _ => va_rf ((FR k j).map ad)
def zE (cs : zCs) (ad : Nat → Nat) (T : zTt) (FR : zFR) (AR : zAR) (FI : zFI) (AI : zAI) (k : Nat) : va_E :=
  if (T k).1 = 1 then .inr ((T k).2, (List.range (znf (T k).2)).map fun j => zfv ad FR FI k j (zty (T k).2 j))
  else if (T k).1 = 2 then .inl (cs.1, (T k).2, .inl fun j => Int32.ofInt (AI k (j : Int)))
  else if (T k).1 = 3 then .inl (cs.2.1, (T k).2, .inl fun j => Int32.ofInt (AI k (j : Int)))
  else if (T k).1 = 4 then .inl (cs.2.2.1, (T k).2, .inr (.inl fun j => Int64.ofInt (AI k (j : Int))))
  else if (T k).1 = 5 then .inl (cs.2.2.2.1, (T k).2, .inr (.inr (.inr (.inr fun j => (AR k (j : Int)).map ad))))
  else .inl (cs.2.2.2.2, (T k).2, .inr (.inr (.inr (.inr fun j => (AR k (j : Int)).map ad))))
def zWd (cs : zCs) (ad : Nat → Nat) (T : zTt) (FR : zFR) (AR : zAR) (FI : zFI) (AI : zAI) (L : List Nat) : va_W := L.map fun k => (ad k, zE cs ad T FR AR FI AI k)
/-- numbers in range, references to what is there -/
def zrg (T : zTt) (FR : zFR) (AR : zAR) (FI : zFI) (AI : zAI) : Prop :=
  (∀ k j, (T k).1 = 1 → if zty (T k).2 j = .long then zr64 (FI k j) else zr32 (FI k j)) ∧ (∀ k i, (T k).1 ≠ 0 → if (T k).1 = 4 then zr64 (AI k i) else zr32 (AI k i)) ∧
  (∀ k j b, (T k).1 ≠ 0 → FR k j = some b → (T b).1 ≠ 0) ∧ (∀ k i b, (T k).1 ≠ 0 → AR k i = some b → (T b).1 ≠ 0)
def zM (A : Nat → Prop) (D : va_G) (cs : zCs) (T0 : zTt) (ad0 ad : Nat → Nat) (T : zTt) (FR : zFR) (AR : zAR) (FI : zFI) (AI : zAI) (H : Heap) : Prop :=
  ∃ L : List Nat, L.Nodup ∧ (∀ k, k ∈ L ↔ (T k).1 ≠ 0) ∧ va_P D vwCl (zWd cs ad T FR AR FI AI L) H ∧ va_D A (zWd cs ad T FR AR FI AI L) ∧ zrg T FR AR FI AI ∧ ((∀ k, (T0 k).1 ≠ 0 → (T k).1 ≠ 0 ∧ ad k = ad0 k) ∧ ∀ i, ad (zb + i) = ad0 (zb + i))
def zlv (ad : Nat → Nat) : Nat → List (Option zVal) → List (Nat × Value)
  | _, [] => []
  | i, none :: r => zlv ad (i + 1) r
  | i, some v :: r => (i, zc ad v) :: zlv ad (i + 1) r
theorem zlv_mem (ad : Nat → Nat) (ls : List (Option zVal)) : ∀ (i : Nat) (q : Nat × Value), q ∈ zlv ad i ls ↔ ∃ (j : Nat) (v : zVal), ls[j]? = some (some v) ∧ q = (i + j, zc ad v) := by
  induction ls with
  | nil => intro i q; simp [zlv]
  | cons a r ih =>
    intro i q
    have key : (∃ (j : Nat) (v : zVal), r[j]? = some (some v) ∧ q = (i + 1 + j, zc ad v)) ↔ ∃ (j : Nat) (v : zVal), (a :: r)[j + 1]? = some (some v) ∧ q = (i + (j + 1), zc ad v) := by
      constructor <;> rintro ⟨j, v, h1, h2⟩ <;> exact ⟨j, v, by simpa using h1, by rw [h2]; congr 1; omega⟩
    cases a with
    | none =>
      rw [zlv, ih]
      rw [key]
      constructor
      · rintro ⟨j, v, h1, h2⟩; exact ⟨j + 1, v, h1, h2⟩
      · rintro ⟨j, v, h1, h2⟩
        cases j with
        | zero => simp at h1
        | succ j => exact ⟨j, v, h1, h2⟩
    | some w =>
      rw [zlv, List.mem_cons, ih, key]
      constructor
      · rintro (h | ⟨j, v, h1, h2⟩)
        · exact ⟨0, w, by simp, by simpa using h⟩
        · exact ⟨j + 1, v, h1, h2⟩
      · rintro ⟨j, v, h1, h2⟩
        cases j with
        | zero => left; simp at h1; subst h1; simpa using h2
        | succ j => right; exact ⟨j, v, h1, h2⟩
abbrev zG : Type := Program × Launch × Env × Room × State × MethodId × Array Value × List Frame × Method × Code × (State → Prop) × (Nat → Prop) × va_G × zCs × zTt × (Nat → Nat)
/-- the machine, at pc with these locals, this stack, this heap, comes to the context's end; k cells of n slots are new so far -/
def zV (G : zG) (pc : Nat) (ls : List (Option zVal)) (st : List zVal) (T : zTt) (FR : zFR) (AR : zAR) (FI : zFI) (AI : zAI) (k n : Nat) : Prop := match G with
  | (p, l, e, R, s, m, args, below, meth, c, Q, A, D, cs, T0, ad0) =>
    ∀ (ad : Nat → Nat) (H : Heap) (locs : List Loc) (lsr : Array Slot), zM A D cs T0 ad0 ad T FR AR FI AI H → va_S A s.heap H locs → lv_has lsr c.maxLocals (zlv ad 0 ls) → (∀ v, some v ∈ ls → zok T v) → (∀ v ∈ st, zok T v) →
      W p l e R s m args below meth c H locs k n Q (F0 m pc lsr (st.map (zc ad)))
abbrev zMd : Type := MethodName × ByteArray × Nat × Option FieldType × Room
abbrev zPost : Type := zVal → zTt → zFR → zAR → zFI → zAI → Prop
/-- the words that every method is given -/
def zWs : List Cond := lw_tbl.filter goodWord
theorem zWs_at {w : Cond} (i : Nat) (h : lw_tbl[i]? = some w) (g : goodWord w = true) : w ∈ zWs := List.mem_filter.mpr ⟨List.mem_of_getElem? h, g⟩
theorem zWs_good : ∀ w ∈ zWs, w ∈ zWs ∧ ((w.onTables && w.keeps) = true ∨ ∃ ty, w = .arrayClass ty) := fun w h => ⟨h, good_of_word (List.mem_filter.mp h).2⟩
def zTys (cs : zCs) : List (ClassId × FieldType) := [(cs.1, .int), (cs.2.1, .byte), (cs.2.2.1, .long), (cs.2.2.2.1, .object "DeferredDesk$Book"), (cs.2.2.2.2, .object "DeferredDesk$Closing")]
/-- what is there from the start, and nobody writes -/
def zZs (sa : Nat → Nat) : List (String × String × String × Value) := [("DeferredDesk$Line", "CARRY", "LDeferredDesk$Line;", .ref (sa 0)), ("DeferredDesk$Line", "OFFICE", "LDeferredDesk$Line;", .ref (sa 1)), ("DeferredDesk$Line", "RATE", "LDeferredDesk$Line;", .ref (sa 2)), ("DeferredDesk$Line", "PROFIT", "LDeferredDesk$Line;", .ref (sa 3)), ("DeferredDesk$Line", "TAXABLE", "LDeferredDesk$Line;", .ref (sa 4)), ("DeferredDesk$Line", "DEDUCTIBLE", "LDeferredDesk$Line;", .ref (sa 5)), ("DeferredDesk$Line", "LOSS", "LDeferredDesk$Line;", .ref (sa 6)), ("DeferredDesk$Line", "ALL", "[LDeferredDesk$Line;", .ref (sa 7)), ("DeferredDesk$1", "$SwitchMap$DeferredDesk$Line", "[I", .ref (sa 8)), ("java/lang/String", "COMPACT_STRINGS", "Z", .int 1)]
end
section
/-! WHAT IS THERE FROM THE START: the seven lines (sa 0 .. 6), their array (sa 7), the switch map (sa 8), the texts (sa 10 ..), their bytes (sa 30 ..), the texts of exceptions (sa 50 ..) -/
def zByt : List (List Int32) := [[99, 97, 114, 114, 121], [111, 102, 102, 105, 99, 101], [114, 97, 116, 101], [112, 114, 111, 102, 105, 116], [116, 97, 120, 97, 98, 108, 101], [100, 101, 100, 117, 99, 116, 105, 98, 108, 101], [108, 111, 115, 115], [78], [82], [79, 89, 82], [79, 89, 83], [79, 83, 70, 76], [79, 83, 70]]
def zSlo : List Nat := [7, 8, 9, 10, 11, 11, 12]
def zSw : List Int32 := [5, 1, 6, 7, 2, 3, 4]
def zNm : List String := ["CARRY", "OFFICE", "RATE", "PROFIT", "TAXABLE", "DEDUCTIBLE", "LOSS"]
def zOFs (sa : Nat → Nat) : List (String × String × String × Value × Nat) := ((List.range 7).flatMap fun i => [("DeferredDesk$Line", "word", "Ljava/lang/String;", Value.ref (sa (10 + i)), sa i), ("DeferredDesk$Line", "slots", "Ljava/lang/String;", Value.ref (sa (10 + zSlo.getD i 0)), sa i), ("java/lang/Enum", "ordinal", "I", Value.int (Int32.ofNat i), sa i)]) ++ ((List.range 13).flatMap fun j => [("java/lang/String", "coder", "B", Value.int 0, sa (10 + j)), ("java/lang/String", "value", "[B", Value.ref (sa (30 + j)), sa (10 + j))])
def zTSs (sa : Nat → Nat) : List (FieldType × Nat × Nat × (Nat → Value)) := [(.object "DeferredDesk$Line", sa 7, 7, fun j => Value.ref (sa j)), (.int, sa 8, 7, fun j => Value.int (zSw.getD j 0))] ++ (List.range 13).map fun j => (.byte, sa (30 + j), (zByt.getD j []).length, fun i => Value.int ((zByt.getD j []).getD i 0))
def zOSs (sa : Nat → Nat) : List (String × Nat) := ((List.range 7).map fun i => ("DeferredDesk$Line", sa i)) ++ (List.range 13).map fun j => ("java/lang/String", sa (10 + j))
def zXs : List (Nat × String) := [(105, "no such item"), (118, "nothing of that kind is told of an item"), (127, "no such loss"), (129, "nothing of that kind is told of a loss")]
def zSio (sa : Nat → Nat) (A : Nat → Prop) (U : State) (H : Heap) : Prop := va_Z "jdk/internal/util/Preconditions" "SIOOBE_FORMATTER" "Ljava/util/function/BiFunction;" .null A U H ∨ va_Z "jdk/internal/util/Preconditions" "SIOOBE_FORMATTER" "Ljava/util/function/BiFunction;" (.ref (sa 9)) A U H
def zSta (sa : Nat → Nat) (A : Nat → Prop) (U : State) (H : Heap) : Prop :=
  ((∀ q ∈ zZs sa, va_Z q.1 q.2.1 q.2.2.1 q.2.2.2 A U H) ∧ (∀ q ∈ zOFs sa, va_OF q.1 q.2.1 q.2.2.1 q.2.2.2.1 q.2.2.2.2 A U H) ∧ (∀ q ∈ zTSs sa, va_T q.1 q.2.1 q.2.2.1 q.2.2.2 A U H) ∧ (∀ q ∈ zOSs sa, va_O q.1 q.2 A U H) ∧
  vx_Zq Bundle.tN "UNASSIGNED_STACK" Bundle.steD A U H ∧ vx_Zq Bundle.tN "SUPPRESSED_SENTINEL" Bundle.listD A U H ∧ zSio sa A U H) ∧ (∀ q ∈ zXs, vk_R "DeferredDesk" q.1 q.2 (sa q.1) U) ∧ (∀ i j, i < 7 → j < 7 → sa i = sa j → i = j)
theorem zSta.moved {sa : Nat → Nat} {A : Nat → Prop} {u U : State} {H : Heap} (hW : u.WarmedH U.vm) (h : zSta sa A u H) : zSta sa A U H := by
  obtain ⟨⟨h1, h2, h3, h4, h5, h6, h9⟩, h7, h8⟩ := h
  exact ⟨⟨fun q hq => va_Z.moved hW.alike (h1 q hq), fun q hq => va_OF.moved hW.alike (h2 q hq), fun q hq => va_T.moved hW.alike (h3 q hq), fun q hq => va_O.moved hW.alike (h4 q hq), vx_Zq.moved hW.alike h5, vx_Zq.moved hW.alike h6, h9.imp (va_Z.moved hW.alike) (va_Z.moved hW.alike)⟩, fun q hq => vk_R.warm hW (h7 q hq), h8⟩
theorem zSta.kept {sa : Nat → Nat} {A : Nat → Prop} {U : State} {H H1 : Heap} (h : zSta sa A U H) (hq : ∀ a : Nat, a < H.size → ¬ A a → H1[a]? = H[a]?) : zSta sa A U H1 := by
  obtain ⟨⟨h1, h2, h3, h4, h5, h6, h9⟩, h7, h8⟩ := h
  exact ⟨⟨fun q h => (h1 q h).kept hq, fun q h => (h2 q h).kept hq, fun q h => (h3 q h).kept hq, fun q h => (h4 q h).kept hq, h5.kept hq, h6.kept hq, h9.imp (fun z => z.kept hq) (fun z => z.kept hq)⟩, h7, h8⟩
theorem zSta.narrow {sa : Nat → Nat} {A B : Nat → Prop} {U : State} {H : Heap} (h : zSta sa A U H) (hAB : ∀ q, B q → A q) : zSta sa B U H := by
  obtain ⟨⟨h1, h2, h3, h4, h5, h6, h9⟩, h7, h8⟩ := h
  exact ⟨⟨fun q h => (h1 q h).narrow hAB, fun q h => (h2 q h).narrow hAB, fun q h => (h3 q h).narrow hAB, fun q h => (h4 q h).narrow hAB, h5.narrow hAB, h6.narrow hAB, h9.imp (fun z => z.narrow hAB) (fun z => z.narrow hAB)⟩, h7, h8⟩
theorem zSta.calling {sa : Nat → Nat} {A : Nat → Prop} {U : State} {H : Heap} {g : JFrame} {mk : MethodId} {a : Array Value} (h : zSta sa A U H) : zSta sa A (U.calling g mk a) H := by
  obtain ⟨⟨h1, h2, h3, h4, h5, h6, h9⟩, h7, h8⟩ := h
  have hv : U.vm.Alike (U.calling g mk a).vm := Vm.Alike.refl U.vm
  exact ⟨⟨fun q hq => va_Z.moved hv (h1 q hq), fun q hq => va_OF.moved hv (h2 q hq), fun q hq => va_T.moved hv (h3 q hq), fun q hq => va_O.moved hv (h4 q hq), vx_Zq.moved hv h5, vx_Zq.moved hv h6, h9.imp (va_Z.moved hv) (va_Z.moved hv)⟩, fun q hq => vk_R.same (u := U) rfl (h7 q hq), h8⟩
/-- what a value that is given back is to the machine -/
def zret (ret : Option FieldType) (ad : Nat → Nat) (r : zVal) : Option Value := match ret with
  | none => none
  | some _ => some (zc ad r)
/-- a method's end -/
def zQ (D : va_G) (cs : zCs) (T0 : zTt) (ad0 : Nat → Nat) (Post : zPost) (ret : Option FieldType) (A : Nat → Prop) : Array Value → State → Outcome → State → Prop := fun _ st oc t =>
  (∃ (r : zVal) (T : zTt) (FR : zFR) (AR : zAR) (FI : zFI) (AI : zAI) (ad : Nat → Nat), oc = .returned (zret ret ad r) ∧ Post r T FR AR FI AI ∧ zM A D cs T0 ad0 ad T FR AR FI AI t.heap ∧ zok T r) ∧ va_F A st t
/-- what is known inside a method -/
def zCx (M : zMd) (Post : zPost) (G : zG) : Prop := match G with
  | (p, l, e, R, s, m, args, below, meth, c, Q, A, D, cs, T0, ad0) =>
    p.tables.exec = Jvm.exec ∧ c.code = M.2.1 ∧ c.maxLocals = M.2.2.1 ∧ meth.sig.returnType = M.2.2.2.1 ∧ meth.locks = false ∧ meth.name = M.1.name ∧ s.vm.findClass M.1.cls = some m.cls ∧ (∀ w ∈ zWs, w.before args s = true) ∧ va_K D vwCl (zTys cs) s ∧
    (∀ q, s.heap.size ≤ q → A q) ∧ R = M.2.2.2.2 ∧ (∀ t, MQ below (zQ D cs T0 ad0 Post M.2.2.2.1 A) args s M.2.2.2.2.cells M.2.2.2.2.slots A t → Q t) ∧ zSta (fun i => ad0 (zb + i)) A s s.heap ∧ l.flags = flags0
def zws (M : zMd) : List Cond := Cond.code M.1 M.2.1 M.2.2.1 M.2.2.2.1 :: zWs
/-- a method's start: its arguments, and the heap -/
def zB (as : List zVal) (D : va_G) (cs : zCs) (ad : Nat → Nat) (L : List Nat) (T : zTt) (FR : zFR) (AR : zAR) (FI : zFI) (AI : zAI) (sz : Nat) (U : State) : Prop :=
  U.heap.size = sz ∧ va_P D vwCl (zWd cs ad T FR AR FI AI L) U.heap ∧ va_K D vwCl (zTys cs) U ∧ zSta (fun i => ad (zb + i)) (va_A (zWd cs ad T FR AR FI AI L) sz) U U.heap
/-- THE CONTRACT of a method on given arguments and a given heap -/
def zMet (M : zMd) (as : List zVal) (T : zTt) (FR : zFR) (AR : zAR) (FI : zFI) (AI : zAI) (Post : zPost) : Prop :=
  ∀ (l : Launch) (D : va_G) (cs : zCs) (ad : Nat → Nat) (L : List Nat) (sz : Nat), l.flags = flags0 → L.Nodup → (∀ k, k ∈ L ↔ (T k).1 ≠ 0) → zrg T FR AR FI AI → va_D (fun _ => True) (zWd cs ad T FR AR FI AI L) → (∀ v ∈ as, zok T v) →
    Met l M.1 (zws M) M.2.2.2.2 (va_Pc (as.map (zc ad)) (zB as D cs ad L T FR AR FI AI sz)) (zQ D cs T ad Post M.2.2.2.1 (va_A (zWd cs ad T FR AR FI AI L) sz)) M.2.2.2.2.cells M.2.2.2.2.slots (va_A (zWd cs ad T FR AR FI AI L) sz)
def zent : List zVal → List (Option zVal)
  | [] => []
  | .inr (.inl x) :: r => some (zL x) :: none :: zent r
  | v :: r => some v :: zent r
end
section
theorem zc_ext {T : zTt} {ad ad' : Nat → Nat} (h : ∀ k, (T k).1 ≠ 0 → ad' k = ad k) (h' : ∀ i, ad' (zb + i) = ad (zb + i)) {v : zVal} (hv : zok T v) : zc ad' v = zc ad v := by
  rcases v with x | x | r | a
  · rfl
  · rfl
  · cases r with
    | none => rfl
    | some k => exact congrArg Value.ref (h k (hv k rfl))
  · exact congrArg Value.ref (h' a)
theorem zlv_ext {T : zTt} {ad ad' : Nat → Nat} (h : ∀ k, (T k).1 ≠ 0 → ad' k = ad k) (h' : ∀ i, ad' (zb + i) = ad (zb + i)) : ∀ (ls : List (Option zVal)) (i : Nat), (∀ v, some v ∈ ls → zok T v) → zlv ad' i ls = zlv ad i ls := by
  intro ls
  induction ls with
  | nil => intro i _; rfl
  | cons a r ih =>
    intro i hv
    have hr : ∀ v, some v ∈ r → zok T v := fun v hm => hv v (List.mem_cons_of_mem _ hm)
    cases a with
    | none => exact ih (i + 1) hr
    | some w =>
      show (i, zc ad' w) :: zlv ad' (i + 1) r = (i, zc ad w) :: zlv ad (i + 1) r
      rw [ih (i + 1) hr, zc_ext h h' (hv w List.mem_cons_self)]
theorem zst_ext {T : zTt} {ad ad' : Nat → Nat} (h : ∀ k, (T k).1 ≠ 0 → ad' k = ad k) (h' : ∀ i, ad' (zb + i) = ad (zb + i)) (st : List zVal) (hv : ∀ v ∈ st, zok T v) : st.map (zc ad') = st.map (zc ad) := List.map_congr_left fun v hm => zc_ext h h' (hv v hm)
theorem zok_ext {T T' : zTt} (h : ∀ k, (T k).1 ≠ 0 → (T' k).1 ≠ 0) {v : zVal} (hv : zok T v) : zok T' v := by
  rcases v with x | x | r | a
  · exact hv
  · exact hv
  · exact fun k hk => h k (hv k hk)
  · trivial
theorem zlv_ent (ad : Nat → Nat) (k : Nat) : ∀ (as : List zVal) (i : Nat), zlv ad i (zent as ++ List.replicate k none) = lv_args i (as.map (zc ad)) := by
  intro as
  induction as with
  | nil =>
    intro i
    show zlv ad i (List.replicate k none) = []
    induction k generalizing i with
    | zero => rfl
    | succ k ih => exact ih (i + 1)
  | cons v r ih =>
    intro i
    rcases v with x | x | q | a
    · exact congrArg (List.cons _) (ih (i + 1))
    · exact congrArg (List.cons _) (ih (i + 2))
    · have hc : (zc ad (zP q)).category = 1 := zcat_ok ad _
      show (i, zc ad (zP q)) :: zlv ad (i + 1) (zent r ++ List.replicate k none) = (i, zc ad (zP q)) :: lv_args (if (zc ad (zP q)).category = 2 then i + 2 else i + 1) (r.map (zc ad))
      rw [hc, if_neg (by decide), ih (i + 1)]
    · exact congrArg (List.cons _) (ih (i + 1))
theorem zent_len (ad : Nat → Nat) : ∀ as : List zVal, (lg_sl (as.map (zc ad))).length = (zent as).length := by
  intro as
  induction as with
  | nil => rfl
  | cons v r ih =>
    have e : lg_sl ((v :: r).map (zc ad)) = (if (zc ad v).category = 2 then [.val (zc ad v), .second] else [.val (zc ad v)]) ++ lg_sl (r.map (zc ad)) := rfl
    rw [e, List.length_append, ih, zcat_ok]
    rcases v with x | x | q | a
    · show 1 + _ = _; simp [zent]; omega
    · show 2 + _ = _; simp [zent]; omega
    · show 1 + _ = _; simp [zent]; omega
    · show 1 + _ = _; simp [zent]; omega
theorem zok_ent {T : zTt} : ∀ (as : List zVal) (k : Nat), (∀ v ∈ as, zok T v) → ∀ v, some v ∈ zent as ++ List.replicate k none → zok T v := by
  intro as
  induction as with
  | nil =>
    intro k _ v hv
    have h1 : some v ∈ List.replicate k (none : Option zVal) := hv
    have := (List.mem_replicate.mp h1).2
    cases this
  | cons w r ih =>
    intro k h v hv
    have hr := ih k (fun v hm => h v (List.mem_cons_of_mem _ hm)) v
    rcases w with x | x | q | a
    · rcases List.mem_cons.mp (show some v ∈ some (zI x) :: (zent r ++ List.replicate k none) from hv) with e | e
      · cases e; exact h _ List.mem_cons_self
      · exact hr e
    · rcases List.mem_cons.mp (show some v ∈ some (zL x) :: none :: (zent r ++ List.replicate k none) from hv) with e | e
      · cases e; exact h _ List.mem_cons_self
      · rcases List.mem_cons.mp e with e | e
        · cases e
        · exact hr e
    · rcases List.mem_cons.mp (show some v ∈ some (zP q) :: (zent r ++ List.replicate k none) from hv) with e | e
      · cases e; exact h _ List.mem_cons_self
      · exact hr e
    · rcases List.mem_cons.mp (show some v ∈ some (zA a) :: (zent r ++ List.replicate k none) from hv) with e | e
      · cases e; exact h _ List.mem_cons_self
      · exact hr e
/-- THE HEAD OF A METHOD -/
theorem zMet.of {M : zMd} {as : List zVal} {T : zTt} {FR : zFR} {AR : zAR} {FI : zFI} {AI : zAI} {Post : zPost} (ls : List (Option zVal)) (hy : plainName M.1.cls = true) (hn : Nat.ble (zent as).length M.2.2.1 = true) (hls : zent as ++ List.replicate (M.2.2.1 - (zent as).length) none = ls)
    (h : ∀ G, zCx M Post G → zV G 0 ls [] T FR AR FI AI 0 0) : zMet M as T FR AR FI AI Post := by
  intro l D cs ad L sz hfl hnd hL hrg hD0 hok
  refine Met.ofW (cc := M.2.1) (maxL := M.2.2.1) (ret := M.2.2.2.1) hy rfl ?_
  intro p e s m args below meth c s₁ B hml hv
  obtain ⟨rfl, hsz, hP, hK, hSt⟩ := hv
  subst hsz
  have hts : ∀ w ∈ zWs, w.before (as.map (zc ad)).toArray s = true := fun w hw => atoms_spec (ws := zws M) B.pre w (List.mem_cons_of_mem _ hw)
  have hA : ∀ q : Nat, s.heap.size ≤ q → va_A (zWd cs ad T FR AR FI AI L) s.heap.size q := fun q h => Or.inr h
  have C : zCx M Post (p, l, e, M.2.2.2.2, s, m, (as.map (zc ad)).toArray, below, meth, c, MQ below (zQ D cs T ad Post M.2.2.2.1 (va_A (zWd cs ad T FR AR FI AI L) s.heap.size)) (as.map (zc ad)).toArray s M.2.2.2.2.cells M.2.2.2.2.slots (va_A (zWd cs ad T FR AR FI AI L) s.heap.size), va_A (zWd cs ad T FR AR FI AI L) s.heap.size, D, cs, T, ad) :=
    ⟨B.exec, B.bytes, hml, B.returns, B.notSynchronized, (name_of_methodNamed B.named B.method).1, findClass_of_methodNamed B.named, hts, hK, hA, rfl, fun t h => h, hSt, hfl⟩
  have hlen := zent_len ad as
  have hl := lv_entry (as.map (zc ad)) (n := M.2.2.1) (by rw [hlen]; exact Nat.le_of_ble_eq_true hn)
  rw [lg_entry_eq]
  rw [← zlv_ent ad (M.2.2.1 - (zent as).length) as 0, hls] at hl
  refine h _ C ad s.heap [] _ ⟨L, hnd, hL, hP, hD0.self, hrg, ⟨fun k hk => ⟨hk, rfl⟩, fun _ => rfl⟩⟩ va_S.rf (by rw [hml]; exact hl) ?_ (fun v hv => nomatch hv)
  intro v hv
  rw [← hls] at hv
  exact zok_ent as _ hok v hv
section ZCall
variable {p : Program} {l : Launch} {e : Env} {R : Room} {s : State} {m : MethodId} {args : Array Value} {below : List Frame} {meth : Method} {c : Code} {H : Heap} {locs : List Loc} {cells slots : Nat} {Q : State → Prop}
theorem zcore_call {D : va_G} {cs : zCs} {T : zTt} {ad : Nat → Nat} {Post : zPost} {ret : Option FieldType} {A A1 : Nat → Prop} {a : Array Value} {mc ms pc : Nat} {lsr : Array Slot} {st0 rest : List Value}
    (hr : va_Run p l e R s m args below meth c H locs cells slots mc ms (F0 m pc lsr st0) rest (zQ D cs T ad Post ret A1 a) A1) (hS : va_S A s.heap H locs) (hA : ∀ q, A1 q → A q)
    (kk : ∀ (r : zVal) (T' : zTt) (FR : zFR) (AR : zAR) (FI : zFI) (AI : zAI) (ad' : Nat → Nat) (H1 : Heap) (locs1 : List Loc), Post r T' FR AR FI AI → zM A1 D cs T ad ad' T' FR AR FI AI H1 → zok T' r → va_S A s.heap H1 locs1 → W p l e R s m args below meth c H1 locs1 (cells + mc) (slots + ms) Q (F0 m (pc + 3) lsr ((zret ret ad' r).toList ++ rest))) :
    W p l e R s m args below meth c H locs cells slots Q (F0 m pc lsr st0) := by
  intro U hU X
  obtain ⟨v, st₀, t, U', L, h0, X', hL, e1, e2, ⟨⟨r, T', FR, AR, FI, AI, ad', hv, hp, hM, ho⟩, hz, hk⟩, st⟩ := hr U hU X
  cases hv
  rw [h0] at hz hk
  obtain ⟨t2, a1, b1⟩ := kk r T' FR AR FI AI ad' U'.heap (locs ++ L) hp (by rw [e1]; exact hM) ho
    ⟨Nat.le_trans hS.1 (by rw [e1]; exact hz), fun q h1 h2 => by rw [e1, hk q (Nat.lt_of_lt_of_le h1 hS.1) (fun z => h2 (hA q z))]; exact hS.2.1 q h1 h2, fun q hq => by
      rcases List.mem_append.mp hq with h | h
      · exact hS.2.2 q h
      · exact hA _ (hL q h)⟩ U' rfl X'
  exact ⟨t2, st t2 a1, b1⟩
end ZCall
theorem zM_up {A A1 : Nat → Prop} {D : va_G} {cs : zCs} {T0 T T' : zTt} {ad0 ad ad' : Nat → Nat} {FR : zFR} {AR : zAR} {FI : zFI} {AI : zAI} {H : Heap} (h : zM A1 D cs T ad ad' T' FR AR FI AI H) (hA : ∀ q, A1 q → A q) (h0 : (∀ k, (T0 k).1 ≠ 0 → (T k).1 ≠ 0 ∧ ad k = ad0 k) ∧ ∀ i, ad (zb + i) = ad0 (zb + i)) : zM A D cs T0 ad0 ad' T' FR AR FI AI H := by
  obtain ⟨L, h1, h2, h3, h4, h5, h6⟩ := h
  refine ⟨L, h1, h2, h3, h4.weaken (fun _ _ _ z => hA _ z), h5, fun k hk => ?_, fun i => (h6.2 i).trans (h0.2 i)⟩
  obtain ⟨a1, a2⟩ := h0.1 k hk
  obtain ⟨b1, b2⟩ := h6.1 k a1
  exact ⟨b1, b2.trans a2⟩
/-- what the tables say of a method that is called -/
def zMk (M : zMd) (n : Nat) : Prop := Cond.code M.1 M.2.1 M.2.2.1 M.2.2.2.1 ∈ zWs ∧ Cond.initialized M.1.cls ∈ zWs ∧ (M.1.cls ≠ "java/lang/invoke/MethodHandle" ∧ M.1.cls ≠ "java/lang/invoke/VarHandle") ∧ (parseMethodDescriptor M.1.desc).map (fun d => d.parameters.length) = some n
theorem zws_pay {M : zMd} {args : Array Value} {s : State} (hk : Cond.code M.1 M.2.1 M.2.2.1 M.2.2.2.1 ∈ zWs) (hts : ∀ w ∈ zWs, w.before args s = true) : ∀ w ∈ zws M, ∀ (a' : Array Value) (U : State), s.WarmedH U.vm → w.before a' U = true := by
  intro w hw a' U hW
  have hin : w ∈ zWs := by
    rcases List.mem_cons.mp hw with e | e
    · rw [e]; exact hk
    · exact e
  exact word_at hW (zWs_good w hin).2 (hts w hin)
/-- the room that a callee asks -/
abbrev zRm (M M' : zMd) : Prop := M'.2.2.2.2.frames + 1 ≤ M.2.2.2.2.frames ∧ 8 + (M'.2.2.1 + 11) + M'.2.2.2.2.locals ≤ M.2.2.2.2.locals
theorem zB_blind {as : List zVal} {D : va_G} {cs : zCs} {ad : Nat → Nat} {L : List Nat} {T : zTt} {FR : zFR} {AR : zAR} {FI : zFI} {AI : zAI} {sz : Nat} : FrameBlind (va_Pc (as.map (zc ad)) (zB as D cs ad L T FR AR FI AI sz)) := by
  intro a U g mk q
  obtain ⟨q0, q1, qP, qK, qS⟩ := q
  exact ⟨q0, q1, qP, va_K.moved (u := U) (U := U.calling g mk a) (Vm.Alike.refl U.vm) qK, qS.calling⟩
theorem zfree {A : Nat → Prop} {ws : va_W} {H0 H : Heap} {locs : List Loc} (hD : va_D A ws) (hS : va_S A H0 H locs) (hA : ∀ q, H0.size ≤ q → A q) : ∀ q, va_A ws H.size q → A q := by
  intro q h
  rcases h with ⟨k, e, h⟩ | h
  · exact hD.2 k (q, e) h
  · exact hA q (Nat.le_trans hS.1 h)
end
section
section ZRows
variable {M : zMd} {Post : zPost} {G : zG} {pc : Nat} {ls : List (Option zVal)} {st : List zVal} {T : zTt} {FR : zFR} {AR : zAR} {FI : zFI} {AI : zAI} {k n : Nat}
theorem zcons {v : zVal} (h : zok T v) (hs : ∀ w ∈ st, zok T w) : ∀ w ∈ v :: st, zok T w := List.forall_mem_cons.mpr ⟨h, hs⟩
theorem zhd {v : zVal} (h : ∀ w ∈ v :: st, zok T w) : zok T v := h v List.mem_cons_self
theorem ztl {v : zVal} (h : ∀ w ∈ v :: st, zok T w) : ∀ w ∈ st, zok T w := fun w hw => h w (List.mem_cons_of_mem _ hw)
theorem z32 {x : Int} (h : zr32 x) : (Int32.ofInt x).toInt = x := Int32.toInt_ofInt_of_le (by have := h.1; omega) (by have := h.2; omega)
theorem z64 {x : Int} (h : zr64 x) : (Int64.ofInt x).toInt = x := Int64.toInt_ofInt_of_le (by have := h.1; omega) (by have := h.2; omega)
theorem z32lt {x y : Int} (hx : zr32 x) (hy : zr32 y) : Int32.ofInt x < Int32.ofInt y ↔ x < y := by rw [Int32.lt_iff_toInt_lt, z32 hx, z32 hy]
theorem z32le {x y : Int} (hx : zr32 x) (hy : zr32 y) : Int32.ofInt x ≤ Int32.ofInt y ↔ x ≤ y := by rw [Int32.le_iff_toInt_le, z32 hx, z32 hy]
theorem z32eq {x y : Int} (hx : zr32 x) (hy : zr32 y) : Int32.ofInt x = Int32.ofInt y ↔ x = y := by rw [← Int32.toInt_inj, z32 hx, z32 hy]
theorem z32z : (0 : Int32) = Int32.ofInt 0 := rfl
theorem zr0 : zr32 0 := ⟨by decide, by decide⟩
theorem zlvat {ad : Nat → Nat} {lsr : Array Slot} {nL i : Nat} {v : zVal} (hl : lv_has lsr nL (zlv ad 0 ls)) (h : ls[i]? = some (some v)) : lsr[i]? = some (.val (zc ad v)) := hl.2.2 (i, zc ad v) ((zlv_mem ad ls 0 _).mpr ⟨i, v, h, by simp⟩)
theorem zlook {v : zVal} {i : Nat} (h1 : ∀ v, some v ∈ ls → zok T v) (h : ls[i]? = some (some v)) : zok T v := h1 v (List.mem_of_getElem? h)
theorem zv_iconst (C : zCx M Post G) {x : Int} (hd : decode M.2.1 pc = .ok (.iconst x, 1)) (hv : decide (zr32 x) = true) (kk : zV G (pc + 1) ls (zI x :: st) T FR AR FI AI k n) : zV G pc ls st T FR AR FI AI k n := by
  obtain ⟨p, l, e, R, s, m, args, below, meth, c, Q, A, D, cs, T0, ad0⟩ := G
  obtain ⟨hx, hb, hml, hr, hlk, hnm, hown, hts, hK, hA, hR, hQ, hSt, hfl⟩ := C
  intro ad H locs lsr hM hS hl h1 h2
  exact lv_iconst hx hb hd rfl (kk ad H locs lsr hM hS hl h1 (zcons (show zr32 x from of_decide_eq_true hv) h2))
theorem zv_bipush (C : zCx M Post G) {x : Int} (hd : decode M.2.1 pc = .ok (.bipush x, 2)) (hv : (decide (zr32 x) && decide ((Int8.ofInt x).toInt32 = Int32.ofInt x)) = true) (kk : zV G (pc + 2) ls (zI x :: st) T FR AR FI AI k n) : zV G pc ls st T FR AR FI AI k n := by
  obtain ⟨p, l, e, R, s, m, args, below, meth, c, Q, A, D, cs, T0, ad0⟩ := G
  obtain ⟨hx, hb, hml, hr, hlk, hnm, hown, hts, hK, hA, hR, hQ, hSt, hfl⟩ := C
  intro ad H locs lsr hM hS hl h1 h2
  rw [Bool.and_eq_true] at hv
  exact lv_bipush hx hb hd (of_decide_eq_true hv.2) (kk ad H locs lsr hM hS hl h1 (zcons (show zr32 x from of_decide_eq_true hv.1) h2))
theorem zv_sipush (C : zCx M Post G) {x : Int} (hd : decode M.2.1 pc = .ok (.sipush x, 3)) (hv : (decide (zr32 x) && decide ((Int16.ofInt x).toInt32 = Int32.ofInt x)) = true) (kk : zV G (pc + 3) ls (zI x :: st) T FR AR FI AI k n) : zV G pc ls st T FR AR FI AI k n := by
  obtain ⟨p, l, e, R, s, m, args, below, meth, c, Q, A, D, cs, T0, ad0⟩ := G
  obtain ⟨hx, hb, hml, hr, hlk, hnm, hown, hts, hK, hA, hR, hQ, hSt, hfl⟩ := C
  intro ad H locs lsr hM hS hl h1 h2
  rw [Bool.and_eq_true] at hv
  exact lv_sipush hx hb hd (of_decide_eq_true hv.2) (kk ad H locs lsr hM hS hl h1 (zcons (show zr32 x from of_decide_eq_true hv.1) h2))
theorem zv_ldc (C : zCx M Post G) {x : Int} {v : Int32} {i : Nat} (hd : decode M.2.1 pc = .ok (.ldc i, 2)) (hw : Cond.constant M.1.cls i v ∈ zWs) (hv : (decide (zr32 x) && decide (v = Int32.ofInt x)) = true) (kk : zV G (pc + 2) ls (zI x :: st) T FR AR FI AI k n) : zV G pc ls st T FR AR FI AI k n := by
  obtain ⟨p, l, e, R, s, m, args, below, meth, c, Q, A, D, cs, T0, ad0⟩ := G
  obtain ⟨hx, hb, hml, hr, hlk, hnm, hown, hts, hK, hA, hR, hQ, hSt, hfl⟩ := C
  intro ad H locs lsr hM hS hl h1 h2
  rw [Bool.and_eq_true] at hv
  have e2 : v = Int32.ofInt x := of_decide_eq_true hv.2
  subst e2
  exact lv_ldc hx hb hown (hts _ hw) hd (kk ad H locs lsr hM hS hl h1 (zcons (show zr32 x from of_decide_eq_true hv.1) h2))
theorem zv_ldc2 (C : zCx M Post G) {x : Int} {v : Int64} {i : Nat} (hd : decode M.2.1 pc = .ok (.ldc2_w i, 3)) (hw : Cond.constantLong M.1.cls i v ∈ zWs) (hv : (decide (zr64 x) && decide (v = Int64.ofInt x)) = true) (kk : zV G (pc + 3) ls (zL x :: st) T FR AR FI AI k n) : zV G pc ls st T FR AR FI AI k n := by
  obtain ⟨p, l, e, R, s, m, args, below, meth, c, Q, A, D, cs, T0, ad0⟩ := G
  obtain ⟨hx, hb, hml, hr, hlk, hnm, hown, hts, hK, hA, hR, hQ, hSt, hfl⟩ := C
  intro ad H locs lsr hM hS hl h1 h2
  rw [Bool.and_eq_true] at hv
  have e2 : v = Int64.ofInt x := of_decide_eq_true hv.2
  subst e2
  exact lv_ldc2 hx hb hown (hts _ hw) hd (kk ad H locs lsr hM hS hl h1 (zcons (show zr64 x from of_decide_eq_true hv.1) h2))
theorem zv_lconst (C : zCx M Post G) {f : Fin 2} {x : Int} (hd : decode M.2.1 pc = .ok (.lconst f, 1)) (hv : (decide (zr64 x) && decide (Int64.ofNat (f : Nat) = Int64.ofInt x)) = true) (kk : zV G (pc + 1) ls (zL x :: st) T FR AR FI AI k n) : zV G pc ls st T FR AR FI AI k n := by
  obtain ⟨p, l, e, R, s, m, args, below, meth, c, Q, A, D, cs, T0, ad0⟩ := G
  obtain ⟨hx, hb, hml, hr, hlk, hnm, hown, hts, hK, hA, hR, hQ, hSt, hfl⟩ := C
  intro ad H locs lsr hM hS hl h1 h2
  rw [Bool.and_eq_true] at hv
  exact lv_lconst hx hb hd (of_decide_eq_true hv.2) (kk ad H locs lsr hM hS hl h1 (zcons (show zr64 x from of_decide_eq_true hv.1) h2))
theorem zv_null (C : zCx M Post G) (hd : decode M.2.1 pc = .ok (.aconst_null, 1)) (kk : zV G (pc + 1) ls (zN :: st) T FR AR FI AI k n) : zV G pc ls st T FR AR FI AI k n := by
  obtain ⟨p, l, e, R, s, m, args, below, meth, c, Q, A, D, cs, T0, ad0⟩ := G
  obtain ⟨hx, hb, hml, hr, hlk, hnm, hown, hts, hK, hA, hR, hQ, hSt, hfl⟩ := C
  intro ad H locs lsr hM hS hl h1 h2
  exact lv_null hx hb hd (kk ad H locs lsr hM hS hl h1 (zcons (fun k h => nomatch h) h2))
theorem zv_iload_n (C : zCx M Post G) {f : Fin 4} {x : Int} (hd : decode M.2.1 pc = .ok (.iload_n f, 1)) (h0 : ls[(f : Nat)]? = some (some (zI x))) (kk : zV G (pc + 1) ls (zI x :: st) T FR AR FI AI k n) : zV G pc ls st T FR AR FI AI k n := by
  obtain ⟨p, l, e, R, s, m, args, below, meth, c, Q, A, D, cs, T0, ad0⟩ := G
  obtain ⟨hx, hb, hml, hr, hlk, hnm, hown, hts, hK, hA, hR, hQ, hSt, hfl⟩ := C
  intro ad H locs lsr hM hS hl h1 h2
  exact lv_iload_n hx hb hd rfl (zlvat hl h0) (kk ad H locs lsr hM hS hl h1 (zcons (zlook h1 h0) h2))
theorem zv_iload (C : zCx M Post G) {i : Nat} {x : Int} (hd : decode M.2.1 pc = .ok (.iload i, 2)) (h0 : ls[i]? = some (some (zI x))) (kk : zV G (pc + 2) ls (zI x :: st) T FR AR FI AI k n) : zV G pc ls st T FR AR FI AI k n := by
  obtain ⟨p, l, e, R, s, m, args, below, meth, c, Q, A, D, cs, T0, ad0⟩ := G
  obtain ⟨hx, hb, hml, hr, hlk, hnm, hown, hts, hK, hA, hR, hQ, hSt, hfl⟩ := C
  intro ad H locs lsr hM hS hl h1 h2
  exact lv_iload hx hb hd (zlvat hl h0) (kk ad H locs lsr hM hS hl h1 (zcons (zlook h1 h0) h2))
theorem zv_lload_n (C : zCx M Post G) {f : Fin 4} {x : Int} (hd : decode M.2.1 pc = .ok (.lload_n f, 1)) (h0 : ls[(f : Nat)]? = some (some (zL x))) (kk : zV G (pc + 1) ls (zL x :: st) T FR AR FI AI k n) : zV G pc ls st T FR AR FI AI k n := by
  obtain ⟨p, l, e, R, s, m, args, below, meth, c, Q, A, D, cs, T0, ad0⟩ := G
  obtain ⟨hx, hb, hml, hr, hlk, hnm, hown, hts, hK, hA, hR, hQ, hSt, hfl⟩ := C
  intro ad H locs lsr hM hS hl h1 h2
  exact lv_lload_n hx hb hd rfl (zlvat hl h0) (kk ad H locs lsr hM hS hl h1 (zcons (zlook h1 h0) h2))
def zrefq : zVal → Bool
  | .inr (.inr _) => true
  | _ => false
theorem zrefq_or (ad : Nat → Nat) {v : zVal} (h : zrefq v = true) : zc ad v = .null ∨ ∃ a, zc ad v = .ref a := by
  rcases v with x | x | r | a
  · cases h
  · cases h
  · cases r with
    | none => exact Or.inl rfl
    | some k => exact Or.inr ⟨_, rfl⟩
  · exact Or.inr ⟨_, rfl⟩
theorem zv_aload_n (C : zCx M Post G) {f : Fin 4} {v : zVal} (hd : decode M.2.1 pc = .ok (.aload_n f, 1)) (h0 : ls[(f : Nat)]? = some (some v)) (hq : zrefq v = true) (kk : zV G (pc + 1) ls (v :: st) T FR AR FI AI k n) : zV G pc ls st T FR AR FI AI k n := by
  obtain ⟨p, l, e, R, s, m, args, below, meth, c, Q, A, D, cs, T0, ad0⟩ := G
  obtain ⟨hx, hb, hml, hr, hlk, hnm, hown, hts, hK, hA, hR, hQ, hSt, hfl⟩ := C
  intro ad H locs lsr hM hS hl h1 h2
  have g := zlvat hl h0
  have kk' := kk ad H locs lsr hM hS hl h1 (zcons (zlook h1 h0) h2)
  rw [List.map_cons] at kk'
  rcases zrefq_or ad hq with e1 | ⟨a, e1⟩
  · rw [e1] at g kk'
    exact lv_aload_nN hx hb hd rfl g kk'
  · rw [e1] at g kk'
    exact lv_aload_n hx hb hd rfl g kk'
theorem zv_aload (C : zCx M Post G) {i : Nat} {v : zVal} (hd : decode M.2.1 pc = .ok (.aload i, 2)) (h0 : ls[i]? = some (some v)) (hq : zrefq v = true) (kk : zV G (pc + 2) ls (v :: st) T FR AR FI AI k n) : zV G pc ls st T FR AR FI AI k n := by
  obtain ⟨p, l, e, R, s, m, args, below, meth, c, Q, A, D, cs, T0, ad0⟩ := G
  obtain ⟨hx, hb, hml, hr, hlk, hnm, hown, hts, hK, hA, hR, hQ, hSt, hfl⟩ := C
  intro ad H locs lsr hM hS hl h1 h2
  have g := zlvat hl h0
  have kk' := kk ad H locs lsr hM hS hl h1 (zcons (zlook h1 h0) h2)
  rw [List.map_cons] at kk'
  rcases zrefq_or ad hq with e1 | ⟨a, e1⟩
  · rw [e1] at g kk'
    exact lv_aloadN hx hb hd g kk'
  · rw [e1] at g kk'
    exact lv_aload hx hb hd g kk'
def znl : Option zVal → Bool
  | some (.inr (.inl _)) => false
  | _ => true
theorem zstore {ad : Nat → Nat} {lsr' : Array Slot} {nL i : Nat} {v : zVal} (hv : zcat v = 1) (hp : ∀ j w, j + 1 = i → ls[j]? = some (some w) → zcat w = 1) (h : lv_has lsr' nL ((i, zc ad v) :: (zlv ad 0 ls).filter (fun q => !(q.1 == i) && !(q.1 + 1 == i && q.2.category == 2)))) : lv_has lsr' nL (zlv ad 0 (ls.set i (some v))) := by
  refine ⟨h.1, h.2.1, fun q hq => h.2.2 q ?_⟩
  obtain ⟨j, w, hj, e⟩ := (zlv_mem ad _ 0 q).mp hq
  subst e
  rw [Nat.zero_add]
  by_cases hji : i = j
  · subst hji
    rw [List.getElem?_set] at hj
    rw [if_pos rfl] at hj
    split at hj
    · cases hj; exact List.mem_cons_self
    · cases hj
  · rw [List.getElem?_set_ne hji] at hj
    refine List.mem_cons_of_mem _ (List.mem_filter.mpr ⟨(zlv_mem ad ls 0 _).mpr ⟨j, w, hj, by simp⟩, ?_⟩)
    have e1 : (j == i) = false := by simp; omega
    have e2 : (j + 1 == i && (zc ad w).category == 2) = false := by
      by_cases h2 : j + 1 = i
      · rw [zcat_ok, hp j w h2 hj]; simp
      · simp [h2]
    simp only [e1, e2]
    rfl
theorem zstore2 {ad : Nat → Nat} {lsr' : Array Slot} {nL i : Nat} {v : zVal} (hp : ∀ j w, j + 1 = i → ls[j]? = some (some w) → zcat w = 1) (h : lv_has lsr' nL ((i, zc ad v) :: (zlv ad 0 ls).filter (fun q => !(q.1 == i) && (!(q.1 == i + 1) && !(q.1 + 1 == i && q.2.category == 2))))) : lv_has lsr' nL (zlv ad 0 ((ls.set i (some v)).set (i + 1) none)) := by
  refine ⟨h.1, h.2.1, fun q hq => h.2.2 q ?_⟩
  obtain ⟨j, w, hj, e⟩ := (zlv_mem ad _ 0 q).mp hq
  subst e
  rw [Nat.zero_add]
  by_cases hj1 : i + 1 = j
  · subst hj1
    rw [List.getElem?_set, if_pos rfl] at hj
    split at hj <;> cases hj
  rw [List.getElem?_set_ne hj1] at hj
  by_cases hji : i = j
  · subst hji
    rw [List.getElem?_set] at hj
    rw [if_pos rfl] at hj
    split at hj
    · cases hj; exact List.mem_cons_self
    · cases hj
  · rw [List.getElem?_set_ne hji] at hj
    refine List.mem_cons_of_mem _ (List.mem_filter.mpr ⟨(zlv_mem ad ls 0 _).mpr ⟨j, w, hj, by simp⟩, ?_⟩)
    have e1 : (j == i) = false := by simp; omega
    have e3 : (j == i + 1) = false := by simp; omega
    have e2 : (j + 1 == i && (zc ad w).category == 2) = false := by
      by_cases h2 : j + 1 = i
      · rw [zcat_ok, hp j w h2 hj]; simp
      · simp [h2]
    simp only [e1, e2, e3]
    rfl
theorem zokset {i : Nat} {v : zVal} (h1 : ∀ v, some v ∈ ls → zok T v) (hv : zok T v) : ∀ w, some w ∈ ls.set i (some v) → zok T w := fun w hw => by
  rcases List.mem_or_eq_of_mem_set hw with h | h
  · exact h1 w h
  · cases h; exact hv
theorem zoksetN {i : Nat} (h1 : ∀ v, some v ∈ ls → zok T v) : ∀ w, some w ∈ ls.set i none → zok T w := fun w hw => by
  rcases List.mem_or_eq_of_mem_set hw with h | h
  · exact h1 w h
  · cases h
def zpl (ls : List (Option zVal)) (i : Nat) : Bool := match i with
  | 0 => true
  | j + 1 => match ls[j]? with
    | some (some v) => zcat v == 1
    | _ => true
theorem zpl_ok {i : Nat} (h : zpl ls i = true) : ∀ j w, j + 1 = i → ls[j]? = some (some w) → zcat w = 1 := fun j w hj hw => by
  subst hj
  simp only [zpl, hw] at h
  exact beq_iff_eq.mp h
theorem zg_istore_n (C : zCx M Post G) {f : Fin 4} {x : Int} (hd : decode M.2.1 pc = .ok (.istore_n f, 1)) (hi : Nat.blt (f : Nat) M.2.2.1 = true) (hp : zpl ls (f : Nat) = true) (kk : zV G (pc + 1) (ls.set (f : Nat) (some (zI x))) st T FR AR FI AI k n) : zV G pc ls (zI x :: st) T FR AR FI AI k n := by
  obtain ⟨p, l, e, R, s, m, args, below, meth, c, Q, A, D, cs, T0, ad0⟩ := G
  obtain ⟨hx, hb, hml, hr, hlk, hnm, hown, hts, hK, hA, hR, hQ, hSt, hfl⟩ := C
  intro ad H locs lsr hM hS hl h1 h2
  refine lv_istore_n hx hb hd rfl hl (by rw [hml]; exact Nat.le_of_ble_eq_true hi) rfl (fun ls' hl' => ?_)
  exact kk ad H locs ls' hM hS (zstore (v := zI x) rfl (zpl_ok hp) hl') (zokset h1 (zhd h2)) (ztl h2)
theorem zg_istore (C : zCx M Post G) {i : Nat} {x : Int} (hd : decode M.2.1 pc = .ok (.istore i, 2)) (hi : Nat.blt i M.2.2.1 = true) (hp : zpl ls i = true) (kk : zV G (pc + 2) (ls.set i (some (zI x))) st T FR AR FI AI k n) : zV G pc ls (zI x :: st) T FR AR FI AI k n := by
  obtain ⟨p, l, e, R, s, m, args, below, meth, c, Q, A, D, cs, T0, ad0⟩ := G
  obtain ⟨hx, hb, hml, hr, hlk, hnm, hown, hts, hK, hA, hR, hQ, hSt, hfl⟩ := C
  intro ad H locs lsr hM hS hl h1 h2
  refine lv_istore hx hb hd hl (by rw [hml]; exact Nat.le_of_ble_eq_true hi) rfl (fun ls' hl' => ?_)
  exact kk ad H locs ls' hM hS (zstore (v := zI x) rfl (zpl_ok hp) hl') (zokset h1 (zhd h2)) (ztl h2)
theorem zg_astore_n (C : zCx M Post G) {f : Fin 4} {v : zVal} (hd : decode M.2.1 pc = .ok (.astore_n f, 1)) (hi : Nat.blt (f : Nat) M.2.2.1 = true) (hp : zpl ls (f : Nat) = true) (hq : zrefq v = true) (kk : zV G (pc + 1) (ls.set (f : Nat) (some v)) st T FR AR FI AI k n) : zV G pc ls (v :: st) T FR AR FI AI k n := by
  obtain ⟨p, l, e, R, s, m, args, below, meth, c, Q, A, D, cs, T0, ad0⟩ := G
  obtain ⟨hx, hb, hml, hr, hlk, hnm, hown, hts, hK, hA, hR, hQ, hSt, hfl⟩ := C
  intro ad H locs lsr hM hS hl h1 h2
  have hc : zcat v = 1 := by rcases v with x | x | r | a <;> first | rfl | cases hq
  have go : ∀ ls', lv_has ls' c.maxLocals (((f : Nat), zc ad v) :: (zlv ad 0 ls).filter (fun q => !(q.1 == (f : Nat)) && !(q.1 + 1 == (f : Nat) && q.2.category == 2))) → W p l e R s m args below meth c H locs k n Q (F0 m (pc + 1) ls' (st.map (zc ad))) := fun ls' hl' => kk ad H locs ls' hM hS (zstore hc (zpl_ok hp) hl') (zokset h1 (zhd h2)) (ztl h2)
  rw [List.map_cons]
  rcases zrefq_or ad hq with e1 | ⟨a, e1⟩
  · rw [e1] at go ⊢
    exact lv_astore_nN hx hb hd rfl hl (by rw [hml]; exact Nat.le_of_ble_eq_true hi) rfl go
  · rw [e1] at go ⊢
    exact lv_astore_n hx hb hd rfl hl (by rw [hml]; exact Nat.le_of_ble_eq_true hi) rfl go
theorem zg_astore (C : zCx M Post G) {i : Nat} {v : zVal} (hd : decode M.2.1 pc = .ok (.astore i, 2)) (hi : Nat.blt i M.2.2.1 = true) (hp : zpl ls i = true) (hq : zrefq v = true) (kk : zV G (pc + 2) (ls.set i (some v)) st T FR AR FI AI k n) : zV G pc ls (v :: st) T FR AR FI AI k n := by
  obtain ⟨p, l, e, R, s, m, args, below, meth, c, Q, A, D, cs, T0, ad0⟩ := G
  obtain ⟨hx, hb, hml, hr, hlk, hnm, hown, hts, hK, hA, hR, hQ, hSt, hfl⟩ := C
  intro ad H locs lsr hM hS hl h1 h2
  have hc : zcat v = 1 := by rcases v with x | x | r | a <;> first | rfl | cases hq
  have go : ∀ ls', lv_has ls' c.maxLocals ((i, zc ad v) :: (zlv ad 0 ls).filter (fun q => !(q.1 == i) && !(q.1 + 1 == i && q.2.category == 2))) → W p l e R s m args below meth c H locs k n Q (F0 m (pc + 2) ls' (st.map (zc ad))) := fun ls' hl' => kk ad H locs ls' hM hS (zstore hc (zpl_ok hp) hl') (zokset h1 (zhd h2)) (ztl h2)
  rw [List.map_cons]
  rcases zrefq_or ad hq with e1 | ⟨a, e1⟩
  · rw [e1] at go ⊢
    exact lv_astoreN hx hb hd hl (by rw [hml]; exact Nat.le_of_ble_eq_true hi) rfl go
  · rw [e1] at go ⊢
    exact lv_astore hx hb hd hl (by rw [hml]; exact Nat.le_of_ble_eq_true hi) rfl go
theorem zg_lstore_n (C : zCx M Post G) {f : Fin 4} {x : Int} (hd : decode M.2.1 pc = .ok (.lstore_n f, 1)) (hi : Nat.blt ((f : Nat) + 1) M.2.2.1 = true) (hp : zpl ls (f : Nat) = true) (kk : zV G (pc + 1) ((ls.set (f : Nat) (some (zL x))).set ((f : Nat) + 1) none) st T FR AR FI AI k n) : zV G pc ls (zL x :: st) T FR AR FI AI k n := by
  obtain ⟨p, l, e, R, s, m, args, below, meth, c, Q, A, D, cs, T0, ad0⟩ := G
  obtain ⟨hx, hb, hml, hr, hlk, hnm, hown, hts, hK, hA, hR, hQ, hSt, hfl⟩ := C
  intro ad H locs lsr hM hS hl h1 h2
  refine lv_lstore_n hx hb hd rfl hl (by rw [hml]; exact Nat.le_of_ble_eq_true hi) rfl (fun ls' hl' => ?_)
  exact kk ad H locs ls' hM hS (zstore2 (v := zL x) (zpl_ok hp) hl') (zoksetN (zokset h1 (zhd h2))) (ztl h2)
theorem zg_iinc (C : zCx M Post G) {i : Nat} {x d : Int} (hd : decode M.2.1 pc = .ok (.iinc i d, 3)) (hi : Nat.blt i M.2.2.1 = true) (hp : zpl ls i = true) (h0 : ls[i]? = some (some (zI x))) (hr0 : zr32 (x + d)) (kk : zV G (pc + 3) (ls.set i (some (zI (x + d)))) st T FR AR FI AI k n) : zV G pc ls st T FR AR FI AI k n := by
  obtain ⟨p, l, e, R, s, m, args, below, meth, c, Q, A, D, cs, T0, ad0⟩ := G
  obtain ⟨hx, hb, hml, hr, hlk, hnm, hown, hts, hK, hA, hR, hQ, hSt, hfl⟩ := C
  intro ad H locs lsr hM hS hl h1 h2
  have hm := (zlv_mem ad ls 0 (i, zc ad (zI x))).mpr ⟨i, _, h0, by simp⟩
  obtain ⟨j, hj⟩ := List.getElem?_of_mem hm
  refine lv_iinc hx hb hd hl (k := j) (v := Int32.ofInt (x + d)) hj (by rw [Int32.ofInt_add]) (by rw [hml]; exact Nat.le_of_ble_eq_true hi) rfl (fun ls' hl' => ?_)
  exact kk ad H locs ls' hM hS (zstore (v := zI (x + d)) rfl (zpl_ok hp) hl') (zokset h1 hr0) h2
theorem zv_istore_0 (C : zCx M Post G) {a0 : Option zVal} {x : Int} (hd : decode M.2.1 pc = .ok (.istore_n (0 : Fin 4), 1)) (hi : Nat.blt 0 M.2.2.1 = true) (kk : zV G (pc + 1) (some (zI x) :: ls) st T FR AR FI AI k n) : zV G pc (a0 :: ls) (zI x :: st) T FR AR FI AI k n := zg_istore_n C hd hi rfl kk
theorem zv_astore_0 (C : zCx M Post G) {a0 : Option zVal} {v : zVal} (hd : decode M.2.1 pc = .ok (.astore_n (0 : Fin 4), 1)) (hi : Nat.blt 0 M.2.2.1 = true) (hq : zrefq v = true) (kk : zV G (pc + 1) (some v :: ls) st T FR AR FI AI k n) : zV G pc (a0 :: ls) (v :: st) T FR AR FI AI k n := zg_astore_n C hd hi rfl hq kk
theorem zv_iinc_0 (C : zCx M Post G) {x d : Int} (hd : decode M.2.1 pc = .ok (.iinc 0 d, 3)) (hi : Nat.blt 0 M.2.2.1 = true) (hr0 : zr32 (x + d)) (kk : zV G (pc + 3) (some (zI (x + d)) :: ls) st T FR AR FI AI k n) : zV G pc (some (zI x) :: ls) st T FR AR FI AI k n := zg_iinc C hd hi rfl rfl hr0 kk
theorem zv_lstore_0 (C : zCx M Post G) {a0 a1 : Option zVal} {x : Int} (hd : decode M.2.1 pc = .ok (.lstore_n (0 : Fin 4), 1)) (hi : Nat.blt (0 + 1) M.2.2.1 = true) (kk : zV G (pc + 1) (some (zL x) :: none :: ls) st T FR AR FI AI k n) : zV G pc (a0 :: a1 :: ls) (zL x :: st) T FR AR FI AI k n := zg_lstore_n C hd hi rfl kk
theorem zv_istore_1 (C : zCx M Post G) {a0 a1 : Option zVal} {x : Int} (hd : decode M.2.1 pc = .ok (.istore_n (1 : Fin 4), 1)) (hi : Nat.blt 1 M.2.2.1 = true) (hp : znl a0 = true) (kk : zV G (pc + 1) (a0 :: some (zI x) :: ls) st T FR AR FI AI k n) : zV G pc (a0 :: a1 :: ls) (zI x :: st) T FR AR FI AI k n := zg_istore_n C hd hi (by cases a0 with | none => rfl | some v => rcases v with x | x | r | a <;> first | rfl | cases hp) kk
theorem zv_astore_1 (C : zCx M Post G) {a0 a1 : Option zVal} {v : zVal} (hd : decode M.2.1 pc = .ok (.astore_n (1 : Fin 4), 1)) (hi : Nat.blt 1 M.2.2.1 = true) (hp : znl a0 = true) (hq : zrefq v = true) (kk : zV G (pc + 1) (a0 :: some v :: ls) st T FR AR FI AI k n) : zV G pc (a0 :: a1 :: ls) (v :: st) T FR AR FI AI k n := zg_astore_n C hd hi (by cases a0 with | none => rfl | some v => rcases v with x | x | r | a <;> first | rfl | cases hp) hq kk
theorem zv_iinc_1 (C : zCx M Post G) {a0 : Option zVal} {x d : Int} (hd : decode M.2.1 pc = .ok (.iinc 1 d, 3)) (hi : Nat.blt 1 M.2.2.1 = true) (hp : znl a0 = true) (hr0 : zr32 (x + d)) (kk : zV G (pc + 3) (a0 :: some (zI (x + d)) :: ls) st T FR AR FI AI k n) : zV G pc (a0 :: some (zI x) :: ls) st T FR AR FI AI k n := zg_iinc C hd hi (by cases a0 with | none => rfl | some v => rcases v with x | x | r | a <;> first | rfl | cases hp) rfl hr0 kk
theorem zv_lstore_1 (C : zCx M Post G) {a0 a1 a2 : Option zVal} {x : Int} (hd : decode M.2.1 pc = .ok (.lstore_n (1 : Fin 4), 1)) (hi : Nat.blt (1 + 1) M.2.2.1 = true) (hp : znl a0 = true) (kk : zV G (pc + 1) (a0 :: some (zL x) :: none :: ls) st T FR AR FI AI k n) : zV G pc (a0 :: a1 :: a2 :: ls) (zL x :: st) T FR AR FI AI k n := zg_lstore_n C hd hi (by cases a0 with | none => rfl | some v => rcases v with x | x | r | a <;> first | rfl | cases hp) kk
theorem zv_istore_2 (C : zCx M Post G) {a0 a1 a2 : Option zVal} {x : Int} (hd : decode M.2.1 pc = .ok (.istore_n (2 : Fin 4), 1)) (hi : Nat.blt 2 M.2.2.1 = true) (hp : znl a1 = true) (kk : zV G (pc + 1) (a0 :: a1 :: some (zI x) :: ls) st T FR AR FI AI k n) : zV G pc (a0 :: a1 :: a2 :: ls) (zI x :: st) T FR AR FI AI k n := zg_istore_n C hd hi (by cases a1 with | none => rfl | some v => rcases v with x | x | r | a <;> first | rfl | cases hp) kk
theorem zv_astore_2 (C : zCx M Post G) {a0 a1 a2 : Option zVal} {v : zVal} (hd : decode M.2.1 pc = .ok (.astore_n (2 : Fin 4), 1)) (hi : Nat.blt 2 M.2.2.1 = true) (hp : znl a1 = true) (hq : zrefq v = true) (kk : zV G (pc + 1) (a0 :: a1 :: some v :: ls) st T FR AR FI AI k n) : zV G pc (a0 :: a1 :: a2 :: ls) (v :: st) T FR AR FI AI k n := zg_astore_n C hd hi (by cases a1 with | none => rfl | some v => rcases v with x | x | r | a <;> first | rfl | cases hp) hq kk
theorem zv_iinc_2 (C : zCx M Post G) {a0 a1 : Option zVal} {x d : Int} (hd : decode M.2.1 pc = .ok (.iinc 2 d, 3)) (hi : Nat.blt 2 M.2.2.1 = true) (hp : znl a1 = true) (hr0 : zr32 (x + d)) (kk : zV G (pc + 3) (a0 :: a1 :: some (zI (x + d)) :: ls) st T FR AR FI AI k n) : zV G pc (a0 :: a1 :: some (zI x) :: ls) st T FR AR FI AI k n := zg_iinc C hd hi (by cases a1 with | none => rfl | some v => rcases v with x | x | r | a <;> first | rfl | cases hp) rfl hr0 kk
theorem zv_lstore_2 (C : zCx M Post G) {a0 a1 a2 a3 : Option zVal} {x : Int} (hd : decode M.2.1 pc = .ok (.lstore_n (2 : Fin 4), 1)) (hi : Nat.blt (2 + 1) M.2.2.1 = true) (hp : znl a1 = true) (kk : zV G (pc + 1) (a0 :: a1 :: some (zL x) :: none :: ls) st T FR AR FI AI k n) : zV G pc (a0 :: a1 :: a2 :: a3 :: ls) (zL x :: st) T FR AR FI AI k n := zg_lstore_n C hd hi (by cases a1 with | none => rfl | some v => rcases v with x | x | r | a <;> first | rfl | cases hp) kk
theorem zv_istore_3 (C : zCx M Post G) {a0 a1 a2 a3 : Option zVal} {x : Int} (hd : decode M.2.1 pc = .ok (.istore_n (3 : Fin 4), 1)) (hi : Nat.blt 3 M.2.2.1 = true) (hp : znl a2 = true) (kk : zV G (pc + 1) (a0 :: a1 :: a2 :: some (zI x) :: ls) st T FR AR FI AI k n) : zV G pc (a0 :: a1 :: a2 :: a3 :: ls) (zI x :: st) T FR AR FI AI k n := zg_istore_n C hd hi (by cases a2 with | none => rfl | some v => rcases v with x | x | r | a <;> first | rfl | cases hp) kk
theorem zv_astore_3 (C : zCx M Post G) {a0 a1 a2 a3 : Option zVal} {v : zVal} (hd : decode M.2.1 pc = .ok (.astore_n (3 : Fin 4), 1)) (hi : Nat.blt 3 M.2.2.1 = true) (hp : znl a2 = true) (hq : zrefq v = true) (kk : zV G (pc + 1) (a0 :: a1 :: a2 :: some v :: ls) st T FR AR FI AI k n) : zV G pc (a0 :: a1 :: a2 :: a3 :: ls) (v :: st) T FR AR FI AI k n := zg_astore_n C hd hi (by cases a2 with | none => rfl | some v => rcases v with x | x | r | a <;> first | rfl | cases hp) hq kk
theorem zv_iinc_3 (C : zCx M Post G) {a0 a1 a2 : Option zVal} {x d : Int} (hd : decode M.2.1 pc = .ok (.iinc 3 d, 3)) (hi : Nat.blt 3 M.2.2.1 = true) (hp : znl a2 = true) (hr0 : zr32 (x + d)) (kk : zV G (pc + 3) (a0 :: a1 :: a2 :: some (zI (x + d)) :: ls) st T FR AR FI AI k n) : zV G pc (a0 :: a1 :: a2 :: some (zI x) :: ls) st T FR AR FI AI k n := zg_iinc C hd hi (by cases a2 with | none => rfl | some v => rcases v with x | x | r | a <;> first | rfl | cases hp) rfl hr0 kk
theorem zv_lstore_3 (C : zCx M Post G) {a0 a1 a2 a3 a4 : Option zVal} {x : Int} (hd : decode M.2.1 pc = .ok (.lstore_n (3 : Fin 4), 1)) (hi : Nat.blt (3 + 1) M.2.2.1 = true) (hp : znl a2 = true) (kk : zV G (pc + 1) (a0 :: a1 :: a2 :: some (zL x) :: none :: ls) st T FR AR FI AI k n) : zV G pc (a0 :: a1 :: a2 :: a3 :: a4 :: ls) (zL x :: st) T FR AR FI AI k n := zg_lstore_n C hd hi (by cases a2 with | none => rfl | some v => rcases v with x | x | r | a <;> first | rfl | cases hp) kk
theorem zv_istore_4 (C : zCx M Post G) {a0 a1 a2 a3 a4 : Option zVal} {x : Int} (hd : decode M.2.1 pc = .ok (.istore 4, 2)) (hi : Nat.blt 4 M.2.2.1 = true) (hp : znl a3 = true) (kk : zV G (pc + 2) (a0 :: a1 :: a2 :: a3 :: some (zI x) :: ls) st T FR AR FI AI k n) : zV G pc (a0 :: a1 :: a2 :: a3 :: a4 :: ls) (zI x :: st) T FR AR FI AI k n := zg_istore C hd hi (by cases a3 with | none => rfl | some v => rcases v with x | x | r | a <;> first | rfl | cases hp) kk
theorem zv_astore_4 (C : zCx M Post G) {a0 a1 a2 a3 a4 : Option zVal} {v : zVal} (hd : decode M.2.1 pc = .ok (.astore 4, 2)) (hi : Nat.blt 4 M.2.2.1 = true) (hp : znl a3 = true) (hq : zrefq v = true) (kk : zV G (pc + 2) (a0 :: a1 :: a2 :: a3 :: some v :: ls) st T FR AR FI AI k n) : zV G pc (a0 :: a1 :: a2 :: a3 :: a4 :: ls) (v :: st) T FR AR FI AI k n := zg_astore C hd hi (by cases a3 with | none => rfl | some v => rcases v with x | x | r | a <;> first | rfl | cases hp) hq kk
theorem zv_iinc_4 (C : zCx M Post G) {a0 a1 a2 a3 : Option zVal} {x d : Int} (hd : decode M.2.1 pc = .ok (.iinc 4 d, 3)) (hi : Nat.blt 4 M.2.2.1 = true) (hp : znl a3 = true) (hr0 : zr32 (x + d)) (kk : zV G (pc + 3) (a0 :: a1 :: a2 :: a3 :: some (zI (x + d)) :: ls) st T FR AR FI AI k n) : zV G pc (a0 :: a1 :: a2 :: a3 :: some (zI x) :: ls) st T FR AR FI AI k n := zg_iinc C hd hi (by cases a3 with | none => rfl | some v => rcases v with x | x | r | a <;> first | rfl | cases hp) rfl hr0 kk
theorem zv_istore_5 (C : zCx M Post G) {a0 a1 a2 a3 a4 a5 : Option zVal} {x : Int} (hd : decode M.2.1 pc = .ok (.istore 5, 2)) (hi : Nat.blt 5 M.2.2.1 = true) (hp : znl a4 = true) (kk : zV G (pc + 2) (a0 :: a1 :: a2 :: a3 :: a4 :: some (zI x) :: ls) st T FR AR FI AI k n) : zV G pc (a0 :: a1 :: a2 :: a3 :: a4 :: a5 :: ls) (zI x :: st) T FR AR FI AI k n := zg_istore C hd hi (by cases a4 with | none => rfl | some v => rcases v with x | x | r | a <;> first | rfl | cases hp) kk
theorem zv_astore_5 (C : zCx M Post G) {a0 a1 a2 a3 a4 a5 : Option zVal} {v : zVal} (hd : decode M.2.1 pc = .ok (.astore 5, 2)) (hi : Nat.blt 5 M.2.2.1 = true) (hp : znl a4 = true) (hq : zrefq v = true) (kk : zV G (pc + 2) (a0 :: a1 :: a2 :: a3 :: a4 :: some v :: ls) st T FR AR FI AI k n) : zV G pc (a0 :: a1 :: a2 :: a3 :: a4 :: a5 :: ls) (v :: st) T FR AR FI AI k n := zg_astore C hd hi (by cases a4 with | none => rfl | some v => rcases v with x | x | r | a <;> first | rfl | cases hp) hq kk
theorem zv_iinc_5 (C : zCx M Post G) {a0 a1 a2 a3 a4 : Option zVal} {x d : Int} (hd : decode M.2.1 pc = .ok (.iinc 5 d, 3)) (hi : Nat.blt 5 M.2.2.1 = true) (hp : znl a4 = true) (hr0 : zr32 (x + d)) (kk : zV G (pc + 3) (a0 :: a1 :: a2 :: a3 :: a4 :: some (zI (x + d)) :: ls) st T FR AR FI AI k n) : zV G pc (a0 :: a1 :: a2 :: a3 :: a4 :: some (zI x) :: ls) st T FR AR FI AI k n := zg_iinc C hd hi (by cases a4 with | none => rfl | some v => rcases v with x | x | r | a <;> first | rfl | cases hp) rfl hr0 kk
theorem zv_istore_6 (C : zCx M Post G) {a0 a1 a2 a3 a4 a5 a6 : Option zVal} {x : Int} (hd : decode M.2.1 pc = .ok (.istore 6, 2)) (hi : Nat.blt 6 M.2.2.1 = true) (hp : znl a5 = true) (kk : zV G (pc + 2) (a0 :: a1 :: a2 :: a3 :: a4 :: a5 :: some (zI x) :: ls) st T FR AR FI AI k n) : zV G pc (a0 :: a1 :: a2 :: a3 :: a4 :: a5 :: a6 :: ls) (zI x :: st) T FR AR FI AI k n := zg_istore C hd hi (by cases a5 with | none => rfl | some v => rcases v with x | x | r | a <;> first | rfl | cases hp) kk
theorem zv_astore_6 (C : zCx M Post G) {a0 a1 a2 a3 a4 a5 a6 : Option zVal} {v : zVal} (hd : decode M.2.1 pc = .ok (.astore 6, 2)) (hi : Nat.blt 6 M.2.2.1 = true) (hp : znl a5 = true) (hq : zrefq v = true) (kk : zV G (pc + 2) (a0 :: a1 :: a2 :: a3 :: a4 :: a5 :: some v :: ls) st T FR AR FI AI k n) : zV G pc (a0 :: a1 :: a2 :: a3 :: a4 :: a5 :: a6 :: ls) (v :: st) T FR AR FI AI k n := zg_astore C hd hi (by cases a5 with | none => rfl | some v => rcases v with x | x | r | a <;> first | rfl | cases hp) hq kk
theorem zv_iinc_6 (C : zCx M Post G) {a0 a1 a2 a3 a4 a5 : Option zVal} {x d : Int} (hd : decode M.2.1 pc = .ok (.iinc 6 d, 3)) (hi : Nat.blt 6 M.2.2.1 = true) (hp : znl a5 = true) (hr0 : zr32 (x + d)) (kk : zV G (pc + 3) (a0 :: a1 :: a2 :: a3 :: a4 :: a5 :: some (zI (x + d)) :: ls) st T FR AR FI AI k n) : zV G pc (a0 :: a1 :: a2 :: a3 :: a4 :: a5 :: some (zI x) :: ls) st T FR AR FI AI k n := zg_iinc C hd hi (by cases a5 with | none => rfl | some v => rcases v with x | x | r | a <;> first | rfl | cases hp) rfl hr0 kk
theorem zv_istore_7 (C : zCx M Post G) {a0 a1 a2 a3 a4 a5 a6 a7 : Option zVal} {x : Int} (hd : decode M.2.1 pc = .ok (.istore 7, 2)) (hi : Nat.blt 7 M.2.2.1 = true) (hp : znl a6 = true) (kk : zV G (pc + 2) (a0 :: a1 :: a2 :: a3 :: a4 :: a5 :: a6 :: some (zI x) :: ls) st T FR AR FI AI k n) : zV G pc (a0 :: a1 :: a2 :: a3 :: a4 :: a5 :: a6 :: a7 :: ls) (zI x :: st) T FR AR FI AI k n := zg_istore C hd hi (by cases a6 with | none => rfl | some v => rcases v with x | x | r | a <;> first | rfl | cases hp) kk
theorem zv_astore_7 (C : zCx M Post G) {a0 a1 a2 a3 a4 a5 a6 a7 : Option zVal} {v : zVal} (hd : decode M.2.1 pc = .ok (.astore 7, 2)) (hi : Nat.blt 7 M.2.2.1 = true) (hp : znl a6 = true) (hq : zrefq v = true) (kk : zV G (pc + 2) (a0 :: a1 :: a2 :: a3 :: a4 :: a5 :: a6 :: some v :: ls) st T FR AR FI AI k n) : zV G pc (a0 :: a1 :: a2 :: a3 :: a4 :: a5 :: a6 :: a7 :: ls) (v :: st) T FR AR FI AI k n := zg_astore C hd hi (by cases a6 with | none => rfl | some v => rcases v with x | x | r | a <;> first | rfl | cases hp) hq kk
theorem zv_iinc_7 (C : zCx M Post G) {a0 a1 a2 a3 a4 a5 a6 : Option zVal} {x d : Int} (hd : decode M.2.1 pc = .ok (.iinc 7 d, 3)) (hi : Nat.blt 7 M.2.2.1 = true) (hp : znl a6 = true) (hr0 : zr32 (x + d)) (kk : zV G (pc + 3) (a0 :: a1 :: a2 :: a3 :: a4 :: a5 :: a6 :: some (zI (x + d)) :: ls) st T FR AR FI AI k n) : zV G pc (a0 :: a1 :: a2 :: a3 :: a4 :: a5 :: a6 :: some (zI x) :: ls) st T FR AR FI AI k n := zg_iinc C hd hi (by cases a6 with | none => rfl | some v => rcases v with x | x | r | a <;> first | rfl | cases hp) rfl hr0 kk
theorem zv_istore_8 (C : zCx M Post G) {a0 a1 a2 a3 a4 a5 a6 a7 a8 : Option zVal} {x : Int} (hd : decode M.2.1 pc = .ok (.istore 8, 2)) (hi : Nat.blt 8 M.2.2.1 = true) (hp : znl a7 = true) (kk : zV G (pc + 2) (a0 :: a1 :: a2 :: a3 :: a4 :: a5 :: a6 :: a7 :: some (zI x) :: ls) st T FR AR FI AI k n) : zV G pc (a0 :: a1 :: a2 :: a3 :: a4 :: a5 :: a6 :: a7 :: a8 :: ls) (zI x :: st) T FR AR FI AI k n := zg_istore C hd hi (by cases a7 with | none => rfl | some v => rcases v with x | x | r | a <;> first | rfl | cases hp) kk
theorem zv_astore_8 (C : zCx M Post G) {a0 a1 a2 a3 a4 a5 a6 a7 a8 : Option zVal} {v : zVal} (hd : decode M.2.1 pc = .ok (.astore 8, 2)) (hi : Nat.blt 8 M.2.2.1 = true) (hp : znl a7 = true) (hq : zrefq v = true) (kk : zV G (pc + 2) (a0 :: a1 :: a2 :: a3 :: a4 :: a5 :: a6 :: a7 :: some v :: ls) st T FR AR FI AI k n) : zV G pc (a0 :: a1 :: a2 :: a3 :: a4 :: a5 :: a6 :: a7 :: a8 :: ls) (v :: st) T FR AR FI AI k n := zg_astore C hd hi (by cases a7 with | none => rfl | some v => rcases v with x | x | r | a <;> first | rfl | cases hp) hq kk
theorem zv_iinc_8 (C : zCx M Post G) {a0 a1 a2 a3 a4 a5 a6 a7 : Option zVal} {x d : Int} (hd : decode M.2.1 pc = .ok (.iinc 8 d, 3)) (hi : Nat.blt 8 M.2.2.1 = true) (hp : znl a7 = true) (hr0 : zr32 (x + d)) (kk : zV G (pc + 3) (a0 :: a1 :: a2 :: a3 :: a4 :: a5 :: a6 :: a7 :: some (zI (x + d)) :: ls) st T FR AR FI AI k n) : zV G pc (a0 :: a1 :: a2 :: a3 :: a4 :: a5 :: a6 :: a7 :: some (zI x) :: ls) st T FR AR FI AI k n := zg_iinc C hd hi (by cases a7 with | none => rfl | some v => rcases v with x | x | r | a <;> first | rfl | cases hp) rfl hr0 kk
theorem zv_istore_9 (C : zCx M Post G) {a0 a1 a2 a3 a4 a5 a6 a7 a8 a9 : Option zVal} {x : Int} (hd : decode M.2.1 pc = .ok (.istore 9, 2)) (hi : Nat.blt 9 M.2.2.1 = true) (hp : znl a8 = true) (kk : zV G (pc + 2) (a0 :: a1 :: a2 :: a3 :: a4 :: a5 :: a6 :: a7 :: a8 :: some (zI x) :: ls) st T FR AR FI AI k n) : zV G pc (a0 :: a1 :: a2 :: a3 :: a4 :: a5 :: a6 :: a7 :: a8 :: a9 :: ls) (zI x :: st) T FR AR FI AI k n := zg_istore C hd hi (by cases a8 with | none => rfl | some v => rcases v with x | x | r | a <;> first | rfl | cases hp) kk
theorem zv_astore_9 (C : zCx M Post G) {a0 a1 a2 a3 a4 a5 a6 a7 a8 a9 : Option zVal} {v : zVal} (hd : decode M.2.1 pc = .ok (.astore 9, 2)) (hi : Nat.blt 9 M.2.2.1 = true) (hp : znl a8 = true) (hq : zrefq v = true) (kk : zV G (pc + 2) (a0 :: a1 :: a2 :: a3 :: a4 :: a5 :: a6 :: a7 :: a8 :: some v :: ls) st T FR AR FI AI k n) : zV G pc (a0 :: a1 :: a2 :: a3 :: a4 :: a5 :: a6 :: a7 :: a8 :: a9 :: ls) (v :: st) T FR AR FI AI k n := zg_astore C hd hi (by cases a8 with | none => rfl | some v => rcases v with x | x | r | a <;> first | rfl | cases hp) hq kk
theorem zv_iinc_9 (C : zCx M Post G) {a0 a1 a2 a3 a4 a5 a6 a7 a8 : Option zVal} {x d : Int} (hd : decode M.2.1 pc = .ok (.iinc 9 d, 3)) (hi : Nat.blt 9 M.2.2.1 = true) (hp : znl a8 = true) (hr0 : zr32 (x + d)) (kk : zV G (pc + 3) (a0 :: a1 :: a2 :: a3 :: a4 :: a5 :: a6 :: a7 :: a8 :: some (zI (x + d)) :: ls) st T FR AR FI AI k n) : zV G pc (a0 :: a1 :: a2 :: a3 :: a4 :: a5 :: a6 :: a7 :: a8 :: some (zI x) :: ls) st T FR AR FI AI k n := zg_iinc C hd hi (by cases a8 with | none => rfl | some v => rcases v with x | x | r | a <;> first | rfl | cases hp) rfl hr0 kk
theorem zv_istore_10 (C : zCx M Post G) {a0 a1 a2 a3 a4 a5 a6 a7 a8 a9 a10 : Option zVal} {x : Int} (hd : decode M.2.1 pc = .ok (.istore 10, 2)) (hi : Nat.blt 10 M.2.2.1 = true) (hp : znl a9 = true) (kk : zV G (pc + 2) (a0 :: a1 :: a2 :: a3 :: a4 :: a5 :: a6 :: a7 :: a8 :: a9 :: some (zI x) :: ls) st T FR AR FI AI k n) : zV G pc (a0 :: a1 :: a2 :: a3 :: a4 :: a5 :: a6 :: a7 :: a8 :: a9 :: a10 :: ls) (zI x :: st) T FR AR FI AI k n := zg_istore C hd hi (by cases a9 with | none => rfl | some v => rcases v with x | x | r | a <;> first | rfl | cases hp) kk
theorem zv_astore_10 (C : zCx M Post G) {a0 a1 a2 a3 a4 a5 a6 a7 a8 a9 a10 : Option zVal} {v : zVal} (hd : decode M.2.1 pc = .ok (.astore 10, 2)) (hi : Nat.blt 10 M.2.2.1 = true) (hp : znl a9 = true) (hq : zrefq v = true) (kk : zV G (pc + 2) (a0 :: a1 :: a2 :: a3 :: a4 :: a5 :: a6 :: a7 :: a8 :: a9 :: some v :: ls) st T FR AR FI AI k n) : zV G pc (a0 :: a1 :: a2 :: a3 :: a4 :: a5 :: a6 :: a7 :: a8 :: a9 :: a10 :: ls) (v :: st) T FR AR FI AI k n := zg_astore C hd hi (by cases a9 with | none => rfl | some v => rcases v with x | x | r | a <;> first | rfl | cases hp) hq kk
theorem zv_iinc_10 (C : zCx M Post G) {a0 a1 a2 a3 a4 a5 a6 a7 a8 a9 : Option zVal} {x d : Int} (hd : decode M.2.1 pc = .ok (.iinc 10 d, 3)) (hi : Nat.blt 10 M.2.2.1 = true) (hp : znl a9 = true) (hr0 : zr32 (x + d)) (kk : zV G (pc + 3) (a0 :: a1 :: a2 :: a3 :: a4 :: a5 :: a6 :: a7 :: a8 :: a9 :: some (zI (x + d)) :: ls) st T FR AR FI AI k n) : zV G pc (a0 :: a1 :: a2 :: a3 :: a4 :: a5 :: a6 :: a7 :: a8 :: a9 :: some (zI x) :: ls) st T FR AR FI AI k n := zg_iinc C hd hi (by cases a9 with | none => rfl | some v => rcases v with x | x | r | a <;> first | rfl | cases hp) rfl hr0 kk
theorem zv_istore_11 (C : zCx M Post G) {a0 a1 a2 a3 a4 a5 a6 a7 a8 a9 a10 a11 : Option zVal} {x : Int} (hd : decode M.2.1 pc = .ok (.istore 11, 2)) (hi : Nat.blt 11 M.2.2.1 = true) (hp : znl a10 = true) (kk : zV G (pc + 2) (a0 :: a1 :: a2 :: a3 :: a4 :: a5 :: a6 :: a7 :: a8 :: a9 :: a10 :: some (zI x) :: ls) st T FR AR FI AI k n) : zV G pc (a0 :: a1 :: a2 :: a3 :: a4 :: a5 :: a6 :: a7 :: a8 :: a9 :: a10 :: a11 :: ls) (zI x :: st) T FR AR FI AI k n := zg_istore C hd hi (by cases a10 with | none => rfl | some v => rcases v with x | x | r | a <;> first | rfl | cases hp) kk
theorem zv_astore_11 (C : zCx M Post G) {a0 a1 a2 a3 a4 a5 a6 a7 a8 a9 a10 a11 : Option zVal} {v : zVal} (hd : decode M.2.1 pc = .ok (.astore 11, 2)) (hi : Nat.blt 11 M.2.2.1 = true) (hp : znl a10 = true) (hq : zrefq v = true) (kk : zV G (pc + 2) (a0 :: a1 :: a2 :: a3 :: a4 :: a5 :: a6 :: a7 :: a8 :: a9 :: a10 :: some v :: ls) st T FR AR FI AI k n) : zV G pc (a0 :: a1 :: a2 :: a3 :: a4 :: a5 :: a6 :: a7 :: a8 :: a9 :: a10 :: a11 :: ls) (v :: st) T FR AR FI AI k n := zg_astore C hd hi (by cases a10 with | none => rfl | some v => rcases v with x | x | r | a <;> first | rfl | cases hp) hq kk
theorem zv_iinc_11 (C : zCx M Post G) {a0 a1 a2 a3 a4 a5 a6 a7 a8 a9 a10 : Option zVal} {x d : Int} (hd : decode M.2.1 pc = .ok (.iinc 11 d, 3)) (hi : Nat.blt 11 M.2.2.1 = true) (hp : znl a10 = true) (hr0 : zr32 (x + d)) (kk : zV G (pc + 3) (a0 :: a1 :: a2 :: a3 :: a4 :: a5 :: a6 :: a7 :: a8 :: a9 :: a10 :: some (zI (x + d)) :: ls) st T FR AR FI AI k n) : zV G pc (a0 :: a1 :: a2 :: a3 :: a4 :: a5 :: a6 :: a7 :: a8 :: a9 :: a10 :: some (zI x) :: ls) st T FR AR FI AI k n := zg_iinc C hd hi (by cases a10 with | none => rfl | some v => rcases v with x | x | r | a <;> first | rfl | cases hp) rfl hr0 kk
theorem zv_istore_12 (C : zCx M Post G) {a0 a1 a2 a3 a4 a5 a6 a7 a8 a9 a10 a11 a12 : Option zVal} {x : Int} (hd : decode M.2.1 pc = .ok (.istore 12, 2)) (hi : Nat.blt 12 M.2.2.1 = true) (hp : znl a11 = true) (kk : zV G (pc + 2) (a0 :: a1 :: a2 :: a3 :: a4 :: a5 :: a6 :: a7 :: a8 :: a9 :: a10 :: a11 :: some (zI x) :: ls) st T FR AR FI AI k n) : zV G pc (a0 :: a1 :: a2 :: a3 :: a4 :: a5 :: a6 :: a7 :: a8 :: a9 :: a10 :: a11 :: a12 :: ls) (zI x :: st) T FR AR FI AI k n := zg_istore C hd hi (by cases a11 with | none => rfl | some v => rcases v with x | x | r | a <;> first | rfl | cases hp) kk
theorem zv_astore_12 (C : zCx M Post G) {a0 a1 a2 a3 a4 a5 a6 a7 a8 a9 a10 a11 a12 : Option zVal} {v : zVal} (hd : decode M.2.1 pc = .ok (.astore 12, 2)) (hi : Nat.blt 12 M.2.2.1 = true) (hp : znl a11 = true) (hq : zrefq v = true) (kk : zV G (pc + 2) (a0 :: a1 :: a2 :: a3 :: a4 :: a5 :: a6 :: a7 :: a8 :: a9 :: a10 :: a11 :: some v :: ls) st T FR AR FI AI k n) : zV G pc (a0 :: a1 :: a2 :: a3 :: a4 :: a5 :: a6 :: a7 :: a8 :: a9 :: a10 :: a11 :: a12 :: ls) (v :: st) T FR AR FI AI k n := zg_astore C hd hi (by cases a11 with | none => rfl | some v => rcases v with x | x | r | a <;> first | rfl | cases hp) hq kk
theorem zv_iinc_12 (C : zCx M Post G) {a0 a1 a2 a3 a4 a5 a6 a7 a8 a9 a10 a11 : Option zVal} {x d : Int} (hd : decode M.2.1 pc = .ok (.iinc 12 d, 3)) (hi : Nat.blt 12 M.2.2.1 = true) (hp : znl a11 = true) (hr0 : zr32 (x + d)) (kk : zV G (pc + 3) (a0 :: a1 :: a2 :: a3 :: a4 :: a5 :: a6 :: a7 :: a8 :: a9 :: a10 :: a11 :: some (zI (x + d)) :: ls) st T FR AR FI AI k n) : zV G pc (a0 :: a1 :: a2 :: a3 :: a4 :: a5 :: a6 :: a7 :: a8 :: a9 :: a10 :: a11 :: some (zI x) :: ls) st T FR AR FI AI k n := zg_iinc C hd hi (by cases a11 with | none => rfl | some v => rcases v with x | x | r | a <;> first | rfl | cases hp) rfl hr0 kk
theorem zv_istore_13 (C : zCx M Post G) {a0 a1 a2 a3 a4 a5 a6 a7 a8 a9 a10 a11 a12 a13 : Option zVal} {x : Int} (hd : decode M.2.1 pc = .ok (.istore 13, 2)) (hi : Nat.blt 13 M.2.2.1 = true) (hp : znl a12 = true) (kk : zV G (pc + 2) (a0 :: a1 :: a2 :: a3 :: a4 :: a5 :: a6 :: a7 :: a8 :: a9 :: a10 :: a11 :: a12 :: some (zI x) :: ls) st T FR AR FI AI k n) : zV G pc (a0 :: a1 :: a2 :: a3 :: a4 :: a5 :: a6 :: a7 :: a8 :: a9 :: a10 :: a11 :: a12 :: a13 :: ls) (zI x :: st) T FR AR FI AI k n := zg_istore C hd hi (by cases a12 with | none => rfl | some v => rcases v with x | x | r | a <;> first | rfl | cases hp) kk
theorem zv_astore_13 (C : zCx M Post G) {a0 a1 a2 a3 a4 a5 a6 a7 a8 a9 a10 a11 a12 a13 : Option zVal} {v : zVal} (hd : decode M.2.1 pc = .ok (.astore 13, 2)) (hi : Nat.blt 13 M.2.2.1 = true) (hp : znl a12 = true) (hq : zrefq v = true) (kk : zV G (pc + 2) (a0 :: a1 :: a2 :: a3 :: a4 :: a5 :: a6 :: a7 :: a8 :: a9 :: a10 :: a11 :: a12 :: some v :: ls) st T FR AR FI AI k n) : zV G pc (a0 :: a1 :: a2 :: a3 :: a4 :: a5 :: a6 :: a7 :: a8 :: a9 :: a10 :: a11 :: a12 :: a13 :: ls) (v :: st) T FR AR FI AI k n := zg_astore C hd hi (by cases a12 with | none => rfl | some v => rcases v with x | x | r | a <;> first | rfl | cases hp) hq kk
theorem zv_iinc_13 (C : zCx M Post G) {a0 a1 a2 a3 a4 a5 a6 a7 a8 a9 a10 a11 a12 : Option zVal} {x d : Int} (hd : decode M.2.1 pc = .ok (.iinc 13 d, 3)) (hi : Nat.blt 13 M.2.2.1 = true) (hp : znl a12 = true) (hr0 : zr32 (x + d)) (kk : zV G (pc + 3) (a0 :: a1 :: a2 :: a3 :: a4 :: a5 :: a6 :: a7 :: a8 :: a9 :: a10 :: a11 :: a12 :: some (zI (x + d)) :: ls) st T FR AR FI AI k n) : zV G pc (a0 :: a1 :: a2 :: a3 :: a4 :: a5 :: a6 :: a7 :: a8 :: a9 :: a10 :: a11 :: a12 :: some (zI x) :: ls) st T FR AR FI AI k n := zg_iinc C hd hi (by cases a12 with | none => rfl | some v => rcases v with x | x | r | a <;> first | rfl | cases hp) rfl hr0 kk
theorem zv_istore_14 (C : zCx M Post G) {a0 a1 a2 a3 a4 a5 a6 a7 a8 a9 a10 a11 a12 a13 a14 : Option zVal} {x : Int} (hd : decode M.2.1 pc = .ok (.istore 14, 2)) (hi : Nat.blt 14 M.2.2.1 = true) (hp : znl a13 = true) (kk : zV G (pc + 2) (a0 :: a1 :: a2 :: a3 :: a4 :: a5 :: a6 :: a7 :: a8 :: a9 :: a10 :: a11 :: a12 :: a13 :: some (zI x) :: ls) st T FR AR FI AI k n) : zV G pc (a0 :: a1 :: a2 :: a3 :: a4 :: a5 :: a6 :: a7 :: a8 :: a9 :: a10 :: a11 :: a12 :: a13 :: a14 :: ls) (zI x :: st) T FR AR FI AI k n := zg_istore C hd hi (by cases a13 with | none => rfl | some v => rcases v with x | x | r | a <;> first | rfl | cases hp) kk
theorem zv_astore_14 (C : zCx M Post G) {a0 a1 a2 a3 a4 a5 a6 a7 a8 a9 a10 a11 a12 a13 a14 : Option zVal} {v : zVal} (hd : decode M.2.1 pc = .ok (.astore 14, 2)) (hi : Nat.blt 14 M.2.2.1 = true) (hp : znl a13 = true) (hq : zrefq v = true) (kk : zV G (pc + 2) (a0 :: a1 :: a2 :: a3 :: a4 :: a5 :: a6 :: a7 :: a8 :: a9 :: a10 :: a11 :: a12 :: a13 :: some v :: ls) st T FR AR FI AI k n) : zV G pc (a0 :: a1 :: a2 :: a3 :: a4 :: a5 :: a6 :: a7 :: a8 :: a9 :: a10 :: a11 :: a12 :: a13 :: a14 :: ls) (v :: st) T FR AR FI AI k n := zg_astore C hd hi (by cases a13 with | none => rfl | some v => rcases v with x | x | r | a <;> first | rfl | cases hp) hq kk
theorem zv_iinc_14 (C : zCx M Post G) {a0 a1 a2 a3 a4 a5 a6 a7 a8 a9 a10 a11 a12 a13 : Option zVal} {x d : Int} (hd : decode M.2.1 pc = .ok (.iinc 14 d, 3)) (hi : Nat.blt 14 M.2.2.1 = true) (hp : znl a13 = true) (hr0 : zr32 (x + d)) (kk : zV G (pc + 3) (a0 :: a1 :: a2 :: a3 :: a4 :: a5 :: a6 :: a7 :: a8 :: a9 :: a10 :: a11 :: a12 :: a13 :: some (zI (x + d)) :: ls) st T FR AR FI AI k n) : zV G pc (a0 :: a1 :: a2 :: a3 :: a4 :: a5 :: a6 :: a7 :: a8 :: a9 :: a10 :: a11 :: a12 :: a13 :: some (zI x) :: ls) st T FR AR FI AI k n := zg_iinc C hd hi (by cases a13 with | none => rfl | some v => rcases v with x | x | r | a <;> first | rfl | cases hp) rfl hr0 kk
theorem zv_iadd (C : zCx M Post G) {x y : Int} (hd : decode M.2.1 pc = .ok (.iadd, 1)) (hr0 : zr32 (x + y)) (kk : zV G (pc + 1) ls (zI (x + y) :: st) T FR AR FI AI k n) : zV G pc ls (zI y :: zI x :: st) T FR AR FI AI k n := by
  obtain ⟨p, l, e, R, s, m, args, below, meth, c, Q, A, D, cs, T0, ad0⟩ := G
  obtain ⟨hx, hb, hml, hr, hlk, hnm, hown, hts, hK, hA, hR, hQ, hSt, hfl⟩ := C
  intro ad H locs lsr hM hS hl h1 h2
  have kk' := kk ad H locs lsr hM hS hl h1 (zcons hr0 (ztl (ztl h2)))
  have e1 : zc ad (zI (x + y)) = .int (Int32.ofInt x + Int32.ofInt y) := by show Value.int _ = _; rw [Int32.ofInt_add]
  rw [List.map_cons, e1] at kk'
  exact lv_iadd hx hb hd kk'
theorem zv_isub (C : zCx M Post G) {x y : Int} (hd : decode M.2.1 pc = .ok (.isub, 1)) (hr0 : zr32 (x - y)) (kk : zV G (pc + 1) ls (zI (x - y) :: st) T FR AR FI AI k n) : zV G pc ls (zI y :: zI x :: st) T FR AR FI AI k n := by
  obtain ⟨p, l, e, R, s, m, args, below, meth, c, Q, A, D, cs, T0, ad0⟩ := G
  obtain ⟨hx, hb, hml, hr, hlk, hnm, hown, hts, hK, hA, hR, hQ, hSt, hfl⟩ := C
  intro ad H locs lsr hM hS hl h1 h2
  have kk' := kk ad H locs lsr hM hS hl h1 (zcons hr0 (ztl (ztl h2)))
  have e1 : zc ad (zI (x - y)) = .int (Int32.ofInt x - Int32.ofInt y) := by show Value.int _ = _; rw [Int32.ofInt_sub]
  rw [List.map_cons, e1] at kk'
  exact lv_isub hx hb hd kk'
theorem zv_imul (C : zCx M Post G) {x y : Int} (hd : decode M.2.1 pc = .ok (.imul, 1)) (hr0 : zr32 (x * y)) (kk : zV G (pc + 1) ls (zI (x * y) :: st) T FR AR FI AI k n) : zV G pc ls (zI y :: zI x :: st) T FR AR FI AI k n := by
  obtain ⟨p, l, e, R, s, m, args, below, meth, c, Q, A, D, cs, T0, ad0⟩ := G
  obtain ⟨hx, hb, hml, hr, hlk, hnm, hown, hts, hK, hA, hR, hQ, hSt, hfl⟩ := C
  intro ad H locs lsr hM hS hl h1 h2
  have kk' := kk ad H locs lsr hM hS hl h1 (zcons hr0 (ztl (ztl h2)))
  have e1 : zc ad (zI (x * y)) = .int (Int32.ofInt x * Int32.ofInt y) := by show Value.int _ = _; rw [Int32.ofInt_mul]
  rw [List.map_cons, e1] at kk'
  exact lv_imul hx hb hd kk'
theorem zv_ladd (C : zCx M Post G) {x y : Int} (hd : decode M.2.1 pc = .ok (.ladd, 1)) (hr0 : zr64 (x + y)) (kk : zV G (pc + 1) ls (zL (x + y) :: st) T FR AR FI AI k n) : zV G pc ls (zL y :: zL x :: st) T FR AR FI AI k n := by
  obtain ⟨p, l, e, R, s, m, args, below, meth, c, Q, A, D, cs, T0, ad0⟩ := G
  obtain ⟨hx, hb, hml, hr, hlk, hnm, hown, hts, hK, hA, hR, hQ, hSt, hfl⟩ := C
  intro ad H locs lsr hM hS hl h1 h2
  have kk' := kk ad H locs lsr hM hS hl h1 (zcons hr0 (ztl (ztl h2)))
  have e1 : zc ad (zL (x + y)) = .long (Int64.ofInt x + Int64.ofInt y) := by show Value.long _ = _; rw [Int64.ofInt_add]
  rw [List.map_cons, e1] at kk'
  exact lv_ladd hx hb hd kk'
theorem zv_lsub (C : zCx M Post G) {x y : Int} (hd : decode M.2.1 pc = .ok (.lsub, 1)) (hr0 : zr64 (x - y)) (kk : zV G (pc + 1) ls (zL (x - y) :: st) T FR AR FI AI k n) : zV G pc ls (zL y :: zL x :: st) T FR AR FI AI k n := by
  obtain ⟨p, l, e, R, s, m, args, below, meth, c, Q, A, D, cs, T0, ad0⟩ := G
  obtain ⟨hx, hb, hml, hr, hlk, hnm, hown, hts, hK, hA, hR, hQ, hSt, hfl⟩ := C
  intro ad H locs lsr hM hS hl h1 h2
  have kk' := kk ad H locs lsr hM hS hl h1 (zcons hr0 (ztl (ztl h2)))
  have e1 : zc ad (zL (x - y)) = .long (Int64.ofInt x - Int64.ofInt y) := by show Value.long _ = _; rw [Int64.ofInt_sub]
  rw [List.map_cons, e1] at kk'
  exact lv_lsub hx hb hd kk'
theorem zv_lmul (C : zCx M Post G) {x y : Int} (hd : decode M.2.1 pc = .ok (.lmul, 1)) (hr0 : zr64 (x * y)) (kk : zV G (pc + 1) ls (zL (x * y) :: st) T FR AR FI AI k n) : zV G pc ls (zL y :: zL x :: st) T FR AR FI AI k n := by
  obtain ⟨p, l, e, R, s, m, args, below, meth, c, Q, A, D, cs, T0, ad0⟩ := G
  obtain ⟨hx, hb, hml, hr, hlk, hnm, hown, hts, hK, hA, hR, hQ, hSt, hfl⟩ := C
  intro ad H locs lsr hM hS hl h1 h2
  have kk' := kk ad H locs lsr hM hS hl h1 (zcons hr0 (ztl (ztl h2)))
  have e1 : zc ad (zL (x * y)) = .long (Int64.ofInt x * Int64.ofInt y) := by show Value.long _ = _; rw [Int64.ofInt_mul]
  rw [List.map_cons, e1] at kk'
  exact lv_lmul hx hb hd kk'
theorem zv_ineg (C : zCx M Post G) {x : Int} (hd : decode M.2.1 pc = .ok (.ineg, 1)) (hr0 : zr32 (-x)) (kk : zV G (pc + 1) ls (zI (-x) :: st) T FR AR FI AI k n) : zV G pc ls (zI x :: st) T FR AR FI AI k n := by
  obtain ⟨p, l, e, R, s, m, args, below, meth, c, Q, A, D, cs, T0, ad0⟩ := G
  obtain ⟨hx, hb, hml, hr, hlk, hnm, hown, hts, hK, hA, hR, hQ, hSt, hfl⟩ := C
  intro ad H locs lsr hM hS hl h1 h2
  have kk' := kk ad H locs lsr hM hS hl h1 (zcons hr0 (ztl h2))
  have e1 : zc ad (zI (-x)) = .int (-Int32.ofInt x) := by show Value.int _ = _; rw [Int32.ofInt_neg]
  rw [List.map_cons, e1] at kk'
  exact lv_ineg hx hb hd kk'
theorem zdiv32 {x y : Int} (hx : zr32 x) (hy : zr32 y) (h0 : 0 ≤ x) (h1 : 0 < y) : Int32.ofInt x / Int32.ofInt y = Int32.ofInt (x / y) ∧ zr32 (x / y) := by
  have hq : x.tdiv y = x / y := Int.tdiv_eq_ediv_of_nonneg h0
  have hb1 : 0 ≤ x / y := Int.ediv_nonneg h0 (by omega)
  have hb2 : x / y ≤ x := Int.ediv_le_self y h0
  have hr : zr32 (x / y) := ⟨by omega, by have := hx.2; omega⟩
  refine ⟨?_, hr⟩
  rw [← Int32.toInt_inj, z32 hr, Int32.toInt_div, z32 hx, z32 hy, hq]
  exact Int.bmod_eq_of_le (by have := hr.1; omega) (by have := hr.2; omega)
theorem zdiv64 {x y : Int} (hx : zr64 x) (hy : zr64 y) (h0 : 0 ≤ x) (h1 : 0 < y) : Int64.ofInt x / Int64.ofInt y = Int64.ofInt (x / y) ∧ zr64 (x / y) := by
  have hq : x.tdiv y = x / y := Int.tdiv_eq_ediv_of_nonneg h0
  have hb1 : 0 ≤ x / y := Int.ediv_nonneg h0 (by omega)
  have hb2 : x / y ≤ x := Int.ediv_le_self y h0
  have hr : zr64 (x / y) := ⟨by omega, by have := hx.2; omega⟩
  refine ⟨?_, hr⟩
  rw [← Int64.toInt_inj, z64 hr, Int64.toInt_div, z64 hx, z64 hy, hq]
  exact Int.bmod_eq_of_le (by have := hr.1; omega) (by have := hr.2; omega)
theorem zv_idiv (C : zCx M Post G) {x y : Int} (hd : decode M.2.1 pc = .ok (.idiv, 1)) (hx0 : 0 ≤ x) (hy0 : 0 < y) (kk : zV G (pc + 1) ls (zI (x / y) :: st) T FR AR FI AI k n) : zV G pc ls (zI y :: zI x :: st) T FR AR FI AI k n := by
  obtain ⟨p, l, e, R, s, m, args, below, meth, c, Q, A, D, cs, T0, ad0⟩ := G
  obtain ⟨hx, hb, hml, hr, hlk, hnm, hown, hts, hK, hA, hR, hQ, hSt, hfl⟩ := C
  intro ad H locs lsr hM hS hl h1 h2
  obtain ⟨e1, e2⟩ := zdiv32 (zhd (ztl h2)) (zhd h2) hx0 hy0
  have kk' := kk ad H locs lsr hM hS hl h1 (zcons e2 (ztl (ztl h2)))
  rw [List.map_cons, show zc ad (zI (x / y)) = .int (Int32.ofInt x / Int32.ofInt y) from by rw [e1]; rfl] at kk'
  refine lv_idiv hx hb hd (fun z => ?_) kk'
  rw [z32z, z32eq (zhd h2) zr0] at z
  omega
theorem zv_ldiv (C : zCx M Post G) {x y : Int} (hd : decode M.2.1 pc = .ok (.ldiv, 1)) (hx0 : 0 ≤ x) (hy0 : 0 < y) (kk : zV G (pc + 1) ls (zL (x / y) :: st) T FR AR FI AI k n) : zV G pc ls (zL y :: zL x :: st) T FR AR FI AI k n := by
  obtain ⟨p, l, e, R, s, m, args, below, meth, c, Q, A, D, cs, T0, ad0⟩ := G
  obtain ⟨hx, hb, hml, hr, hlk, hnm, hown, hts, hK, hA, hR, hQ, hSt, hfl⟩ := C
  intro ad H locs lsr hM hS hl h1 h2
  obtain ⟨e1, e2⟩ := zdiv64 (zhd (ztl h2)) (zhd h2) hx0 hy0
  have kk' := kk ad H locs lsr hM hS hl h1 (zcons e2 (ztl (ztl h2)))
  rw [List.map_cons, show zc ad (zL (x / y)) = .long (Int64.ofInt x / Int64.ofInt y) from by rw [e1]; rfl] at kk'
  refine lv_ldiv hx hb hd (fun z => ?_) kk'
  have z2 := congrArg Int64.toInt z
  rw [z64 (zhd h2)] at z2
  have z3 : (0 : Int64).toInt = 0 := rfl
  rw [z3] at z2
  omega
theorem zv_irem (C : zCx M Post G) {x y : Int} (hd : decode M.2.1 pc = .ok (.irem, 1)) (hx0 : 0 ≤ x) (hy0 : 0 < y) (kk : zV G (pc + 1) ls (zI (x % y) :: st) T FR AR FI AI k n) : zV G pc ls (zI y :: zI x :: st) T FR AR FI AI k n := by
  obtain ⟨p, l, e, R, s, m, args, below, meth, c, Q, A, D, cs, T0, ad0⟩ := G
  obtain ⟨hx, hb, hml, hr, hlk, hnm, hown, hts, hK, hA, hR, hQ, hSt, hfl⟩ := C
  intro ad H locs lsr hM hS hl h1 h2
  obtain ⟨e1, e2⟩ := zdiv32 (zhd (ztl h2)) (zhd h2) hx0 hy0
  have hb1 := Int.emod_nonneg x (show y ≠ 0 by omega)
  have hb2 := Int.emod_lt_of_pos x hy0
  have hy2 : zr32 y := zhd h2
  have kk' := kk ad H locs lsr hM hS hl h1 (zcons (show zr32 (x % y) from ⟨by omega, by have := hy2.2; omega⟩) (ztl (ztl h2)))
  have e3 : Int32.ofInt (x % y) = Int32.ofInt x - Int32.ofInt x / Int32.ofInt y * Int32.ofInt y := by
    rw [e1, ← Int32.ofInt_mul, ← Int32.ofInt_sub]
    congr 1
    rw [Int.emod_def, Int.mul_comm]
  rw [List.map_cons, show zc ad (zI (x % y)) = .int (Int32.ofInt x - Int32.ofInt x / Int32.ofInt y * Int32.ofInt y) from by rw [← e3]; rfl] at kk'
  refine lv_irem hx hb hd (fun z => ?_) kk'
  rw [z32z, z32eq (zhd h2) zr0] at z
  omega
theorem zv_i2l (C : zCx M Post G) {x : Int} (hd : decode M.2.1 pc = .ok (.i2l, 1)) (kk : zV G (pc + 1) ls (zL x :: st) T FR AR FI AI k n) : zV G pc ls (zI x :: st) T FR AR FI AI k n := by
  obtain ⟨p, l, e, R, s, m, args, below, meth, c, Q, A, D, cs, T0, ad0⟩ := G
  obtain ⟨hx, hb, hml, hr, hlk, hnm, hown, hts, hK, hA, hR, hQ, hSt, hfl⟩ := C
  intro ad H locs lsr hM hS hl h1 h2
  have hx3 : zr32 x := zhd h2
  have h64 : zr64 x := ⟨by have := hx3.1; omega, by have := hx3.2; omega⟩
  have e1 : (Int32.ofInt x).toInt64 = Int64.ofInt x := by rw [← Int64.toInt_inj, Int32.toInt_toInt64, z32 hx3, z64 h64]
  exact lv_i2l hx hb hd e1 (kk ad H locs lsr hM hS hl h1 (zcons h64 (ztl h2)))
theorem zv_l2i (C : zCx M Post G) {x : Int} (hd : decode M.2.1 pc = .ok (.l2i, 1)) (hr0 : zr32 x) (kk : zV G (pc + 1) ls (zI x :: st) T FR AR FI AI k n) : zV G pc ls (zL x :: st) T FR AR FI AI k n := by
  obtain ⟨p, l, e, R, s, m, args, below, meth, c, Q, A, D, cs, T0, ad0⟩ := G
  obtain ⟨hx, hb, hml, hr, hlk, hnm, hown, hts, hK, hA, hR, hQ, hSt, hfl⟩ := C
  intro ad H locs lsr hM hS hl h1 h2
  have e1 : (Int64.ofInt x).toInt32 = Int32.ofInt x := by simp
  exact lv_l2i hx hb hd e1 (kk ad H locs lsr hM hS hl h1 (zcons hr0 (ztl h2)))
theorem zv_i2b (C : zCx M Post G) {x : Int} (hd : decode M.2.1 pc = .ok (.i2b, 1)) (kk : zV G (pc + 1) ls (zI (Int.bmod x 256) :: st) T FR AR FI AI k n) : zV G pc ls (zI x :: st) T FR AR FI AI k n := by
  obtain ⟨p, l, e, R, s, m, args, below, meth, c, Q, A, D, cs, T0, ad0⟩ := G
  obtain ⟨hx, hb, hml, hr, hlk, hnm, hown, hts, hK, hA, hR, hQ, hSt, hfl⟩ := C
  intro ad H locs lsr hM hS hl h1 h2
  have hb1 : -128 ≤ Int.bmod x 256 := by have := @Int.le_bmod x 256 (by decide); omega
  have hb2 : Int.bmod x 256 < 128 := by have := @Int.bmod_lt x 256 (by decide); omega
  have hr2 : zr32 (Int.bmod x 256) := ⟨by omega, by omega⟩
  have e1 : (Int32.ofInt x).toInt8.toInt32 = Int32.ofInt (Int.bmod x 256) := by
    rw [← Int32.toInt_inj, z32 hr2]
    have hx3 : zr32 x := zhd h2
    simp [z32 hx3]
  exact lv_i2b hx hb hd e1 (kk ad H locs lsr hM hS hl h1 (zcons hr2 (ztl h2)))
theorem zv_icmp_lt (C : zCx M Post G) {x y off : Int} (tgt : Nat) (hd : decode M.2.1 pc = .ok (.if_icmp .lt off, 3)) (ht : (pc : Int) + off = (tgt : Int)) (kt : x < y → zV G tgt ls st T FR AR FI AI k n) (kf : ¬ x < y → zV G (pc + 3) ls st T FR AR FI AI k n) : zV G pc ls (zI y :: zI x :: st) T FR AR FI AI k n := by
  obtain ⟨p, l, e, R, s, m, args, below, meth, c, Q, A, D, cs, T0, ad0⟩ := G
  obtain ⟨hx, hb, hml, hr, hlk, hnm, hown, hts, hK, hA, hR, hQ, hSt, hfl⟩ := C
  intro ad H locs lsr hM hS hl h1 h2
  have hi := (z32lt (zhd (ztl h2)) (zhd h2))
  refine lv_icmp_lt (tgt := tgt) hx hb hd ht (fun z => ?_) (fun z => ?_)
  · exact kt (by first | exact hi.mp z | exact fun w => z (hi.mpr w)) ad H locs lsr hM hS hl h1 (ztl (ztl h2))
  · exact kf (by first | exact fun w => z (hi.mpr w) | exact hi.mp z) ad H locs lsr hM hS hl h1 (ztl (ztl h2))
theorem zv_icmp_ge (C : zCx M Post G) {x y off : Int} (tgt : Nat) (hd : decode M.2.1 pc = .ok (.if_icmp .ge off, 3)) (ht : (pc : Int) + off = (tgt : Int)) (kt : y ≤ x → zV G tgt ls st T FR AR FI AI k n) (kf : ¬ y ≤ x → zV G (pc + 3) ls st T FR AR FI AI k n) : zV G pc ls (zI y :: zI x :: st) T FR AR FI AI k n := by
  obtain ⟨p, l, e, R, s, m, args, below, meth, c, Q, A, D, cs, T0, ad0⟩ := G
  obtain ⟨hx, hb, hml, hr, hlk, hnm, hown, hts, hK, hA, hR, hQ, hSt, hfl⟩ := C
  intro ad H locs lsr hM hS hl h1 h2
  have hi := (z32le (zhd h2) (zhd (ztl h2)))
  refine lv_icmp_ge (tgt := tgt) hx hb hd ht (fun z => ?_) (fun z => ?_)
  · exact kt (by first | exact hi.mp z | exact fun w => z (hi.mpr w)) ad H locs lsr hM hS hl h1 (ztl (ztl h2))
  · exact kf (by first | exact fun w => z (hi.mpr w) | exact hi.mp z) ad H locs lsr hM hS hl h1 (ztl (ztl h2))
theorem zv_icmp_gt (C : zCx M Post G) {x y off : Int} (tgt : Nat) (hd : decode M.2.1 pc = .ok (.if_icmp .gt off, 3)) (ht : (pc : Int) + off = (tgt : Int)) (kt : y < x → zV G tgt ls st T FR AR FI AI k n) (kf : ¬ y < x → zV G (pc + 3) ls st T FR AR FI AI k n) : zV G pc ls (zI y :: zI x :: st) T FR AR FI AI k n := by
  obtain ⟨p, l, e, R, s, m, args, below, meth, c, Q, A, D, cs, T0, ad0⟩ := G
  obtain ⟨hx, hb, hml, hr, hlk, hnm, hown, hts, hK, hA, hR, hQ, hSt, hfl⟩ := C
  intro ad H locs lsr hM hS hl h1 h2
  have hi := (z32lt (zhd h2) (zhd (ztl h2)))
  refine lv_icmp_gt (tgt := tgt) hx hb hd ht (fun z => ?_) (fun z => ?_)
  · exact kt (by first | exact hi.mp z | exact fun w => z (hi.mpr w)) ad H locs lsr hM hS hl h1 (ztl (ztl h2))
  · exact kf (by first | exact fun w => z (hi.mpr w) | exact hi.mp z) ad H locs lsr hM hS hl h1 (ztl (ztl h2))
theorem zv_icmp_le (C : zCx M Post G) {x y off : Int} (tgt : Nat) (hd : decode M.2.1 pc = .ok (.if_icmp .le off, 3)) (ht : (pc : Int) + off = (tgt : Int)) (kt : x ≤ y → zV G tgt ls st T FR AR FI AI k n) (kf : ¬ x ≤ y → zV G (pc + 3) ls st T FR AR FI AI k n) : zV G pc ls (zI y :: zI x :: st) T FR AR FI AI k n := by
  obtain ⟨p, l, e, R, s, m, args, below, meth, c, Q, A, D, cs, T0, ad0⟩ := G
  obtain ⟨hx, hb, hml, hr, hlk, hnm, hown, hts, hK, hA, hR, hQ, hSt, hfl⟩ := C
  intro ad H locs lsr hM hS hl h1 h2
  have hi := (z32le (zhd (ztl h2)) (zhd h2))
  refine lv_icmp_le (tgt := tgt) hx hb hd ht (fun z => ?_) (fun z => ?_)
  · exact kt (by first | exact hi.mp z | exact fun w => z (hi.mpr w)) ad H locs lsr hM hS hl h1 (ztl (ztl h2))
  · exact kf (by first | exact fun w => z (hi.mpr w) | exact hi.mp z) ad H locs lsr hM hS hl h1 (ztl (ztl h2))
theorem zv_icmp_eq (C : zCx M Post G) {x y off : Int} (tgt : Nat) (hd : decode M.2.1 pc = .ok (.if_icmp .eq off, 3)) (ht : (pc : Int) + off = (tgt : Int)) (kt : x = y → zV G tgt ls st T FR AR FI AI k n) (kf : ¬ x = y → zV G (pc + 3) ls st T FR AR FI AI k n) : zV G pc ls (zI y :: zI x :: st) T FR AR FI AI k n := by
  obtain ⟨p, l, e, R, s, m, args, below, meth, c, Q, A, D, cs, T0, ad0⟩ := G
  obtain ⟨hx, hb, hml, hr, hlk, hnm, hown, hts, hK, hA, hR, hQ, hSt, hfl⟩ := C
  intro ad H locs lsr hM hS hl h1 h2
  have hi := (z32eq (zhd (ztl h2)) (zhd h2))
  refine lv_icmp_eq (tgt := tgt) hx hb hd ht (fun z => ?_) (fun z => ?_)
  · exact kt (by first | exact hi.mp z | exact fun w => z (hi.mpr w)) ad H locs lsr hM hS hl h1 (ztl (ztl h2))
  · exact kf (by first | exact fun w => z (hi.mpr w) | exact hi.mp z) ad H locs lsr hM hS hl h1 (ztl (ztl h2))
theorem zv_icmp_ne (C : zCx M Post G) {x y off : Int} (tgt : Nat) (hd : decode M.2.1 pc = .ok (.if_icmp .ne off, 3)) (ht : (pc : Int) + off = (tgt : Int)) (kt : ¬ x = y → zV G tgt ls st T FR AR FI AI k n) (kf : x = y → zV G (pc + 3) ls st T FR AR FI AI k n) : zV G pc ls (zI y :: zI x :: st) T FR AR FI AI k n := by
  obtain ⟨p, l, e, R, s, m, args, below, meth, c, Q, A, D, cs, T0, ad0⟩ := G
  obtain ⟨hx, hb, hml, hr, hlk, hnm, hown, hts, hK, hA, hR, hQ, hSt, hfl⟩ := C
  intro ad H locs lsr hM hS hl h1 h2
  have hi := (z32eq (zhd (ztl h2)) (zhd h2))
  refine lv_icmp_ne (tgt := tgt) hx hb hd ht (fun z => ?_) (fun z => ?_)
  · exact kt (by first | exact hi.mp z | exact fun w => z (hi.mpr w)) ad H locs lsr hM hS hl h1 (ztl (ztl h2))
  · exact kf (by first | exact fun w => z (hi.mpr w) | exact hi.mp z) ad H locs lsr hM hS hl h1 (ztl (ztl h2))
theorem zv_if_lt (C : zCx M Post G) {x off : Int} (tgt : Nat) (hd : decode M.2.1 pc = .ok (.ifCond .lt off, 3)) (ht : (pc : Int) + off = (tgt : Int)) (kt : x < 0 → zV G tgt ls st T FR AR FI AI k n) (kf : ¬ x < 0 → zV G (pc + 3) ls st T FR AR FI AI k n) : zV G pc ls (zI x :: st) T FR AR FI AI k n := by
  obtain ⟨p, l, e, R, s, m, args, below, meth, c, Q, A, D, cs, T0, ad0⟩ := G
  obtain ⟨hx, hb, hml, hr, hlk, hnm, hown, hts, hK, hA, hR, hQ, hSt, hfl⟩ := C
  intro ad H locs lsr hM hS hl h1 h2
  have hi := (z32lt (zhd h2) zr0)
  refine lv_if_lt (tgt := tgt) hx hb hd ht (fun z => ?_) (fun z => ?_)
  · exact kt (by first | exact hi.mp z | exact fun w => z (hi.mpr w)) ad H locs lsr hM hS hl h1 (ztl h2)
  · exact kf (by first | exact fun w => z (hi.mpr w) | exact hi.mp z) ad H locs lsr hM hS hl h1 (ztl h2)
theorem zv_if_ge (C : zCx M Post G) {x off : Int} (tgt : Nat) (hd : decode M.2.1 pc = .ok (.ifCond .ge off, 3)) (ht : (pc : Int) + off = (tgt : Int)) (kt : 0 ≤ x → zV G tgt ls st T FR AR FI AI k n) (kf : ¬ 0 ≤ x → zV G (pc + 3) ls st T FR AR FI AI k n) : zV G pc ls (zI x :: st) T FR AR FI AI k n := by
  obtain ⟨p, l, e, R, s, m, args, below, meth, c, Q, A, D, cs, T0, ad0⟩ := G
  obtain ⟨hx, hb, hml, hr, hlk, hnm, hown, hts, hK, hA, hR, hQ, hSt, hfl⟩ := C
  intro ad H locs lsr hM hS hl h1 h2
  have hi := (z32le zr0 (zhd h2))
  refine lv_if_ge (tgt := tgt) hx hb hd ht (fun z => ?_) (fun z => ?_)
  · exact kt (by first | exact hi.mp z | exact fun w => z (hi.mpr w)) ad H locs lsr hM hS hl h1 (ztl h2)
  · exact kf (by first | exact fun w => z (hi.mpr w) | exact hi.mp z) ad H locs lsr hM hS hl h1 (ztl h2)
theorem zv_if_gt (C : zCx M Post G) {x off : Int} (tgt : Nat) (hd : decode M.2.1 pc = .ok (.ifCond .gt off, 3)) (ht : (pc : Int) + off = (tgt : Int)) (kt : 0 < x → zV G tgt ls st T FR AR FI AI k n) (kf : ¬ 0 < x → zV G (pc + 3) ls st T FR AR FI AI k n) : zV G pc ls (zI x :: st) T FR AR FI AI k n := by
  obtain ⟨p, l, e, R, s, m, args, below, meth, c, Q, A, D, cs, T0, ad0⟩ := G
  obtain ⟨hx, hb, hml, hr, hlk, hnm, hown, hts, hK, hA, hR, hQ, hSt, hfl⟩ := C
  intro ad H locs lsr hM hS hl h1 h2
  have hi := (z32lt zr0 (zhd h2))
  refine lv_if_gt (tgt := tgt) hx hb hd ht (fun z => ?_) (fun z => ?_)
  · exact kt (by first | exact hi.mp z | exact fun w => z (hi.mpr w)) ad H locs lsr hM hS hl h1 (ztl h2)
  · exact kf (by first | exact fun w => z (hi.mpr w) | exact hi.mp z) ad H locs lsr hM hS hl h1 (ztl h2)
theorem zv_if_le (C : zCx M Post G) {x off : Int} (tgt : Nat) (hd : decode M.2.1 pc = .ok (.ifCond .le off, 3)) (ht : (pc : Int) + off = (tgt : Int)) (kt : x ≤ 0 → zV G tgt ls st T FR AR FI AI k n) (kf : ¬ x ≤ 0 → zV G (pc + 3) ls st T FR AR FI AI k n) : zV G pc ls (zI x :: st) T FR AR FI AI k n := by
  obtain ⟨p, l, e, R, s, m, args, below, meth, c, Q, A, D, cs, T0, ad0⟩ := G
  obtain ⟨hx, hb, hml, hr, hlk, hnm, hown, hts, hK, hA, hR, hQ, hSt, hfl⟩ := C
  intro ad H locs lsr hM hS hl h1 h2
  have hi := (z32le (zhd h2) zr0)
  refine lv_if_le (tgt := tgt) hx hb hd ht (fun z => ?_) (fun z => ?_)
  · exact kt (by first | exact hi.mp z | exact fun w => z (hi.mpr w)) ad H locs lsr hM hS hl h1 (ztl h2)
  · exact kf (by first | exact fun w => z (hi.mpr w) | exact hi.mp z) ad H locs lsr hM hS hl h1 (ztl h2)
theorem zv_if_eq (C : zCx M Post G) {x off : Int} (tgt : Nat) (hd : decode M.2.1 pc = .ok (.ifCond .eq off, 3)) (ht : (pc : Int) + off = (tgt : Int)) (kt : x = 0 → zV G tgt ls st T FR AR FI AI k n) (kf : ¬ x = 0 → zV G (pc + 3) ls st T FR AR FI AI k n) : zV G pc ls (zI x :: st) T FR AR FI AI k n := by
  obtain ⟨p, l, e, R, s, m, args, below, meth, c, Q, A, D, cs, T0, ad0⟩ := G
  obtain ⟨hx, hb, hml, hr, hlk, hnm, hown, hts, hK, hA, hR, hQ, hSt, hfl⟩ := C
  intro ad H locs lsr hM hS hl h1 h2
  have hi := (z32eq (zhd h2) zr0)
  refine lv_if_eq (tgt := tgt) hx hb hd ht (fun z => ?_) (fun z => ?_)
  · exact kt (by first | exact hi.mp z | exact fun w => z (hi.mpr w)) ad H locs lsr hM hS hl h1 (ztl h2)
  · exact kf (by first | exact fun w => z (hi.mpr w) | exact hi.mp z) ad H locs lsr hM hS hl h1 (ztl h2)
theorem zv_if_ne (C : zCx M Post G) {x off : Int} (tgt : Nat) (hd : decode M.2.1 pc = .ok (.ifCond .ne off, 3)) (ht : (pc : Int) + off = (tgt : Int)) (kt : ¬ x = 0 → zV G tgt ls st T FR AR FI AI k n) (kf : x = 0 → zV G (pc + 3) ls st T FR AR FI AI k n) : zV G pc ls (zI x :: st) T FR AR FI AI k n := by
  obtain ⟨p, l, e, R, s, m, args, below, meth, c, Q, A, D, cs, T0, ad0⟩ := G
  obtain ⟨hx, hb, hml, hr, hlk, hnm, hown, hts, hK, hA, hR, hQ, hSt, hfl⟩ := C
  intro ad H locs lsr hM hS hl h1 h2
  have hi := (z32eq (zhd h2) zr0)
  refine lv_if_ne (tgt := tgt) hx hb hd ht (fun z => ?_) (fun z => ?_)
  · exact kt (by first | exact hi.mp z | exact fun w => z (hi.mpr w)) ad H locs lsr hM hS hl h1 (ztl h2)
  · exact kf (by first | exact fun w => z (hi.mpr w) | exact hi.mp z) ad H locs lsr hM hS hl h1 (ztl h2)
theorem zv_goto (C : zCx M Post G) {off : Int} (tgt : Nat) (hd : decode M.2.1 pc = .ok (.goto off, 3)) (ht : (pc : Int) + off = (tgt : Int)) (kk : zV G tgt ls st T FR AR FI AI k n) : zV G pc ls st T FR AR FI AI k n := by
  obtain ⟨p, l, e, R, s, m, args, below, meth, c, Q, A, D, cs, T0, ad0⟩ := G
  obtain ⟨hx, hb, hml, hr, hlk, hnm, hown, hts, hK, hA, hR, hQ, hSt, hfl⟩ := C
  intro ad H locs lsr hM hS hl h1 h2
  exact lv_goto hx hb hd ht (kk ad H locs lsr hM hS hl h1 h2)
theorem zv_tableIn (C : zCx M Post G) {x off dflt lo hi : Int} {offs : Array Int} {len : Nat} (tgt : Nat) (hd : decode M.2.1 pc = .ok (.tableswitch dflt lo hi offs, len)) (g1 : lo ≤ x) (g2 : x ≤ hi) (ho : offs[(x - lo).toNat]? = some off) (ht : (pc : Int) + off = (tgt : Int)) (kk : zV G tgt ls st T FR AR FI AI k n) : zV G pc ls (zI x :: st) T FR AR FI AI k n := by
  obtain ⟨p, l, e, R, s, m, args, below, meth, c, Q, A, D, cs, T0, ad0⟩ := G
  obtain ⟨hx, hb, hml, hr, hlk, hnm, hown, hts, hK, hA, hR, hQ, hSt, hfl⟩ := C
  intro ad H locs lsr hM hS hl h1 h2
  have e1 := z32 (zhd h2)
  exact lv_tableIn hx hb hd (by rw [e1]; omega) (by rw [e1]; omega) (by rw [e1]; exact ho) ht (kk ad H locs lsr hM hS hl h1 (ztl h2))
theorem zv_tableOut (C : zCx M Post G) {x dflt lo hi : Int} {offs : Array Int} {len : Nat} (tgt : Nat) (hd : decode M.2.1 pc = .ok (.tableswitch dflt lo hi offs, len)) (g1 : x < lo ∨ hi < x) (ht : (pc : Int) + dflt = (tgt : Int)) (kk : zV G tgt ls st T FR AR FI AI k n) : zV G pc ls (zI x :: st) T FR AR FI AI k n := by
  obtain ⟨p, l, e, R, s, m, args, below, meth, c, Q, A, D, cs, T0, ad0⟩ := G
  obtain ⟨hx, hb, hml, hr, hlk, hnm, hown, hts, hK, hA, hR, hQ, hSt, hfl⟩ := C
  intro ad H locs lsr hM hS hl h1 h2
  have e1 := z32 (zhd h2)
  exact lv_tableOut hx hb hd (by rw [e1]; exact g1) ht (kk ad H locs lsr hM hS hl h1 (ztl h2))
theorem zv_lookup (C : zCx M Post G) {x off dflt : Int} {ps : Array (Int × Int)} {len : Nat} (tgt : Nat) (hd : decode M.2.1 pc = .ok (.lookupswitch dflt ps, len)) (hp : (ps.toList.zip (ps.toList.drop 1)).all (fun (a, next) => a.1 < next.1) = true) (ho : Op.lookupswitch.offset ps.toList dflt x = off) (ht : (pc : Int) + off = (tgt : Int)) (kk : zV G tgt ls st T FR AR FI AI k n) : zV G pc ls (zI x :: st) T FR AR FI AI k n := by
  obtain ⟨p, l, e, R, s, m, args, below, meth, c, Q, A, D, cs, T0, ad0⟩ := G
  obtain ⟨hx, hb, hml, hr, hlk, hnm, hown, hts, hK, hA, hR, hQ, hSt, hfl⟩ := C
  intro ad H locs lsr hM hS hl h1 h2
  have e1 := z32 (zhd h2)
  exact lv_lookup hx hb hd hp (by rw [e1]; exact ho) ht (kk ad H locs lsr hM hS hl h1 (ztl h2))
theorem zv_dup (C : zCx M Post G) {v : zVal} (hd : decode M.2.1 pc = .ok (.dup, 1)) (hc : zcat v = 1) (kk : zV G (pc + 1) ls (v :: v :: st) T FR AR FI AI k n) : zV G pc ls (v :: st) T FR AR FI AI k n := by
  obtain ⟨p, l, e, R, s, m, args, below, meth, c, Q, A, D, cs, T0, ad0⟩ := G
  obtain ⟨hx, hb, hml, hr, hlk, hnm, hown, hts, hK, hA, hR, hQ, hSt, hfl⟩ := C
  intro ad H locs lsr hM hS hl h1 h2
  exact lv_dup hx hb hd (by rw [zcat_ok]; exact hc) (kk ad H locs lsr hM hS hl h1 (zcons (zhd h2) h2))
theorem zv_dup2 (C : zCx M Post G) {v w : zVal} (hd : decode M.2.1 pc = .ok (.dup2, 1)) (hc : zcat v = 1) (hc2 : zcat w = 1) (kk : zV G (pc + 1) ls (v :: w :: v :: w :: st) T FR AR FI AI k n) : zV G pc ls (v :: w :: st) T FR AR FI AI k n := by
  obtain ⟨p, l, e, R, s, m, args, below, meth, c, Q, A, D, cs, T0, ad0⟩ := G
  obtain ⟨hx, hb, hml, hr, hlk, hnm, hown, hts, hK, hA, hR, hQ, hSt, hfl⟩ := C
  intro ad H locs lsr hM hS hl h1 h2
  exact lv_dup2_11 hx hb hd (by rw [zcat_ok]; exact hc) (by rw [zcat_ok]; exact hc2) (kk ad H locs lsr hM hS hl h1 (zcons (zhd h2) (zcons (zhd (ztl h2)) h2)))
theorem zv_pop (C : zCx M Post G) {v : zVal} (hd : decode M.2.1 pc = .ok (.pop, 1)) (hc : zcat v = 1) (kk : zV G (pc + 1) ls st T FR AR FI AI k n) : zV G pc ls (v :: st) T FR AR FI AI k n := by
  obtain ⟨p, l, e, R, s, m, args, below, meth, c, Q, A, D, cs, T0, ad0⟩ := G
  obtain ⟨hx, hb, hml, hr, hlk, hnm, hown, hts, hK, hA, hR, hQ, hSt, hfl⟩ := C
  intro ad H locs lsr hM hS hl h1 h2
  exact lv_pop hx hb hd (by rw [zcat_ok]; exact hc) (kk ad H locs lsr hM hS hl h1 (ztl h2))
theorem zv_ifnull (C : zCx M Post G) {r : Option Nat} {off : Int} (tgt : Nat) (hd : decode M.2.1 pc = .ok (.ifnull off, 3)) (ht : (pc : Int) + off = (tgt : Int)) (kt : r = none → zV G tgt ls st T FR AR FI AI k n) (kf : ∀ a, r = some a → zV G (pc + 3) ls st T FR AR FI AI k n) : zV G pc ls (zP r :: st) T FR AR FI AI k n := by
  obtain ⟨p, l, e, R, s, m, args, below, meth, c, Q, A, D, cs, T0, ad0⟩ := G
  obtain ⟨hx, hb, hml, hr, hlk, hnm, hown, hts, hK, hA, hR, hQ, hSt, hfl⟩ := C
  intro ad H locs lsr hM hS hl h1 h2
  cases r with
  | none => exact lv_ifnullN hx hb hd ht (kt rfl ad H locs lsr hM hS hl h1 (ztl h2))
  | some a => exact lv_ifnull hx hb hd (kf a rfl ad H locs lsr hM hS hl h1 (ztl h2))
theorem zv_ifnonnull (C : zCx M Post G) {r : Option Nat} {off : Int} (tgt : Nat) (hd : decode M.2.1 pc = .ok (.ifnonnull off, 3)) (ht : (pc : Int) + off = (tgt : Int)) (kt : ∀ a, r = some a → zV G tgt ls st T FR AR FI AI k n) (kf : r = none → zV G (pc + 3) ls st T FR AR FI AI k n) : zV G pc ls (zP r :: st) T FR AR FI AI k n := by
  obtain ⟨p, l, e, R, s, m, args, below, meth, c, Q, A, D, cs, T0, ad0⟩ := G
  obtain ⟨hx, hb, hml, hr, hlk, hnm, hown, hts, hK, hA, hR, hQ, hSt, hfl⟩ := C
  intro ad H locs lsr hM hS hl h1 h2
  cases r with
  | none => exact lv_ifnonnullN hx hb hd (kf rfl ad H locs lsr hM hS hl h1 (ztl h2))
  | some a => exact lv_ifnonnull hx hb hd ht (kt a rfl ad H locs lsr hM hS hl h1 (ztl h2))
theorem zv_ifnonnullA (C : zCx M Post G) {a : Nat} {off : Int} (tgt : Nat) (hd : decode M.2.1 pc = .ok (.ifnonnull off, 3)) (ht : (pc : Int) + off = (tgt : Int)) (kt : zV G tgt ls st T FR AR FI AI k n) : zV G pc ls (zA a :: st) T FR AR FI AI k n := by
  obtain ⟨p, l, e, R, s, m, args, below, meth, c, Q, A, D, cs, T0, ad0⟩ := G
  obtain ⟨hx, hb, hml, hr, hlk, hnm, hown, hts, hK, hA, hR, hQ, hSt, hfl⟩ := C
  intro ad H locs lsr hM hS hl h1 h2
  exact lv_ifnonnull hx hb hd ht (kt ad H locs lsr hM hS hl h1 (ztl h2))
theorem zv_acmp_neA (C : zCx M Post G) {a b : Nat} {off : Int} (tgt : Nat) (hd : decode M.2.1 pc = .ok (.if_acmp .ne off, 3)) (ht : (pc : Int) + off = (tgt : Int)) (ha : a < 7) (hb7 : b < 7) (kt : ¬ a = b → zV G tgt ls st T FR AR FI AI k n) (kf : a = b → zV G (pc + 3) ls st T FR AR FI AI k n) : zV G pc ls (zA b :: zA a :: st) T FR AR FI AI k n := by
  obtain ⟨p, l, e, R, s, m, args, below, meth, c, Q, A, D, cs, T0, ad0⟩ := G
  obtain ⟨hx, hb, hml, hr, hlk, hnm, hown, hts, hK, hA, hR, hQ, hSt, hfl⟩ := C
  intro ad H locs lsr hM hS hl h1 h2
  obtain ⟨L, hnd, hL, hP, hD, hrg, hT0⟩ := id hM
  refine lv_acmp_ne (rx := some (ad (zb + a))) (ry := some (ad (zb + b))) (tgt := tgt) hx hb hd ht (fun z => ?_) (fun z => ?_)
  · exact kt (fun w => z (by rw [w])) ad H locs lsr hM hS hl h1 (ztl (ztl h2))
  · refine kf (hSt.2.2 a b ha hb7 ?_) ad H locs lsr hM hS hl h1 (ztl (ztl h2))
    have := Option.some.inj z
    rw [hT0.2 a, hT0.2 b] at this
    exact this
theorem zWQ {p : Program} {l : Launch} {e : Env} {R : Room} {s : State} {m : MethodId} {args : Array Value} {below : List Frame} {meth : Method} {c : Code} {H : Heap} {locs : List Loc} {Q Q' : State → Prop} {g : JFrame} (hQ : ∀ t, Q t → Q' t) (h : W p l e R s m args below meth c H locs k n Q g) : W p l e R s m args below meth c H locs k n Q' g := fun U hU X => by
  obtain ⟨t, a, b⟩ := h U hU X
  exact ⟨t, a, hQ t b⟩
theorem zv_ireturn (C : zCx M Post G) {x : Int} {ty : FieldType} (hd : decode M.2.1 pc = .ok (.ireturn, 1)) (hty : M.2.2.2.1 = some ty) (hn : narrow ty (.int (Int32.ofInt x)) = .int (Int32.ofInt x)) (hk : Nat.ble k M.2.2.2.2.cells = true) (hk2 : Nat.ble n M.2.2.2.2.slots = true) (hp : Post (zI x) T FR AR FI AI) : zV G pc ls [zI x] T FR AR FI AI k n := by
  obtain ⟨p, l, e, R, s, m, args, below, meth, c, Q, A, D, cs, T0, ad0⟩ := G
  obtain ⟨hx, hb, hml, hr, hlk, hnm, hown, hts, hK, hA, hR, hQ, hSt, hfl⟩ := C
  intro ad H locs lsr hM hS hl h1 h2
  refine zWQ hQ (W.widen (Nat.le_of_ble_eq_true hk) (Nat.le_of_ble_eq_true hk2) ?_)
  exact W.zret hx hb (hr.trans hty) hn (fun t ht _ => ⟨⟨zI x, T, FR, AR, FI, AI, ad, by rw [hty]; rfl, hp, by rw [ht]; exact hM, zhd h2⟩, hS.F ht⟩) hS.2.2 hd
theorem zv_lreturn (C : zCx M Post G) {x : Int} (hd : decode M.2.1 pc = .ok (.lreturn, 1)) (hty : M.2.2.2.1 = some .long) (hk : Nat.ble k M.2.2.2.2.cells = true) (hk2 : Nat.ble n M.2.2.2.2.slots = true) (hp : Post (zL x) T FR AR FI AI) : zV G pc ls [zL x] T FR AR FI AI k n := by
  obtain ⟨p, l, e, R, s, m, args, below, meth, c, Q, A, D, cs, T0, ad0⟩ := G
  obtain ⟨hx, hb, hml, hr, hlk, hnm, hown, hts, hK, hA, hR, hQ, hSt, hfl⟩ := C
  intro ad H locs lsr hM hS hl h1 h2
  refine zWQ hQ (W.widen (Nat.le_of_ble_eq_true hk) (Nat.le_of_ble_eq_true hk2) ?_)
  exact W.lret hx hb (hr.trans hty) (fun t ht _ => ⟨⟨zL x, T, FR, AR, FI, AI, ad, by rw [hty]; rfl, hp, by rw [ht]; exact hM, zhd h2⟩, hS.F ht⟩) hS.2.2 hd
theorem zv_areturn (C : zCx M Post G) {v : zVal} {C0 : String} (hd : decode M.2.1 pc = .ok (.areturn, 1)) (hty : M.2.2.2.1 = some (.object C0)) (hq : zrefq v = true) (hk : Nat.ble k M.2.2.2.2.cells = true) (hk2 : Nat.ble n M.2.2.2.2.slots = true) (hp : Post v T FR AR FI AI) : zV G pc ls [v] T FR AR FI AI k n := by
  obtain ⟨p, l, e, R, s, m, args, below, meth, c, Q, A, D, cs, T0, ad0⟩ := G
  obtain ⟨hx, hb, hml, hr, hlk, hnm, hown, hts, hK, hA, hR, hQ, hSt, hfl⟩ := C
  intro ad H locs lsr hM hS hl h1 h2
  refine zWQ hQ (W.widen (Nat.le_of_ble_eq_true hk) (Nat.le_of_ble_eq_true hk2) ?_)
  exact W.aret hx hb (hr.trans hty) (Or.inl ⟨_, rfl⟩) (zrefq_or ad hq) (fun t ht _ => ⟨⟨v, T, FR, AR, FI, AI, ad, by rw [hty]; rfl, hp, by rw [ht]; exact hM, zhd h2⟩, hS.F ht⟩) hS.2.2 hd
theorem zv_return (C : zCx M Post G) (hd : decode M.2.1 pc = .ok (.return_, 1)) (hty : M.2.2.2.1 = none) (hk : Nat.ble k M.2.2.2.2.cells = true) (hk2 : Nat.ble n M.2.2.2.2.slots = true) (hp : Post (zI 0) T FR AR FI AI) : zV G pc ls [] T FR AR FI AI k n := by
  obtain ⟨p, l, e, R, s, m, args, below, meth, c, Q, A, D, cs, T0, ad0⟩ := G
  obtain ⟨hx, hb, hml, hr, hlk, hnm, hown, hts, hK, hA, hR, hQ, hSt, hfl⟩ := C
  intro ad H locs lsr hM hS hl h1 h2
  refine zWQ hQ (W.widen (Nat.le_of_ble_eq_true hk) (Nat.le_of_ble_eq_true hk2) ?_)
  exact W.vret hx hb (hr.trans hty) (fun t ht _ => ⟨⟨zI 0, T, FR, AR, FI, AI, ad, by rw [hty]; rfl, hp, by rw [ht]; exact hM, zr0⟩, hS.F ht⟩) hS.2.2 hd
theorem zv_widen {k' n' : Nat} (hk : k ≤ k') (hn : n ≤ n') (kk : zV G pc ls st T FR AR FI AI k' n') : zV G pc ls st T FR AR FI AI k n := by
  obtain ⟨p, l, e, R, s, m, args, below, meth, c, Q, A, D, cs, T0, ad0⟩ := G
  intro ad H locs lsr hM hS hl h1 h2
  exact W.widen hk hn (kk ad H locs lsr hM hS hl h1 h2)
/-- a name for what stands on the stack, in the heap: forget how it came -/
theorem zv_eq {pc' : Nat} {ls' : List (Option zVal)} {st' : List zVal} {FI' : zFI} {AI' : zAI} (e0 : pc = pc') (e1 : ls = ls') (e2 : st = st') (e3 : FI = FI') (e4 : AI = AI') (kk : zV G pc' ls' st' T FR AR FI' AI' k n) : zV G pc ls st T FR AR FI AI k n := by subst e0; subst e1; subst e2; subst e3; subst e4; exact kk
end ZRows
end
section
def zsF (FI : zFI) (o j : Nat) (x : Int) : zFI := fun o' j' => if o' = o ∧ j' = j then x else FI o' j'
def zsA (AI : zAI) (a : Nat) (i x : Int) : zAI := fun a' i' => if a' = a ∧ i' = i then x else AI a' i'
def zsR (FR : zFR) (o j : Nat) (r : Option Nat) : zFR := fun o' j' => if o' = o ∧ j' = j then r else FR o' j'
def zsQ (AR : zAR) (a : Nat) (i : Int) (r : Option Nat) : zAR := fun a' i' => if a' = a ∧ i' = i then r else AR a' i'
def zsT (T : zTt) (h : Nat) (t : Nat × Nat) : zTt := fun k => if k = h then t else T k
def zzF (FI : zFI) (h : Nat) : zFI := fun o j => if o = h then 0 else FI o j
def zzA (AI : zAI) (h : Nat) : zAI := fun a i => if a = h then 0 else AI a i
def zzR (FR : zFR) (h : Nat) : zFR := fun o j => if o = h then none else FR o j
def zzQ (AR : zAR) (h : Nat) : zAR := fun a i => if a = h then none else AR a i
theorem zset {f g : Nat → Nat × va_E} {L : List Nat} (hn : L.Nodup) {q0 k : Nat} (hk : L[q0]? = some k) (hg : ∀ j ∈ L, j ≠ k → g j = f j) : (L.map f).set q0 (g k) = L.map g := by
  apply List.ext_getElem?
  intro i
  by_cases hi : q0 = i
  · subst hi
    obtain ⟨hlt, hv⟩ := List.getElem?_eq_some_iff.mp hk
    rw [List.getElem?_set, if_pos rfl, if_pos (by simpa using hlt), List.getElem?_map, hk]
    rfl
  · rw [List.getElem?_set_ne hi, List.getElem?_map, List.getElem?_map]
    cases hj : L[i]? with
    | none => rfl
    | some j =>
      have hne : j ≠ k := by
        intro e
        subst e
        exact hi ((List.getElem?_inj (List.getElem?_eq_some_iff.mp hk).1 hn).mp (hk.trans hj.symm))
      show some (f j) = some (g j)
      rw [hg j (List.mem_of_getElem? hj) hne]
section ZE
variable {cs : zCs} {ad : Nat → Nat} {T : zTt} {FR : zFR} {AR : zAR} {FI : zFI} {AI : zAI} {a n : Nat}
theorem zE_obj {ci : Nat} (h : T a = (1, ci)) : zE cs ad T FR AR FI AI a = .inr (ci, (List.range (znf ci)).map fun j => zfv ad FR FI a j (zty ci j)) := by simp [zE, h]
theorem zE_int (h : T a = (2, n)) : zE cs ad T FR AR FI AI a = .inl (cs.1, n, .inl fun j => Int32.ofInt (AI a (j : Int))) := by simp [zE, h]
theorem zE_byte (h : T a = (3, n)) : zE cs ad T FR AR FI AI a = .inl (cs.2.1, n, .inl fun j => Int32.ofInt (AI a (j : Int))) := by simp [zE, h]
theorem zE_long (h : T a = (4, n)) : zE cs ad T FR AR FI AI a = .inl (cs.2.2.1, n, .inr (.inl fun j => Int64.ofInt (AI a (j : Int)))) := by simp [zE, h]
theorem zE_r5 (h : T a = (5, n)) : zE cs ad T FR AR FI AI a = .inl (cs.2.2.2.1, n, .inr (.inr (.inr (.inr fun j => (AR a (j : Int)).map ad)))) := by simp [zE, h]
theorem zE_r6 (h : T a = (6, n)) : zE cs ad T FR AR FI AI a = .inl (cs.2.2.2.2, n, .inr (.inr (.inr (.inr fun j => (AR a (j : Int)).map ad)))) := by simp [zE, h]
end ZE
theorem zrangeset {N j : Nat} {f : Nat → Value} {v : Value} (hj : j < N) : ((List.range N).map f).set j v = (List.range N).map fun i => if i = j then v else f i := by
  apply List.ext_getElem?
  intro i
  by_cases hi : j = i
  · subst hi
    rw [List.getElem?_set, if_pos rfl, if_pos (by simpa using hj), List.getElem?_map, List.getElem?_range hj]
    simp
  · rw [List.getElem?_set_ne hi, List.getElem?_map, List.getElem?_map]
    cases hk : (List.range N)[i]? with
    | none => rfl
    | some q =>
      have hq : q = i := by
        have := List.getElem?_eq_some_iff.mp hk
        obtain ⟨h1, h2⟩ := this
        rw [List.getElem_range] at h2
        exact h2.symm
      subst hq
      simp [Ne.symm hi]
/-- what the tables say of a field -/
def zFd (own : String) (idx ci j : Nat) (fin : Bool) : Prop := ∃ (Cn : String) (Tc : u_T), vwCl[ci]? = some (Cn, Tc, znf ci) ∧ (∀ w ∈ u_ws Cn Tc (znf ci), w ∈ zWs) ∧ (∀ k, k < znf ci → parseFieldDescriptor (Tc k).2.2.1 = some (zty ci k)) ∧ (∀ a, a < znf ci → ∀ b, b < znf ci → a ≠ b → (Tc a).2.1 ≠ (Tc b).2.1) ∧ j < znf ci ∧ Cond.fieldLink own idx Cn (Tc j).2.1 (Tc j).2.2.1 ∈ zWs ∧ (Tc j).1 = Cn ∧ (Tc j).2.2.2 = fin
def zCl (ci : Nat) (Cn : String) (Tc : u_T) : Prop := vwCl[ci]? = some (Cn, Tc, znf ci) ∧ (∀ w ∈ u_ws Cn Tc (znf ci), w ∈ zWs) ∧ (∀ k, k < znf ci → parseFieldDescriptor (Tc k).2.2.1 = some (zty ci k)) ∧ (∀ a, a < znf ci → ∀ b, b < znf ci → a ≠ b → (Tc a).2.1 ≠ (Tc b).2.1)
theorem zFd_of {own Cn : String} {Tc : u_T} {idx ci j : Nat} {fin : Bool} (h : zCl ci Cn Tc) (h1 : Nat.blt j (znf ci) = true) (h2 : Cond.fieldLink own idx Cn (Tc j).2.1 (Tc j).2.2.1 ∈ zWs) (h3 : (Tc j).1 = Cn) (h4 : (Tc j).2.2.2 = fin) : zFd own idx ci j fin := ⟨Cn, Tc, h.1, h.2.1, h.2.2.1, h.2.2.2, Nat.le_of_ble_eq_true h1, h2, h3, h4⟩
section ZHeap
variable {M : zMd} {Post : zPost} {G : zG} {pc : Nat} {ls : List (Option zVal)} {st : List zVal} {T : zTt} {FR : zFR} {AR : zAR} {FI : zFI} {AI : zAI} {k n : Nat}
theorem zv_getI (C : zCx M Post G) {i o ci j : Nat} {fin : Bool} (hd : decode M.2.1 pc = .ok (.getfield i, 3)) (hf : zFd M.1.cls i ci j fin) (hT : T o = (1, ci)) (hty : zty ci j = .int) (kk : zV G (pc + 3) ls (zI (FI o j) :: st) T FR AR FI AI k n) : zV G pc ls (zR o :: st) T FR AR FI AI k n := by
  obtain ⟨p, l, e, R, s, m, args, below, meth, c, Q, A, D, cs, T0, ad0⟩ := G
  obtain ⟨hx, hb, hml, hr, hlk, hnm, hown, hts, hK, hA, hR, hQ, hSt, hfl⟩ := C
  intro ad H locs lsr hM hS hl h1 h2
  obtain ⟨L, hnd, hL, hP, hD, hrg, hT0⟩ := id hM
  obtain ⟨Cn, Tc, c1, c2, c3, c4, c5, c6, c7, c8⟩ := hf
  have ho : o ∈ L := (hL o).mpr (by rw [hT]; exact Nat.one_ne_zero)
  obtain ⟨q0, hq0⟩ := List.getElem?_of_mem ho
  have he : (zWd cs ad T FR AR FI AI L)[q0]? = some (ad o, .inr (ci, (List.range (znf ci)).map fun j => zfv ad FR FI o j (zty ci j))) := by rw [zWd, List.getElem?_map, hq0, ← zE_obj hT]; rfl
  exact va_get hx hb hts c2 hown hK hP q0 he c1 j c5 (hts _ c6) (fun x h => by rw [← c7]; exact h) (v := .int (Int32.ofInt (FI o j))) (by rw [List.getElem?_map, List.getElem?_range c5]; simp [zfv, hty]) hd (kk ad H locs lsr hM hS hl h1 (zcons (show zr32 (FI o j) from by have := hrg.1 o j (by rw [hT]); rw [hT, show zty ci j = .int from hty, if_neg (by decide)] at this; exact this) (ztl h2)))
theorem zv_getL (C : zCx M Post G) {i o ci j : Nat} {fin : Bool} (hd : decode M.2.1 pc = .ok (.getfield i, 3)) (hf : zFd M.1.cls i ci j fin) (hT : T o = (1, ci)) (hty : zty ci j = .long) (kk : zV G (pc + 3) ls (zL (FI o j) :: st) T FR AR FI AI k n) : zV G pc ls (zR o :: st) T FR AR FI AI k n := by
  obtain ⟨p, l, e, R, s, m, args, below, meth, c, Q, A, D, cs, T0, ad0⟩ := G
  obtain ⟨hx, hb, hml, hr, hlk, hnm, hown, hts, hK, hA, hR, hQ, hSt, hfl⟩ := C
  intro ad H locs lsr hM hS hl h1 h2
  obtain ⟨L, hnd, hL, hP, hD, hrg, hT0⟩ := id hM
  obtain ⟨Cn, Tc, c1, c2, c3, c4, c5, c6, c7, c8⟩ := hf
  have ho : o ∈ L := (hL o).mpr (by rw [hT]; exact Nat.one_ne_zero)
  obtain ⟨q0, hq0⟩ := List.getElem?_of_mem ho
  have he : (zWd cs ad T FR AR FI AI L)[q0]? = some (ad o, .inr (ci, (List.range (znf ci)).map fun j => zfv ad FR FI o j (zty ci j))) := by rw [zWd, List.getElem?_map, hq0, ← zE_obj hT]; rfl
  exact va_get hx hb hts c2 hown hK hP q0 he c1 j c5 (hts _ c6) (fun x h => by rw [← c7]; exact h) (v := .long (Int64.ofInt (FI o j))) (by rw [List.getElem?_map, List.getElem?_range c5]; simp [zfv, hty]) hd (kk ad H locs lsr hM hS hl h1 (zcons (show zr64 (FI o j) from by have := hrg.1 o j (by rw [hT]); rw [hT, show zty ci j = .long from hty, if_pos rfl] at this; exact this) (ztl h2)))
def zisr : FieldType → Bool
  | .object _ => true
  | .array _ => true
  | _ => false
theorem zfv_r {ad : Nat → Nat} {ty : FieldType} {o j : Nat} (h : zisr ty = true) : zfv ad FR FI o j ty = va_rf ((FR o j).map ad) := by cases ty <;> first | rfl | cases h
theorem zv_getP (C : zCx M Post G) {i o ci j : Nat} {fin : Bool} (hd : decode M.2.1 pc = .ok (.getfield i, 3)) (hf : zFd M.1.cls i ci j fin) (hT : T o = (1, ci)) (hty : zisr (zty ci j) = true) (kk : zV G (pc + 3) ls (zP (FR o j) :: st) T FR AR FI AI k n) : zV G pc ls (zR o :: st) T FR AR FI AI k n := by
  obtain ⟨p, l, e, R, s, m, args, below, meth, c, Q, A, D, cs, T0, ad0⟩ := G
  obtain ⟨hx, hb, hml, hr, hlk, hnm, hown, hts, hK, hA, hR, hQ, hSt, hfl⟩ := C
  intro ad H locs lsr hM hS hl h1 h2
  obtain ⟨L, hnd, hL, hP, hD, hrg, hT0⟩ := id hM
  obtain ⟨Cn, Tc, c1, c2, c3, c4, c5, c6, c7, c8⟩ := hf
  have ho : o ∈ L := (hL o).mpr (by rw [hT]; exact Nat.one_ne_zero)
  obtain ⟨q0, hq0⟩ := List.getElem?_of_mem ho
  have he : (zWd cs ad T FR AR FI AI L)[q0]? = some (ad o, .inr (ci, (List.range (znf ci)).map fun j => zfv ad FR FI o j (zty ci j))) := by rw [zWd, List.getElem?_map, hq0, ← zE_obj hT]; rfl
  exact va_get hx hb hts c2 hown hK hP q0 he c1 j c5 (hts _ c6) (fun x h => by rw [← c7]; exact h) (v := va_rf ((FR o j).map ad)) (by rw [List.getElem?_map, List.getElem?_range c5]; simp [zfv_r hty]) hd (kk ad H locs lsr hM hS hl h1 (zcons (fun b hb9 => hrg.2.2.1 o j b (by rw [hT]; exact Nat.one_ne_zero) hb9) (ztl h2)))
theorem zv_getR (C : zCx M Post G) {i o ci j b : Nat} {fin : Bool} (hd : decode M.2.1 pc = .ok (.getfield i, 3)) (hf : zFd M.1.cls i ci j fin) (hT : T o = (1, ci)) (hty : zisr (zty ci j) = true) (hb : FR o j = some b) (kk : zV G (pc + 3) ls (zR b :: st) T FR AR FI AI k n) : zV G pc ls (zR o :: st) T FR AR FI AI k n := zv_getP C hd hf hT hty (by rw [hb]; exact kk)
theorem zv_putI (C : zCx M Post G) {i o ci j : Nat} {x : Int} (hd : decode M.2.1 pc = .ok (.putfield i, 3)) (hf : zFd M.1.cls i ci j false) (hT : T o = (1, ci)) (hty : zty ci j = .int)  (kk : zV G (pc + 3) ls st T FR AR (zsF FI o j x) AI k n) : zV G pc ls (zI x :: zR o :: st) T FR AR FI AI k n := by
  obtain ⟨p, l, e, R, s, m, args, below, meth, c, Q, A, D, cs, T0, ad0⟩ := G
  obtain ⟨hx, hb, hml, hr, hlk, hnm, hown, hts, hK, hA, hR, hQ, hSt, hfl⟩ := C
  intro ad H locs lsr hM hS hl h1 h2
  obtain ⟨L, hnd, hL, hP, hD, hrg, hT0⟩ := id hM
  obtain ⟨Cn, Tc, c1, c2, c3, c4, c5, c6, c7, c8⟩ := hf
  have ho : o ∈ L := (hL o).mpr (by rw [hT]; exact Nat.one_ne_zero)
  obtain ⟨q0, hq0⟩ := List.getElem?_of_mem ho
  have he : (zWd cs ad T FR AR FI AI L)[q0]? = some (ad o, .inr (ci, (List.range (znf ci)).map fun j => zfv ad FR FI o j (zty ci j))) := by rw [zWd, List.getElem?_map, hq0, ← zE_obj hT]; rfl
  have e9 : (zWd cs ad T FR AR FI AI L).set q0 (ad o, .inr (ci, ((List.range (znf ci)).map fun j => zfv ad FR FI o j (zty ci j)).set j (.int (Int32.ofInt x)))) = zWd cs ad T FR AR (zsF FI o j x) AI L := by
    have hg := zset (f := fun k => (ad k, zE cs ad T FR AR FI AI k)) (g := fun k => (ad k, zE cs ad T FR AR (zsF FI o j x) AI k)) hnd hq0 (fun j9 _ hj9 => by show (ad j9, _) = (ad j9, _); congr 1; simp [zE, zfv, zsF, hj9])
    rw [zWd, zWd, ← hg]
    congr 3
    show Sum.inr _ = _
    rw [zE_obj hT, zrangeset c5]
    congr 2
    apply List.map_congr_left
    intro i9 _
    by_cases hi9 : i9 = j
    · subst hi9; simp [zfv, zsF, hty]
    · simp [zfv, zsF, hi9]
  refine va_put (v := .int (Int32.ofInt x)) (ty := zty ci j) hx hb hts c2 (zty ci) c3 c4 hown hK hP hD hS q0 he c1 j c5 (hts _ c6) (fun x h => by rw [← c7]; exact h) c8 (c3 j c5) (by rw [hty]; rfl) (by rw [hty]; rfl) (by simpa using c5) hd (fun H1 locs1 hP1 hD1 hS1 => ?_)
  rw [e9] at hP1 hD1
  exact kk ad H1 locs1 lsr ⟨L, hnd, hL, hP1, hD1, ⟨fun k9 j9 h9 => by
      by_cases hk9 : k9 = o ∧ j9 = j
      · obtain ⟨r1, r2⟩ := hk9; subst r1; subst r2; rw [hT, show zty ci j9 = .int from hty]; simp only [zsF, and_self, if_true]; first | exact zhd h2 | (rw [if_neg (by decide)]; exact zhd h2) | (rw [if_pos rfl]; exact zhd h2)
      · simp only [zsF, if_neg hk9]; exact hrg.1 k9 j9 h9, hrg.2⟩, hT0⟩ hS1 hl h1 (ztl (ztl h2))
theorem zv_putL (C : zCx M Post G) {i o ci j : Nat} {x : Int} (hd : decode M.2.1 pc = .ok (.putfield i, 3)) (hf : zFd M.1.cls i ci j false) (hT : T o = (1, ci)) (hty : zty ci j = .long)  (kk : zV G (pc + 3) ls st T FR AR (zsF FI o j x) AI k n) : zV G pc ls (zL x :: zR o :: st) T FR AR FI AI k n := by
  obtain ⟨p, l, e, R, s, m, args, below, meth, c, Q, A, D, cs, T0, ad0⟩ := G
  obtain ⟨hx, hb, hml, hr, hlk, hnm, hown, hts, hK, hA, hR, hQ, hSt, hfl⟩ := C
  intro ad H locs lsr hM hS hl h1 h2
  obtain ⟨L, hnd, hL, hP, hD, hrg, hT0⟩ := id hM
  obtain ⟨Cn, Tc, c1, c2, c3, c4, c5, c6, c7, c8⟩ := hf
  have ho : o ∈ L := (hL o).mpr (by rw [hT]; exact Nat.one_ne_zero)
  obtain ⟨q0, hq0⟩ := List.getElem?_of_mem ho
  have he : (zWd cs ad T FR AR FI AI L)[q0]? = some (ad o, .inr (ci, (List.range (znf ci)).map fun j => zfv ad FR FI o j (zty ci j))) := by rw [zWd, List.getElem?_map, hq0, ← zE_obj hT]; rfl
  have e9 : (zWd cs ad T FR AR FI AI L).set q0 (ad o, .inr (ci, ((List.range (znf ci)).map fun j => zfv ad FR FI o j (zty ci j)).set j (.long (Int64.ofInt x)))) = zWd cs ad T FR AR (zsF FI o j x) AI L := by
    have hg := zset (f := fun k => (ad k, zE cs ad T FR AR FI AI k)) (g := fun k => (ad k, zE cs ad T FR AR (zsF FI o j x) AI k)) hnd hq0 (fun j9 _ hj9 => by show (ad j9, _) = (ad j9, _); congr 1; simp [zE, zfv, zsF, hj9])
    rw [zWd, zWd, ← hg]
    congr 3
    show Sum.inr _ = _
    rw [zE_obj hT, zrangeset c5]
    congr 2
    apply List.map_congr_left
    intro i9 _
    by_cases hi9 : i9 = j
    · subst hi9; simp [zfv, zsF, hty]
    · simp [zfv, zsF, hi9]
  refine va_put (v := .long (Int64.ofInt x)) (ty := zty ci j) hx hb hts c2 (zty ci) c3 c4 hown hK hP hD hS q0 he c1 j c5 (hts _ c6) (fun x h => by rw [← c7]; exact h) c8 (c3 j c5) (by rw [hty]; rfl) (by rw [hty]; rfl) (by simpa using c5) hd (fun H1 locs1 hP1 hD1 hS1 => ?_)
  rw [e9] at hP1 hD1
  exact kk ad H1 locs1 lsr ⟨L, hnd, hL, hP1, hD1, ⟨fun k9 j9 h9 => by
      by_cases hk9 : k9 = o ∧ j9 = j
      · obtain ⟨r1, r2⟩ := hk9; subst r1; subst r2; rw [hT, show zty ci j9 = .long from hty]; simp only [zsF, and_self, if_true]; first | exact zhd h2 | (rw [if_neg (by decide)]; exact zhd h2) | (rw [if_pos rfl]; exact zhd h2)
      · simp only [zsF, if_neg hk9]; exact hrg.1 k9 j9 h9, hrg.2⟩, hT0⟩ hS1 hl h1 (ztl (ztl h2))
theorem zv_putP (C : zCx M Post G) {i o ci j : Nat} {r : Option Nat} (hd : decode M.2.1 pc = .ok (.putfield i, 3)) (hf : zFd M.1.cls i ci j false) (hT : T o = (1, ci)) (hty : zisr (zty ci j) = true)  (kk : zV G (pc + 3) ls st T (zsR FR o j r) AR FI AI k n) : zV G pc ls (zP r :: zR o :: st) T FR AR FI AI k n := by
  obtain ⟨p, l, e, R, s, m, args, below, meth, c, Q, A, D, cs, T0, ad0⟩ := G
  obtain ⟨hx, hb, hml, hr, hlk, hnm, hown, hts, hK, hA, hR, hQ, hSt, hfl⟩ := C
  intro ad H locs lsr hM hS hl h1 h2
  obtain ⟨L, hnd, hL, hP, hD, hrg, hT0⟩ := id hM
  obtain ⟨Cn, Tc, c1, c2, c3, c4, c5, c6, c7, c8⟩ := hf
  have ho : o ∈ L := (hL o).mpr (by rw [hT]; exact Nat.one_ne_zero)
  obtain ⟨q0, hq0⟩ := List.getElem?_of_mem ho
  have he : (zWd cs ad T FR AR FI AI L)[q0]? = some (ad o, .inr (ci, (List.range (znf ci)).map fun j => zfv ad FR FI o j (zty ci j))) := by rw [zWd, List.getElem?_map, hq0, ← zE_obj hT]; rfl
  have e9 : (zWd cs ad T FR AR FI AI L).set q0 (ad o, .inr (ci, ((List.range (znf ci)).map fun j => zfv ad FR FI o j (zty ci j)).set j (va_rf (r.map ad)))) = zWd cs ad T (zsR FR o j r) AR FI AI L := by
    have hg := zset (f := fun k => (ad k, zE cs ad T FR AR FI AI k)) (g := fun k => (ad k, zE cs ad T (zsR FR o j r) AR FI AI k)) hnd hq0 (fun j9 _ hj9 => by show (ad j9, _) = (ad j9, _); congr 1; simp [zE, zfv, zsR, hj9])
    rw [zWd, zWd, ← hg]
    congr 3
    show Sum.inr _ = _
    rw [zE_obj hT, zrangeset c5]
    congr 2
    apply List.map_congr_left
    intro i9 _
    by_cases hi9 : i9 = j
    · subst hi9; simp [zfv_r hty, zsR]
    · simp [zfv, zsR, hi9]
  refine va_put (v := va_rf (r.map ad)) (ty := zty ci j) hx hb hts c2 (zty ci) c3 c4 hown hK hP hD hS q0 he c1 j c5 (hts _ c6) (fun x h => by rw [← c7]; exact h) c8 (c3 j c5) (by cases r <;> revert hty <;> cases zty ci j <;> intro h9 <;> first | rfl | cases h9) (by cases r <;> revert hty <;> cases zty ci j <;> intro h9 <;> first | rfl | cases h9) (by simpa using c5) hd (fun H1 locs1 hP1 hD1 hS1 => ?_)
  rw [e9] at hP1 hD1
  exact kk ad H1 locs1 lsr ⟨L, hnd, hL, hP1, hD1, ⟨hrg.1, hrg.2.1, fun k9 j9 b9 h9 hb9 => by
      by_cases hk9 : k9 = o ∧ j9 = j
      · simp only [zsR, if_pos hk9] at hb9; exact (zhd h2) b9 hb9
      · simp only [zsR, if_neg hk9] at hb9; exact hrg.2.2.1 k9 j9 b9 h9 hb9, hrg.2.2.2⟩, hT0⟩ hS1 hl h1 (ztl (ztl h2))
theorem zv_putPF (C : zCx M Post G) {i o ci j : Nat} {r : Option Nat} (hd : decode M.2.1 pc = .ok (.putfield i, 3)) (hf : zFd M.1.cls i ci j true) (hT : T o = (1, ci)) (hty : zisr (zty ci j) = true) (hin0 : M.1.name = "<init>") (hcn : ∀ {Cn : String} {Tc : u_T} {N : Nat}, vwCl[ci]? = some (Cn, Tc, N) → Cn = M.1.cls) (kk : zV G (pc + 3) ls st T (zsR FR o j r) AR FI AI k n) : zV G pc ls (zP r :: zR o :: st) T FR AR FI AI k n := by
  obtain ⟨p, l, e, R, s, m, args, below, meth, c, Q, A, D, cs, T0, ad0⟩ := G
  obtain ⟨hx, hb, hml, hr, hlk, hnm, hown, hts, hK, hA, hR, hQ, hSt, hfl⟩ := C
  intro ad H locs lsr hM hS hl h1 h2
  obtain ⟨L, hnd, hL, hP, hD, hrg, hT0⟩ := id hM
  obtain ⟨Cn, Tc, c1, c2, c3, c4, c5, c6, c7, c8⟩ := hf
  have ho : o ∈ L := (hL o).mpr (by rw [hT]; exact Nat.one_ne_zero)
  obtain ⟨q0, hq0⟩ := List.getElem?_of_mem ho
  have he : (zWd cs ad T FR AR FI AI L)[q0]? = some (ad o, .inr (ci, (List.range (znf ci)).map fun j => zfv ad FR FI o j (zty ci j))) := by rw [zWd, List.getElem?_map, hq0, ← zE_obj hT]; rfl
  have e9 : (zWd cs ad T FR AR FI AI L).set q0 (ad o, .inr (ci, ((List.range (znf ci)).map fun j => zfv ad FR FI o j (zty ci j)).set j (va_rf (r.map ad)))) = zWd cs ad T (zsR FR o j r) AR FI AI L := by
    have hg := zset (f := fun k => (ad k, zE cs ad T FR AR FI AI k)) (g := fun k => (ad k, zE cs ad T (zsR FR o j r) AR FI AI k)) hnd hq0 (fun j9 _ hj9 => by show (ad j9, _) = (ad j9, _); congr 1; simp [zE, zfv, zsR, hj9])
    rw [zWd, zWd, ← hg]
    congr 3
    show Sum.inr _ = _
    rw [zE_obj hT, zrangeset c5]
    congr 2
    apply List.map_congr_left
    intro i9 _
    by_cases hi9 : i9 = j
    · subst hi9; simp [zfv_r hty, zsR]
    · simp [zfv, zsR, hi9]
  refine va_putF (v := va_rf (r.map ad)) (ty := zty ci j) hx hb hts c2 (zty ci) c3 c4 hown hK hP hD hS q0 he c1 j c5 (hts _ c6) (fun x h => by rw [← c7]; exact h) c8 (hnm.trans hin0) (c7.trans (hcn c1)) (c3 j c5) (by cases r <;> revert hty <;> cases zty ci j <;> intro h9 <;> first | rfl | cases h9) (by cases r <;> revert hty <;> cases zty ci j <;> intro h9 <;> first | rfl | cases h9) (by simpa using c5) hd (fun H1 locs1 hP1 hD1 hS1 => ?_)
  rw [e9] at hP1 hD1
  exact kk ad H1 locs1 lsr ⟨L, hnd, hL, hP1, hD1, ⟨hrg.1, hrg.2.1, fun k9 j9 b9 h9 hb9 => by
      by_cases hk9 : k9 = o ∧ j9 = j
      · simp only [zsR, if_pos hk9] at hb9; exact (zhd h2) b9 hb9
      · simp only [zsR, if_neg hk9] at hb9; exact hrg.2.2.1 k9 j9 b9 h9 hb9, hrg.2.2.2⟩, hT0⟩ hS1 hl h1 (ztl (ztl h2))
theorem zv_iaload (C : zCx M Post G) {a N : Nat} {i : Int} (hd : decode M.2.1 pc = .ok (.iaload, 1)) (hT : T a = (2, N)) (hi : 0 ≤ i ∧ i < N) (kk : zV G (pc + 1) ls (zI (AI a i) :: st) T FR AR FI AI k n) : zV G pc ls (zI i :: zR a :: st) T FR AR FI AI k n := by
  obtain ⟨p, l, e, R, s, m, args, below, meth, c, Q, A, D, cs, T0, ad0⟩ := G
  obtain ⟨hx, hb, hml, hr, hlk, hnm, hown, hts, hK, hA, hR, hQ, hSt, hfl⟩ := C
  intro ad H locs lsr hM hS hl h1 h2
  obtain ⟨L, hnd, hL, hP, hD, hrg, hT0⟩ := id hM
  have ho : a ∈ L := (hL a).mpr (by simp [hT])
  obtain ⟨q0, hq0⟩ := List.getElem?_of_mem ho
  have he : (zWd cs ad T FR AR FI AI L)[q0]? = some (ad a, .inl (cs.1, N, .inl fun j => Int32.ofInt (AI a (j : Int)))) := by rw [zWd, List.getElem?_map, hq0, ← zE_int hT]; rfl
  have hi3 : zr32 i := zhd h2
  have hin : vp_in (Int32.ofInt i) N := vp_in_iff.mpr (by rw [z32 hi3]; exact ⟨hi.1, hi.2⟩)
  have hcl : ((Int32.ofInt i).toNatClampNeg : Int) = i := by show (((Int32.ofInt i).toInt.toNat : Nat) : Int) = i; rw [z32 hi3]; exact Int.toNat_of_nonneg hi.1
  have kk' := kk ad H locs lsr hM hS hl h1 (zcons (show zr32 (AI a i) from by have := hrg.2.1 a i (by simp [hT]); rw [hT] at this; simpa using this) (ztl (ztl h2)))
  rw [List.map_cons, show zc ad (zI (AI a i)) = .int (Int32.ofInt (AI a i)) from rfl, ← hcl] at kk'
  refine va_iald hx hb hK hP q0 0 he rfl hin hd ?_
  rw [hcl] at kk' ⊢
  exact kk'
theorem zv_baload (C : zCx M Post G) {a N : Nat} {i : Int} (hd : decode M.2.1 pc = .ok (.baload, 1)) (hT : T a = (3, N)) (hi : 0 ≤ i ∧ i < N) (kk : zV G (pc + 1) ls (zI (AI a i) :: st) T FR AR FI AI k n) : zV G pc ls (zI i :: zR a :: st) T FR AR FI AI k n := by
  obtain ⟨p, l, e, R, s, m, args, below, meth, c, Q, A, D, cs, T0, ad0⟩ := G
  obtain ⟨hx, hb, hml, hr, hlk, hnm, hown, hts, hK, hA, hR, hQ, hSt, hfl⟩ := C
  intro ad H locs lsr hM hS hl h1 h2
  obtain ⟨L, hnd, hL, hP, hD, hrg, hT0⟩ := id hM
  have ho : a ∈ L := (hL a).mpr (by simp [hT])
  obtain ⟨q0, hq0⟩ := List.getElem?_of_mem ho
  have he : (zWd cs ad T FR AR FI AI L)[q0]? = some (ad a, .inl (cs.2.1, N, .inl fun j => Int32.ofInt (AI a (j : Int)))) := by rw [zWd, List.getElem?_map, hq0, ← zE_byte hT]; rfl
  have hi3 : zr32 i := zhd h2
  have hin : vp_in (Int32.ofInt i) N := vp_in_iff.mpr (by rw [z32 hi3]; exact ⟨hi.1, hi.2⟩)
  have hcl : ((Int32.ofInt i).toNatClampNeg : Int) = i := by show (((Int32.ofInt i).toInt.toNat : Nat) : Int) = i; rw [z32 hi3]; exact Int.toNat_of_nonneg hi.1
  have kk' := kk ad H locs lsr hM hS hl h1 (zcons (show zr32 (AI a i) from by have := hrg.2.1 a i (by simp [hT]); rw [hT] at this; simpa using this) (ztl (ztl h2)))
  rw [List.map_cons, show zc ad (zI (AI a i)) = .int (Int32.ofInt (AI a i)) from rfl, ← hcl] at kk'
  refine va_bald hx hb hK hP q0 1 he rfl hin hd ?_
  rw [hcl] at kk' ⊢
  exact kk'
theorem zv_laload (C : zCx M Post G) {a N : Nat} {i : Int} (hd : decode M.2.1 pc = .ok (.laload, 1)) (hT : T a = (4, N)) (hi : 0 ≤ i ∧ i < N) (kk : zV G (pc + 1) ls (zL (AI a i) :: st) T FR AR FI AI k n) : zV G pc ls (zI i :: zR a :: st) T FR AR FI AI k n := by
  obtain ⟨p, l, e, R, s, m, args, below, meth, c, Q, A, D, cs, T0, ad0⟩ := G
  obtain ⟨hx, hb, hml, hr, hlk, hnm, hown, hts, hK, hA, hR, hQ, hSt, hfl⟩ := C
  intro ad H locs lsr hM hS hl h1 h2
  obtain ⟨L, hnd, hL, hP, hD, hrg, hT0⟩ := id hM
  have ho : a ∈ L := (hL a).mpr (by simp [hT])
  obtain ⟨q0, hq0⟩ := List.getElem?_of_mem ho
  have he : (zWd cs ad T FR AR FI AI L)[q0]? = some (ad a, .inl (cs.2.2.1, N, .inr (.inl fun j => Int64.ofInt (AI a (j : Int))))) := by rw [zWd, List.getElem?_map, hq0, ← zE_long hT]; rfl
  have hi3 : zr32 i := zhd h2
  have hin : vp_in (Int32.ofInt i) N := vp_in_iff.mpr (by rw [z32 hi3]; exact ⟨hi.1, hi.2⟩)
  have hcl : ((Int32.ofInt i).toNatClampNeg : Int) = i := by show (((Int32.ofInt i).toInt.toNat : Nat) : Int) = i; rw [z32 hi3]; exact Int.toNat_of_nonneg hi.1
  have kk' := kk ad H locs lsr hM hS hl h1 (zcons (show zr64 (AI a i) from by have := hrg.2.1 a i (by simp [hT]); rw [hT] at this; simpa using this) (ztl (ztl h2)))
  rw [List.map_cons, show zc ad (zL (AI a i)) = .long (Int64.ofInt (AI a i)) from rfl, ← hcl] at kk'
  refine va_lald hx hb hK hP q0 2 he rfl hin hd ?_
  rw [hcl] at kk' ⊢
  exact kk'
theorem zv_aaload5 (C : zCx M Post G) {a N : Nat} {i : Int} (hd : decode M.2.1 pc = .ok (.aaload, 1)) (hT : T a = (5, N)) (hi : 0 ≤ i ∧ i < N) (kk : zV G (pc + 1) ls (zP (AR a i) :: st) T FR AR FI AI k n) : zV G pc ls (zI i :: zR a :: st) T FR AR FI AI k n := by
  obtain ⟨p, l, e, R, s, m, args, below, meth, c, Q, A, D, cs, T0, ad0⟩ := G
  obtain ⟨hx, hb, hml, hr, hlk, hnm, hown, hts, hK, hA, hR, hQ, hSt, hfl⟩ := C
  intro ad H locs lsr hM hS hl h1 h2
  obtain ⟨L, hnd, hL, hP, hD, hrg, hT0⟩ := id hM
  have ho : a ∈ L := (hL a).mpr (by simp [hT])
  obtain ⟨q0, hq0⟩ := List.getElem?_of_mem ho
  have he : (zWd cs ad T FR AR FI AI L)[q0]? = some (ad a, .inl (cs.2.2.2.1, N, .inr (.inr (.inr (.inr fun j => (AR a (j : Int)).map ad))))) := by rw [zWd, List.getElem?_map, hq0, ← zE_r5 hT]; rfl
  have hi3 : zr32 i := zhd h2
  have hin : vp_in (Int32.ofInt i) N := vp_in_iff.mpr (by rw [z32 hi3]; exact ⟨hi.1, hi.2⟩)
  have hcl : ((Int32.ofInt i).toNatClampNeg : Int) = i := by show (((Int32.ofInt i).toInt.toNat : Nat) : Int) = i; rw [z32 hi3]; exact Int.toNat_of_nonneg hi.1
  have kk' := kk ad H locs lsr hM hS hl h1 (zcons (show zok T (zP (AR a i)) from fun b hb9 => hrg.2.2.2 a i b (by simp [hT]) hb9) (ztl (ztl h2)))
  rw [List.map_cons, show zc ad (zP (AR a i)) = va_rf ((AR a i).map ad) from rfl] at kk'
  refine va_aldq hx hb hK hP q0 3 he rfl hin hd ?_
  rw [hcl]
  exact kk'
theorem zv_aaload6 (C : zCx M Post G) {a N : Nat} {i : Int} (hd : decode M.2.1 pc = .ok (.aaload, 1)) (hT : T a = (6, N)) (hi : 0 ≤ i ∧ i < N) (kk : zV G (pc + 1) ls (zP (AR a i) :: st) T FR AR FI AI k n) : zV G pc ls (zI i :: zR a :: st) T FR AR FI AI k n := by
  obtain ⟨p, l, e, R, s, m, args, below, meth, c, Q, A, D, cs, T0, ad0⟩ := G
  obtain ⟨hx, hb, hml, hr, hlk, hnm, hown, hts, hK, hA, hR, hQ, hSt, hfl⟩ := C
  intro ad H locs lsr hM hS hl h1 h2
  obtain ⟨L, hnd, hL, hP, hD, hrg, hT0⟩ := id hM
  have ho : a ∈ L := (hL a).mpr (by simp [hT])
  obtain ⟨q0, hq0⟩ := List.getElem?_of_mem ho
  have he : (zWd cs ad T FR AR FI AI L)[q0]? = some (ad a, .inl (cs.2.2.2.2, N, .inr (.inr (.inr (.inr fun j => (AR a (j : Int)).map ad))))) := by rw [zWd, List.getElem?_map, hq0, ← zE_r6 hT]; rfl
  have hi3 : zr32 i := zhd h2
  have hin : vp_in (Int32.ofInt i) N := vp_in_iff.mpr (by rw [z32 hi3]; exact ⟨hi.1, hi.2⟩)
  have hcl : ((Int32.ofInt i).toNatClampNeg : Int) = i := by show (((Int32.ofInt i).toInt.toNat : Nat) : Int) = i; rw [z32 hi3]; exact Int.toNat_of_nonneg hi.1
  have kk' := kk ad H locs lsr hM hS hl h1 (zcons (show zok T (zP (AR a i)) from fun b hb9 => hrg.2.2.2 a i b (by simp [hT]) hb9) (ztl (ztl h2)))
  rw [List.map_cons, show zc ad (zP (AR a i)) = va_rf ((AR a i).map ad) from rfl] at kk'
  refine va_aldq hx hb hK hP q0 4 he rfl hin hd ?_
  rw [hcl]
  exact kk'
theorem zv_alen (C : zCx M Post G) {a t N : Nat} (hd : decode M.2.1 pc = .ok (.arraylength, 1)) (hT : T a = (t, N)) (ht : (Nat.blt 1 t && Nat.blt t 7) = true) (hN : N < 2147483648) (kk : zV G (pc + 1) ls (zI (N : Int) :: st) T FR AR FI AI k n) : zV G pc ls (zR a :: st) T FR AR FI AI k n := by
  obtain ⟨p, l, e, R, s, m, args, below, meth, c, Q, A, D, cs, T0, ad0⟩ := G
  obtain ⟨hx, hb, hml, hr, hlk, hnm, hown, hts, hK, hA, hR, hQ, hSt, hfl⟩ := C
  intro ad H locs lsr hM hS hl h1 h2
  obtain ⟨L, hnd, hL, hP, hD, hrg, hT0⟩ := id hM
  rw [Bool.and_eq_true] at ht
  have t1 : 1 < t := Nat.le_of_ble_eq_true ht.1
  have t2 : t < 7 := Nat.le_of_ble_eq_true ht.2
  have ho : a ∈ L := (hL a).mpr (by rw [hT]; show t ≠ 0; omega)
  obtain ⟨q0, hq0⟩ := List.getElem?_of_mem ho
  have kk' := kk ad H locs lsr hM hS hl h1 (zcons (show zr32 (N : Int) from ⟨by omega, by omega⟩) (ztl h2))
  rcases (show t = 2 ∨ t = 3 ∨ t = 4 ∨ t = 5 ∨ t = 6 by omega) with e | e | e | e | e <;> subst e
  · exact va_alen (ty := .int) hx hb hK hP q0 0 (by rw [zWd, List.getElem?_map, hq0]; show some (ad a, zE cs ad T FR AR FI AI a) = _; rw [zE_int hT]) rfl (v := Int32.ofInt (N : Int)) Int32.ofInt_eq_ofNat.symm hd kk'
  · exact va_alen (ty := .byte) hx hb hK hP q0 1 (by rw [zWd, List.getElem?_map, hq0]; show some (ad a, zE cs ad T FR AR FI AI a) = _; rw [zE_byte hT]) rfl (v := Int32.ofInt (N : Int)) Int32.ofInt_eq_ofNat.symm hd kk'
  · exact va_alen (ty := .long) hx hb hK hP q0 2 (by rw [zWd, List.getElem?_map, hq0]; show some (ad a, zE cs ad T FR AR FI AI a) = _; rw [zE_long hT]) rfl (v := Int32.ofInt (N : Int)) Int32.ofInt_eq_ofNat.symm hd kk'
  · exact va_alen (ty := .object _) hx hb hK hP q0 3 (by rw [zWd, List.getElem?_map, hq0]; show some (ad a, zE cs ad T FR AR FI AI a) = _; rw [zE_r5 hT]) rfl (v := Int32.ofInt (N : Int)) Int32.ofInt_eq_ofNat.symm hd kk'
  · exact va_alen (ty := .object _) hx hb hK hP q0 4 (by rw [zWd, List.getElem?_map, hq0]; show some (ad a, zE cs ad T FR AR FI AI a) = _; rw [zE_r6 hT]) rfl (v := Int32.ofInt (N : Int)) Int32.ofInt_eq_ofNat.symm hd kk'
theorem zv_iastore (C : zCx M Post G) {a N : Nat} {i x : Int} (hd : decode M.2.1 pc = .ok (.iastore, 1)) (hT : T a = (2, N)) (hi : 0 ≤ i ∧ i < N) (kk : zV G (pc + 1) ls st T FR AR FI (zsA AI a i x) k n) : zV G pc ls (zI x :: zI i :: zR a :: st) T FR AR FI AI k n := by
  obtain ⟨p, l, e, R, s, m, args, below, meth, c, Q, A, D, cs, T0, ad0⟩ := G
  obtain ⟨hx, hb, hml, hr, hlk, hnm, hown, hts, hK, hA, hR, hQ, hSt, hfl⟩ := C
  intro ad H locs lsr hM hS hl h1 h2
  obtain ⟨L, hnd, hL, hP, hD, hrg, hT0⟩ := id hM
  have ho : a ∈ L := (hL a).mpr (by simp [hT])
  obtain ⟨q0, hq0⟩ := List.getElem?_of_mem ho
  have he : (zWd cs ad T FR AR FI AI L)[q0]? = some (ad a, .inl (cs.1, N, .inl fun j => Int32.ofInt (AI a (j : Int)))) := by rw [zWd, List.getElem?_map, hq0, ← zE_int hT]; rfl
  have hi3 : zr32 i := zhd (ztl h2)
  have hin : vp_in (Int32.ofInt i) N := vp_in_iff.mpr (by rw [z32 hi3]; exact ⟨hi.1, hi.2⟩)
  have hcl : ((Int32.ofInt i).toNatClampNeg : Int) = i := by show (((Int32.ofInt i).toInt.toNat : Nat) : Int) = i; rw [z32 hi3]; exact Int.toNat_of_nonneg hi.1
  have hr9 : zr32 x := zhd h2
  have e9 : (zWd cs ad T FR AR FI AI L).set q0 (ad a, .inl (cs.1, N, .inl (upd (fun j => Int32.ofInt (AI a (j : Int))) (Int32.ofInt i).toNatClampNeg (Int32.ofInt x)))) = zWd cs ad T FR AR FI (zsA AI a i x) L := by
    have hg := zset (f := fun k => (ad k, zE cs ad T FR AR FI AI k)) (g := fun k => (ad k, zE cs ad T FR AR FI (zsA AI a i x) k)) hnd hq0 (fun j9 _ hj9 => by show (ad j9, _) = (ad j9, _); congr 1; simp [zE, zsA, hj9])
    rw [zWd, zWd, ← hg]
    congr 3
    show Sum.inl _ = _
    rw [zE_int hT]
    congr 3
    congr 1
    funext q9
    by_cases hq9 : q9 = (Int32.ofInt i).toNatClampNeg
    · have hq8 : (q9 : Int) = i := by rw [hq9]; exact hcl
      simp only [upd, if_pos hq9, zsA, hq8, and_self, if_true]
      try exact rfl
    · have hq8 : ¬ (q9 : Int) = i := fun z => hq9 (by omega)
      simp only [upd, if_neg hq9, zsA, hq8, and_false, if_false]
  refine va_iast hx hb hK hP hD hS q0 0 he rfl hin hd (fun H1 locs1 hP1 hD1 hS1 => ?_)
  rw [e9] at hP1 hD1
  refine kk ad H1 locs1 lsr ⟨L, hnd, hL, hP1, hD1, ⟨hrg.1, fun k9 i9 h9 => ?_, hrg.2.2⟩, hT0⟩ hS1 hl h1 (ztl (ztl (ztl h2)))
  by_cases hk9 : k9 = a ∧ i9 = i
  · obtain ⟨r1, r2⟩ := hk9; subst r1; rw [hT]; simp only [zsA, r2, and_self, if_true]; exact hr9
  · simp only [zsA, if_neg hk9]; exact hrg.2.1 k9 i9 h9
theorem zv_bastore (C : zCx M Post G) {a N : Nat} {i x : Int} (hd : decode M.2.1 pc = .ok (.bastore, 1)) (hT : T a = (3, N)) (hi : 0 ≤ i ∧ i < N) (kk : zV G (pc + 1) ls st T FR AR FI (zsA AI a i (Int.bmod x 256)) k n) : zV G pc ls (zI x :: zI i :: zR a :: st) T FR AR FI AI k n := by
  obtain ⟨p, l, e, R, s, m, args, below, meth, c, Q, A, D, cs, T0, ad0⟩ := G
  obtain ⟨hx, hb, hml, hr, hlk, hnm, hown, hts, hK, hA, hR, hQ, hSt, hfl⟩ := C
  intro ad H locs lsr hM hS hl h1 h2
  obtain ⟨L, hnd, hL, hP, hD, hrg, hT0⟩ := id hM
  have ho : a ∈ L := (hL a).mpr (by simp [hT])
  obtain ⟨q0, hq0⟩ := List.getElem?_of_mem ho
  have he : (zWd cs ad T FR AR FI AI L)[q0]? = some (ad a, .inl (cs.2.1, N, .inl fun j => Int32.ofInt (AI a (j : Int)))) := by rw [zWd, List.getElem?_map, hq0, ← zE_byte hT]; rfl
  have hi3 : zr32 i := zhd (ztl h2)
  have hin : vp_in (Int32.ofInt i) N := vp_in_iff.mpr (by rw [z32 hi3]; exact ⟨hi.1, hi.2⟩)
  have hcl : ((Int32.ofInt i).toNatClampNeg : Int) = i := by show (((Int32.ofInt i).toInt.toNat : Nat) : Int) = i; rw [z32 hi3]; exact Int.toNat_of_nonneg hi.1
  have hb1 : -128 ≤ Int.bmod x 256 := by have := @Int.le_bmod x 256 (by decide); omega
  have hb2 : Int.bmod x 256 < 128 := by have := @Int.bmod_lt x 256 (by decide); omega
  have hr9 : zr32 (Int.bmod x 256) := ⟨by omega, by omega⟩
  have e9 : (zWd cs ad T FR AR FI AI L).set q0 (ad a, .inl (cs.2.1, N, .inl (upd (fun j => Int32.ofInt (AI a (j : Int))) (Int32.ofInt i).toNatClampNeg (vp_nar .byte (Int32.ofInt x))))) = zWd cs ad T FR AR FI (zsA AI a i (Int.bmod x 256)) L := by
    have hg := zset (f := fun k => (ad k, zE cs ad T FR AR FI AI k)) (g := fun k => (ad k, zE cs ad T FR AR FI (zsA AI a i (Int.bmod x 256)) k)) hnd hq0 (fun j9 _ hj9 => by show (ad j9, _) = (ad j9, _); congr 1; simp [zE, zsA, hj9])
    rw [zWd, zWd, ← hg]
    congr 3
    show Sum.inl _ = _
    rw [zE_byte hT]
    congr 3
    congr 1
    funext q9
    by_cases hq9 : q9 = (Int32.ofInt i).toNatClampNeg
    · have hq8 : (q9 : Int) = i := by rw [hq9]; exact hcl
      simp only [upd, if_pos hq9, zsA, hq8, and_self, if_true]
      try exact (by show vp_nar .byte (Int32.ofInt x) = _; rw [vp_nar_byte, ← Int32.toInt_inj, z32 hr9]; have hx3 : zr32 x := zhd h2; simp [z32 hx3])
    · have hq8 : ¬ (q9 : Int) = i := fun z => hq9 (by omega)
      simp only [upd, if_neg hq9, zsA, hq8, and_false, if_false]
  refine va_bast hx hb hK hP hD hS q0 1 he rfl hin hd (fun H1 locs1 hP1 hD1 hS1 => ?_)
  rw [e9] at hP1 hD1
  refine kk ad H1 locs1 lsr ⟨L, hnd, hL, hP1, hD1, ⟨hrg.1, fun k9 i9 h9 => ?_, hrg.2.2⟩, hT0⟩ hS1 hl h1 (ztl (ztl (ztl h2)))
  by_cases hk9 : k9 = a ∧ i9 = i
  · obtain ⟨r1, r2⟩ := hk9; subst r1; rw [hT]; simp only [zsA, r2, and_self, if_true]; exact hr9
  · simp only [zsA, if_neg hk9]; exact hrg.2.1 k9 i9 h9
theorem zv_lastore (C : zCx M Post G) {a N : Nat} {i x : Int} (hd : decode M.2.1 pc = .ok (.lastore, 1)) (hT : T a = (4, N)) (hi : 0 ≤ i ∧ i < N) (kk : zV G (pc + 1) ls st T FR AR FI (zsA AI a i x) k n) : zV G pc ls (zL x :: zI i :: zR a :: st) T FR AR FI AI k n := by
  obtain ⟨p, l, e, R, s, m, args, below, meth, c, Q, A, D, cs, T0, ad0⟩ := G
  obtain ⟨hx, hb, hml, hr, hlk, hnm, hown, hts, hK, hA, hR, hQ, hSt, hfl⟩ := C
  intro ad H locs lsr hM hS hl h1 h2
  obtain ⟨L, hnd, hL, hP, hD, hrg, hT0⟩ := id hM
  have ho : a ∈ L := (hL a).mpr (by simp [hT])
  obtain ⟨q0, hq0⟩ := List.getElem?_of_mem ho
  have he : (zWd cs ad T FR AR FI AI L)[q0]? = some (ad a, .inl (cs.2.2.1, N, .inr (.inl fun j => Int64.ofInt (AI a (j : Int))))) := by rw [zWd, List.getElem?_map, hq0, ← zE_long hT]; rfl
  have hi3 : zr32 i := zhd (ztl h2)
  have hin : vp_in (Int32.ofInt i) N := vp_in_iff.mpr (by rw [z32 hi3]; exact ⟨hi.1, hi.2⟩)
  have hcl : ((Int32.ofInt i).toNatClampNeg : Int) = i := by show (((Int32.ofInt i).toInt.toNat : Nat) : Int) = i; rw [z32 hi3]; exact Int.toNat_of_nonneg hi.1
  have hr9 : zr64 x := zhd h2
  have e9 : (zWd cs ad T FR AR FI AI L).set q0 (ad a, .inl (cs.2.2.1, N, .inr (.inl (vp_updL (fun j => Int64.ofInt (AI a (j : Int))) (Int32.ofInt i).toNatClampNeg (Int64.ofInt x))))) = zWd cs ad T FR AR FI (zsA AI a i x) L := by
    have hg := zset (f := fun k => (ad k, zE cs ad T FR AR FI AI k)) (g := fun k => (ad k, zE cs ad T FR AR FI (zsA AI a i x) k)) hnd hq0 (fun j9 _ hj9 => by show (ad j9, _) = (ad j9, _); congr 1; simp [zE, zsA, hj9])
    rw [zWd, zWd, ← hg]
    congr 3
    show Sum.inl _ = _
    rw [zE_long hT]
    congr 3
    congr 1
    congr 1
    funext q9
    by_cases hq9 : q9 = (Int32.ofInt i).toNatClampNeg
    · have hq8 : (q9 : Int) = i := by rw [hq9]; exact hcl
      simp only [vp_updL, if_pos hq9, zsA, hq8, and_self, if_true]
      try exact rfl
    · have hq8 : ¬ (q9 : Int) = i := fun z => hq9 (by omega)
      simp only [vp_updL, if_neg hq9, zsA, hq8, and_false, if_false]
  refine va_last hx hb hK hP hD hS q0 2 he rfl hin hd (fun H1 locs1 hP1 hD1 hS1 => ?_)
  rw [e9] at hP1 hD1
  refine kk ad H1 locs1 lsr ⟨L, hnd, hL, hP1, hD1, ⟨hrg.1, fun k9 i9 h9 => ?_, hrg.2.2⟩, hT0⟩ hS1 hl h1 (ztl (ztl (ztl h2)))
  by_cases hk9 : k9 = a ∧ i9 = i
  · obtain ⟨r1, r2⟩ := hk9; subst r1; rw [hT]; simp only [zsA, r2, and_self, if_true]; exact hr9
  · simp only [zsA, if_neg hk9]; exact hrg.2.1 k9 i9 h9
theorem zv_aastore5 (C : zCx M Post G) {a b N : Nat} {i : Int} (hd : decode M.2.1 pc = .ok (.aastore, 1)) (hT : T a = (5, N)) (hTb : T b = (1, 1)) (hi : 0 ≤ i ∧ i < N) (kk : zV G (pc + 1) ls st T FR (zsQ AR a i (some b)) FI AI k n) : zV G pc ls (zR b :: zI i :: zR a :: st) T FR AR FI AI k n := by
  obtain ⟨p, l, e, R, s, m, args, below, meth, c, Q, A, D, cs, T0, ad0⟩ := G
  obtain ⟨hx, hb, hml, hr, hlk, hnm, hown, hts, hK, hA, hR, hQ, hSt, hfl⟩ := C
  intro ad H locs lsr hM hS hl h1 h2
  obtain ⟨L, hnd, hL, hP, hD, hrg, hT0⟩ := id hM
  have ho : a ∈ L := (hL a).mpr (by simp [hT])
  obtain ⟨q0, hq0⟩ := List.getElem?_of_mem ho
  have he : (zWd cs ad T FR AR FI AI L)[q0]? = some (ad a, .inl (cs.2.2.2.1, N, .inr (.inr (.inr (.inr fun j => (AR a (j : Int)).map ad))))) := by rw [zWd, List.getElem?_map, hq0, ← zE_r5 hT]; rfl
  have hi3 : zr32 i := zhd (ztl h2)
  have hin : vp_in (Int32.ofInt i) N := vp_in_iff.mpr (by rw [z32 hi3]; exact ⟨hi.1, hi.2⟩)
  have hcl : ((Int32.ofInt i).toNatClampNeg : Int) = i := by show (((Int32.ofInt i).toInt.toNat : Nat) : Int) = i; rw [z32 hi3]; exact Int.toNat_of_nonneg hi.1
  have hob : b ∈ L := (hL b).mpr (by rw [hTb]; exact Nat.one_ne_zero)
  obtain ⟨q1, hq1⟩ := List.getElem?_of_mem hob
  have heb : (zWd cs ad T FR AR FI AI L)[q1]? = some (ad b, .inr (1, (List.range (znf 1)).map fun j => zfv ad FR FI b j (zty 1 j))) := by rw [zWd, List.getElem?_map, hq1, ← zE_obj hTb]; rfl
  have e9 : (zWd cs ad T FR AR FI AI L).set q0 (ad a, .inl (cs.2.2.2.1, N, .inr (.inr (.inr (.inr (va_up (fun j => (AR a (j : Int)).map ad) (Int32.ofInt i).toNatClampNeg (some (ad b)))))))) = zWd cs ad T FR (zsQ AR a i (some b)) FI AI L := by
    have hg := zset (f := fun k => (ad k, zE cs ad T FR AR FI AI k)) (g := fun k => (ad k, zE cs ad T FR (zsQ AR a i (some b)) FI AI k)) hnd hq0 (fun j9 _ hj9 => by show (ad j9, _) = (ad j9, _); congr 1; simp [zE, zsQ, hj9])
    rw [zWd, zWd, ← hg]
    congr 3
    show Sum.inl _ = _
    rw [zE_r5 hT]
    congr 6
    congr 1
    funext q9
    by_cases hq9 : q9 = (Int32.ofInt i).toNatClampNeg
    · have hq8 : (q9 : Int) = i := by rw [hq9]; exact hcl
      simp only [va_up, if_pos hq9, zsQ, hq8, and_self, if_true]
      rfl
    · have hq8 : ¬ (q9 : Int) = i := fun z => hq9 (by omega)
      simp only [va_up, if_neg hq9, zsQ, hq8, and_false, if_false]
  refine va_astq hx hb hK hP hD hS q0 3 q1 1 he rfl heb rfl hin hd (fun H1 locs1 hP1 hD1 hS1 => ?_)
  rw [e9] at hP1 hD1
  refine kk ad H1 locs1 lsr ⟨L, hnd, hL, hP1, hD1, ⟨hrg.1, hrg.2.1, hrg.2.2.1, fun k9 i9 b9 h9 hb9 => ?_⟩, hT0⟩ hS1 hl h1 (ztl (ztl (ztl h2)))
  by_cases hk9 : k9 = a ∧ i9 = i
  · simp only [zsQ, if_pos hk9] at hb9; cases hb9; rw [hTb]; exact Nat.one_ne_zero
  · simp only [zsQ, if_neg hk9] at hb9; exact hrg.2.2.2 k9 i9 b9 h9 hb9
theorem zv_aastore6 (C : zCx M Post G) {a b N : Nat} {i : Int} (hd : decode M.2.1 pc = .ok (.aastore, 1)) (hT : T a = (6, N)) (hTb : T b = (1, 2)) (hi : 0 ≤ i ∧ i < N) (kk : zV G (pc + 1) ls st T FR (zsQ AR a i (some b)) FI AI k n) : zV G pc ls (zR b :: zI i :: zR a :: st) T FR AR FI AI k n := by
  obtain ⟨p, l, e, R, s, m, args, below, meth, c, Q, A, D, cs, T0, ad0⟩ := G
  obtain ⟨hx, hb, hml, hr, hlk, hnm, hown, hts, hK, hA, hR, hQ, hSt, hfl⟩ := C
  intro ad H locs lsr hM hS hl h1 h2
  obtain ⟨L, hnd, hL, hP, hD, hrg, hT0⟩ := id hM
  have ho : a ∈ L := (hL a).mpr (by simp [hT])
  obtain ⟨q0, hq0⟩ := List.getElem?_of_mem ho
  have he : (zWd cs ad T FR AR FI AI L)[q0]? = some (ad a, .inl (cs.2.2.2.2, N, .inr (.inr (.inr (.inr fun j => (AR a (j : Int)).map ad))))) := by rw [zWd, List.getElem?_map, hq0, ← zE_r6 hT]; rfl
  have hi3 : zr32 i := zhd (ztl h2)
  have hin : vp_in (Int32.ofInt i) N := vp_in_iff.mpr (by rw [z32 hi3]; exact ⟨hi.1, hi.2⟩)
  have hcl : ((Int32.ofInt i).toNatClampNeg : Int) = i := by show (((Int32.ofInt i).toInt.toNat : Nat) : Int) = i; rw [z32 hi3]; exact Int.toNat_of_nonneg hi.1
  have hob : b ∈ L := (hL b).mpr (by rw [hTb]; exact Nat.one_ne_zero)
  obtain ⟨q1, hq1⟩ := List.getElem?_of_mem hob
  have heb : (zWd cs ad T FR AR FI AI L)[q1]? = some (ad b, .inr (2, (List.range (znf 2)).map fun j => zfv ad FR FI b j (zty 2 j))) := by rw [zWd, List.getElem?_map, hq1, ← zE_obj hTb]; rfl
  have e9 : (zWd cs ad T FR AR FI AI L).set q0 (ad a, .inl (cs.2.2.2.2, N, .inr (.inr (.inr (.inr (va_up (fun j => (AR a (j : Int)).map ad) (Int32.ofInt i).toNatClampNeg (some (ad b)))))))) = zWd cs ad T FR (zsQ AR a i (some b)) FI AI L := by
    have hg := zset (f := fun k => (ad k, zE cs ad T FR AR FI AI k)) (g := fun k => (ad k, zE cs ad T FR (zsQ AR a i (some b)) FI AI k)) hnd hq0 (fun j9 _ hj9 => by show (ad j9, _) = (ad j9, _); congr 1; simp [zE, zsQ, hj9])
    rw [zWd, zWd, ← hg]
    congr 3
    show Sum.inl _ = _
    rw [zE_r6 hT]
    congr 6
    congr 1
    funext q9
    by_cases hq9 : q9 = (Int32.ofInt i).toNatClampNeg
    · have hq8 : (q9 : Int) = i := by rw [hq9]; exact hcl
      simp only [va_up, if_pos hq9, zsQ, hq8, and_self, if_true]
      rfl
    · have hq8 : ¬ (q9 : Int) = i := fun z => hq9 (by omega)
      simp only [va_up, if_neg hq9, zsQ, hq8, and_false, if_false]
  refine va_astq hx hb hK hP hD hS q0 4 q1 2 he rfl heb rfl hin hd (fun H1 locs1 hP1 hD1 hS1 => ?_)
  rw [e9] at hP1 hD1
  refine kk ad H1 locs1 lsr ⟨L, hnd, hL, hP1, hD1, ⟨hrg.1, hrg.2.1, hrg.2.2.1, fun k9 i9 b9 h9 hb9 => ?_⟩, hT0⟩ hS1 hl h1 (ztl (ztl (ztl h2)))
  by_cases hk9 : k9 = a ∧ i9 = i
  · simp only [zsQ, if_pos hk9] at hb9; cases hb9; rw [hTb]; exact Nat.one_ne_zero
  · simp only [zsQ, if_neg hk9] at hb9; exact hrg.2.2.2 k9 i9 b9 h9 hb9
end ZHeap
end
section
theorem zsum (ad : Nat → Nat) : ∀ st : List zVal, ((st.map (zc ad)).map fun v => v.category).sum = (st.map zcat).sum := fun st => by
  rw [List.map_map]
  congr 1
  exact List.map_congr_left fun v _ => zcat_ok ad v
def zpush (ret : Option FieldType) (r : zVal) (st : List zVal) : List zVal := match ret with
  | none => st
  | some _ => r :: st
theorem zpush_ok {T T' : zTt} {ret : Option FieldType} {r : zVal} {st : List zVal} (h : zok T' r) (hT : ∀ k, (T k).1 ≠ 0 → (T' k).1 ≠ 0) (hs : ∀ v ∈ st, zok T v) : ∀ v ∈ zpush ret r st, zok T' v := by
  cases ret with
  | none => exact fun v hv => zok_ext hT (hs v hv)
  | some _ => exact zcons h (fun v hv => zok_ext hT (hs v hv))
theorem zpush_map {T : zTt} {ad ad' : Nat → Nat} {ret : Option FieldType} {r : zVal} {st : List zVal} (h : ∀ k, (T k).1 ≠ 0 → ad' k = ad k) (h' : ∀ i, ad' (zb + i) = ad (zb + i)) (hs : ∀ v ∈ st, zok T v) : (zpush ret r st).map (zc ad') = (zret ret ad' r).toList ++ st.map (zc ad) := by
  cases ret with
  | none => exact zst_ext h h' st hs
  | some _ => exact congrArg (List.cons _) (zst_ext h h' st hs)
/-- behind a call -/
theorem zback {p : Program} {l : Launch} {e : Env} {R : Room} {s : State} {m : MethodId} {args : Array Value} {below : List Frame} {meth : Method} {c : Code} {H : Heap} {locs : List Loc} {Q : State → Prop} {A : Nat → Prop} {D : va_G} {cs : zCs} {T0 T : zTt} {ad0 ad : Nat → Nat} {FR : zFR} {AR : zAR} {FI : zFI} {AI : zAI} {L : List Nat} {ret : Option FieldType} {a : Array Value} {mc ms pc k n : Nat} {lsr : Array Slot} {st0 : List Value} {ls : List (Option zVal)} {st : List zVal}
    (hD : va_D A (zWd cs ad T FR AR FI AI L)) (hS : va_S A s.heap H locs) (hA : ∀ q, s.heap.size ≤ q → A q) (hT0 : (∀ k, (T0 k).1 ≠ 0 → (T k).1 ≠ 0 ∧ ad k = ad0 k) ∧ ∀ i, ad (zb + i) = ad0 (zb + i)) (hl : lv_has lsr c.maxLocals (zlv ad 0 ls)) (h1 : ∀ v, some v ∈ ls → zok T v) (h2 : ∀ v ∈ st, zok T v)
    (hr : va_Run p l e R s m args below meth c H locs k n mc ms (F0 m pc lsr st0) (st.map (zc ad)) (zQ D cs T ad (fun r T FR AR FI AI => zV (p, l, e, R, s, m, args, below, meth, c, Q, A, D, cs, T0, ad0) (pc + 3) ls (zpush ret r st) T FR AR FI AI (k + mc) (n + ms)) ret (va_A (zWd cs ad T FR AR FI AI L) H.size) a) (va_A (zWd cs ad T FR AR FI AI L) H.size)) :
    W p l e R s m args below meth c H locs k n Q (F0 m pc lsr st0) := by
  have hF := zfree hD hS hA
  refine zcore_call hr hS hF (fun r T' FR' AR' FI' AI' ad' H1 locs1 hp hM1 ho hS1 => ?_)
  have hM2 := zM_up hM1 hF hT0
  obtain ⟨-, -, -, -, -, -, hT1⟩ := hM1
  have q1 : ∀ k, (T k).1 ≠ 0 → ad' k = ad k := fun k hk => (hT1.1 k hk).2
  have q2 : ∀ k, (T k).1 ≠ 0 → (T' k).1 ≠ 0 := fun k hk => (hT1.1 k hk).1
  have g := hp ad' H1 locs1 lsr hM2 hS1 (by rw [zlv_ext q1 hT1.2 ls 0 h1]; exact hl) (fun v hv => zok_ext q2 (h1 v hv)) (zpush_ok ho q2 h2)
  rw [zpush_map q1 hT1.2 h2] at g
  exact g
def zMv (M : zMd) (n : Nat) : Prop := zMk M n ∧ Cond.instanceMethod M.1 ∈ zWs ∧ Cond.selects M.1.cls M.1 M.1 ∈ zWs
def zMs (M : zMd) (n : Nat) : Prop := zMk M n ∧ Cond.static M.1 ∈ zWs
def zMi (M : zMd) (n : Nat) : Prop := zMk M n ∧ Cond.instanceMethod M.1 ∈ zWs ∧ M.1.name = "<init>" ∧ M.2.2.2.1 = none
section ZCalls
variable {M : zMd} {Post : zPost} {G : zG} {pc : Nat} {ls : List (Option zVal)} {st : List zVal} {T : zTt} {FR : zFR} {AR : zAR} {FI : zFI} {AI : zAI} {k n : Nat}
theorem zg_callV (C : zCx M Post G) {M' : zMd} {as : List zVal} {i o ci na : Nat} (hd : decode M.2.1 pc = .ok (.invokevirtual i, 3)) (hk : zMv M' na) (hl0 : Cond.methodLink M.1.cls i M'.1 ∈ zWs) (hT : T o = (1, ci)) (hci : (vwCl[ci]?).map (fun q => q.1) = some M'.1.cls) (hna : as.length = na) (hR9 : zRm M M') (hkc : k + M'.2.2.2.2.cells ≤ M.2.2.2.2.cells ∧ n + M'.2.2.2.2.slots ≤ M.2.2.2.2.slots) (hst : Nat.ble (st.map zcat).sum 8 = true) (hm : zMet M' (zR o :: as) T FR AR FI AI (fun r T FR AR FI AI => zV G (pc + 3) ls (zpush M'.2.2.2.1 r st) T FR AR FI AI (k + M'.2.2.2.2.cells) (n + M'.2.2.2.2.slots))) : zV G pc ls (as.reverse ++ zR o :: st) T FR AR FI AI k n := by
  obtain ⟨p, l, e, R, s, m, args, below, meth, c, Q, A, D, cs, T0, ad0⟩ := G
  obtain ⟨hx, hb, hml, hr, hlk, hnm, hown, hts, hK, hA, hR, hQ, hSt, hfl⟩ := C
  intro ad H locs lsr hM hS hl h1 h2
  obtain ⟨L, hnd, hL, hP, hD, hrg, hT0⟩ := id hM
  subst hR
  have hs9 : ∀ v ∈ st, zok T v := fun v hv => h2 v (List.mem_append_right _ (List.mem_cons_of_mem _ hv))
  have ha9 : ∀ v ∈ zR o :: as, zok T v := fun v hv => by
    rcases List.mem_cons.mp hv with h | h
    · rw [h]; exact h2 _ (List.mem_append_right _ List.mem_cons_self)
    · exact h2 v (List.mem_append_left _ (List.mem_reverse.mpr h))
  have ho : o ∈ L := (hL o).mpr (by simp [hT])
  obtain ⟨q0, hq0⟩ := List.getElem?_of_mem ho
  have he : (zWd cs ad T FR AR FI AI L)[q0]? = some (ad o, .inr (ci, (List.range (znf ci)).map fun j => zfv ad FR FI o j (zty ci j))) := by rw [zWd, List.getElem?_map, hq0, ← zE_obj hT]; rfl
  obtain ⟨cq, hcq, hcn⟩ := Option.map_eq_some_iff.mp hci
  have hrv := va_recv hK hP hcq he
  rw [hcn] at hrv
  refine zback (ret := M'.2.2.2.1) (mc := M'.2.2.2.2.cells) (ms := M'.2.2.2.2.slots) hD hS hA hT0 hl h1 hs9 (va_runV (As := as.map (zc ad)) (rest := st.map (zc ad)) (b := ad o) (nL := M.2.2.1) ⟨hx, hb, hml, hown, hts⟩ (hm l D cs ad L H.size hfl hnd hL hrg (hD.weaken (fun _ _ _ _ => trivial)) ha9) ⟨⟨rfl, rfl, hR9.1, hR9.2, zws_pay hk.1.1 hts, List.mem_cons_self, hts _ hk.1.1, hts _ hk.1.2.1, hk.1.2.2.1, fun sig h => by have h2 := hk.1.2.2.2; rw [h] at h2; exact (Option.some.inj h2).symm, hts _ hl0⟩, hts _ hk.2.1, hts _ hk.2.2⟩ ⟨zB_blind, hrv, fun U hU hW => ⟨rfl, by rw [hU], by rw [hU]; exact hP, va_K.moved hW.alike hK, ?_⟩⟩ rfl (by rw [List.length_map]; exact hna) (hl.1.trans hml) ?_ ?_ hd hkc)
  · rw [hU]; exact zSta.moved hW (by have h9 := ((hSt.kept hS.2.1).narrow (zfree hD hS hA)); have e9 : (fun i => ad0 (zb + i)) = fun i => ad (zb + i) := funext fun i => (hT0.2 i).symm; rw [e9] at h9; exact h9)
  · show (as.reverse ++ zR o :: st).map (zc ad) = (as.map (zc ad)).reverse ++ .ref (ad o) :: st.map (zc ad)
    rw [List.map_append, List.map_reverse]; rfl
  · exact lv_room (by rw [zsum]; exact Nat.le_of_ble_eq_true hst)
theorem zg_callS (C : zCx M Post G) {M' : zMd} {as : List zVal} {i na : Nat} (hd : decode M.2.1 pc = .ok (.invokestatic i, 3)) (hk : zMs M' na) (hl0 : Cond.methodLink M.1.cls i M'.1 ∈ zWs) (hna : as.length = na) (hR9 : zRm M M') (hkc : k + M'.2.2.2.2.cells ≤ M.2.2.2.2.cells ∧ n + M'.2.2.2.2.slots ≤ M.2.2.2.2.slots) (hst : Nat.ble (st.map zcat).sum 8 = true) (hm : zMet M' as T FR AR FI AI (fun r T FR AR FI AI => zV G (pc + 3) ls (zpush M'.2.2.2.1 r st) T FR AR FI AI (k + M'.2.2.2.2.cells) (n + M'.2.2.2.2.slots))) : zV G pc ls (as.reverse ++ st) T FR AR FI AI k n := by
  obtain ⟨p, l, e, R, s, m, args, below, meth, c, Q, A, D, cs, T0, ad0⟩ := G
  obtain ⟨hx, hb, hml, hr, hlk, hnm, hown, hts, hK, hA, hR, hQ, hSt, hfl⟩ := C
  intro ad H locs lsr hM hS hl h1 h2
  obtain ⟨L, hnd, hL, hP, hD, hrg, hT0⟩ := id hM
  subst hR
  have hs9 : ∀ v ∈ st, zok T v := fun v hv => h2 v (List.mem_append_right _ hv)
  have ha9 : ∀ v ∈ as, zok T v := fun v hv => h2 v (List.mem_append_left _ (List.mem_reverse.mpr hv))
  refine zback (ret := M'.2.2.2.1) (mc := M'.2.2.2.2.cells) (ms := M'.2.2.2.2.slots) hD hS hA hT0 hl h1 hs9 (va_runS (As := as.map (zc ad)) (rest := st.map (zc ad)) (nL := M.2.2.1) ⟨hx, hb, hml, hown, hts⟩ (hm l D cs ad L H.size hfl hnd hL hrg (hD.weaken (fun _ _ _ _ => trivial)) ha9) ⟨⟨rfl, rfl, hR9.1, hR9.2, zws_pay hk.1.1 hts, List.mem_cons_self, hts _ hk.1.1, hts _ hk.1.2.1, hk.1.2.2.1, fun sig h => by have h2 := hk.1.2.2.2; rw [h] at h2; exact (Option.some.inj h2).symm, hts _ hl0⟩, hts _ hk.2⟩ ⟨zB_blind, fun U hU hW => ⟨rfl, by rw [hU], by rw [hU]; exact hP, va_K.moved hW.alike hK, ?_⟩⟩ rfl (by rw [List.length_map]; exact hna) (hl.1.trans hml) ?_ ?_ hd hkc)
  · rw [hU]; exact zSta.moved hW (by have h9 := ((hSt.kept hS.2.1).narrow (zfree hD hS hA)); have e9 : (fun i => ad0 (zb + i)) = fun i => ad (zb + i) := funext fun i => (hT0.2 i).symm; rw [e9] at h9; exact h9)
  · show (as.reverse ++ st).map (zc ad) = (as.map (zc ad)).reverse ++ st.map (zc ad)
    rw [List.map_append, List.map_reverse]
  · exact lv_room (by rw [zsum]; exact Nat.le_of_ble_eq_true hst)
theorem zg_callI (C : zCx M Post G) {M' : zMd} {i o : Nat} (hd : decode M.2.1 pc = .ok (.invokespecial i, 3)) (hk : zMi M' 0) (hl0 : Cond.methodLink M.1.cls i M'.1 ∈ zWs) (hR9 : zRm M M') (hkc : k + M'.2.2.2.2.cells ≤ M.2.2.2.2.cells ∧ n + M'.2.2.2.2.slots ≤ M.2.2.2.2.slots) (hst : Nat.ble (st.map zcat).sum 8 = true) (hm : zMet M' [zR o] T FR AR FI AI (fun r T FR AR FI AI => zV G (pc + 3) ls (zpush M'.2.2.2.1 r st) T FR AR FI AI (k + M'.2.2.2.2.cells) (n + M'.2.2.2.2.slots))) : zV G pc ls (zR o :: st) T FR AR FI AI k n := by
  obtain ⟨p, l, e, R, s, m, args, below, meth, c, Q, A, D, cs, T0, ad0⟩ := G
  obtain ⟨hx, hb, hml, hr, hlk, hnm, hown, hts, hK, hA, hR, hQ, hSt, hfl⟩ := C
  intro ad H locs lsr hM hS hl h1 h2
  obtain ⟨L, hnd, hL, hP, hD, hrg, hT0⟩ := id hM
  subst hR
  have hs9 : ∀ v ∈ st, zok T v := ztl h2
  have ha9 : ∀ v ∈ [zR o], zok T v := zcons (zhd h2) (fun v hv => nomatch hv)
  obtain ⟨y', c', L', r', R'⟩ := M'
  have hret : r' = none := hk.2.2.2
  subst hret
  refine zback (ret := none) (mc := R'.cells) (ms := R'.slots) hD hS hA hT0 hl h1 hs9 (va_runI (As := []) (rest := st.map (zc ad)) (b := ad o) (nL := M.2.2.1) ⟨hx, hb, hml, hown, hts⟩ (hm l D cs ad L H.size hfl hnd hL hrg (hD.weaken (fun _ _ _ _ => trivial)) ha9) ⟨⟨rfl, rfl, hR9.1, hR9.2, zws_pay hk.1.1 hts, List.mem_cons_self, hts _ hk.1.1, hts _ hk.1.2.1, hk.1.2.2.1, fun sig h => by have h2 := hk.1.2.2.2; rw [h] at h2; exact (Option.some.inj h2).symm, hts _ hl0⟩, hk.2.2.1, hts _ hk.2.1⟩ ⟨zB_blind, fun U hU hW => ⟨rfl, by rw [hU], by rw [hU]; exact hP, va_K.moved hW.alike hK, ?_⟩⟩ rfl rfl (hl.1.trans hml) rfl ?_ hd hkc)
  · rw [hU]; exact zSta.moved hW (by have h9 := ((hSt.kept hS.2.1).narrow (zfree hD hS hA)); have e9 : (fun i => ad0 (zb + i)) = fun i => ad (zb + i) := funext fun i => (hT0.2 i).symm; rw [e9] at h9; exact h9)
  · exact lv_room (by rw [zsum]; exact Nat.le_of_ble_eq_true hst)
theorem zg_callIN (C : zCx M Post G) {M' : zMd} {i o : Nat} {host : String} (hd : decode M.2.1 pc = .ok (.invokespecial i, 3)) (hk : zMi M' 0) (hl0 : Cond.methodLinkNest M.1.cls i M'.1 host ∈ zWs) (hR9 : zRm M M') (hkc : k + M'.2.2.2.2.cells ≤ M.2.2.2.2.cells ∧ n + M'.2.2.2.2.slots ≤ M.2.2.2.2.slots) (hst : Nat.ble (st.map zcat).sum 8 = true) (hm : zMet M' [zR o] T FR AR FI AI (fun r T FR AR FI AI => zV G (pc + 3) ls (zpush M'.2.2.2.1 r st) T FR AR FI AI (k + M'.2.2.2.2.cells) (n + M'.2.2.2.2.slots))) : zV G pc ls (zR o :: st) T FR AR FI AI k n := by
  obtain ⟨p, l, e, R, s, m, args, below, meth, c, Q, A, D, cs, T0, ad0⟩ := G
  obtain ⟨hx, hb, hml, hr, hlk, hnm, hown, hts, hK, hA, hR, hQ, hSt, hfl⟩ := C
  intro ad H locs lsr hM hS hl h1 h2
  obtain ⟨L, hnd, hL, hP, hD, hrg, hT0⟩ := id hM
  subst hR
  have hs9 : ∀ v ∈ st, zok T v := ztl h2
  have ha9 : ∀ v ∈ [zR o], zok T v := zcons (zhd h2) (fun v hv => nomatch hv)
  obtain ⟨y', c', L', r', R'⟩ := M'
  have hret : r' = none := hk.2.2.2
  subst hret
  refine zback (ret := none) (mc := R'.cells) (ms := R'.slots) hD hS hA hT0 hl h1 hs9 (va_runIN (As := []) (rest := st.map (zc ad)) (b := ad o) (nL := M.2.2.1) ⟨hx, hb, hml, hown, hts⟩ (hm l D cs ad L H.size hfl hnd hL hrg (hD.weaken (fun _ _ _ _ => trivial)) ha9) ⟨⟨⟨rfl, rfl, hR9.1, hR9.2, zws_pay hk.1.1 hts, List.mem_cons_self⟩, hts _ hk.1.1, hts _ hk.1.2.1, hk.1.2.2.1, fun sig h => by have h2 := hk.1.2.2.2; rw [h] at h2; exact (Option.some.inj h2).symm, hts _ hl0⟩, hk.2.2.1, hts _ hk.2.1⟩ ⟨zB_blind, fun U hU hW => ⟨rfl, by rw [hU], by rw [hU]; exact hP, va_K.moved hW.alike hK, ?_⟩⟩ rfl rfl (hl.1.trans hml) rfl ?_ hd hkc)
  · rw [hU]; exact zSta.moved hW (by have h9 := ((hSt.kept hS.2.1).narrow (zfree hD hS hA)); have e9 : (fun i => ad0 (zb + i)) = fun i => ad (zb + i) := funext fun i => (hT0.2 i).symm; rw [e9] at h9; exact h9)
  · exact lv_room (by rw [zsum]; exact Nat.le_of_ble_eq_true hst)
theorem zv_objInit (C : zCx M Post G) {i o : Nat} (hd : decode M.2.1 pc = .ok (.invokespecial i, 3)) (hl0 : Cond.methodLink M.1.cls i objectInit ∈ zWs) (hi0 : Cond.instanceMethod objectInit ∈ zWs) (hc0 : Cond.code objectInit ⟨#[0xb1]⟩ 1 none ∈ zWs) (hfr : 1 ≤ M.2.2.2.2.frames) (hlo : (st.map zcat).sum + 12 ≤ M.2.2.2.2.locals) (kk : zV G (pc + 3) ls st T FR AR FI AI k n) : zV G pc ls (zR o :: st) T FR AR FI AI k n := by
  obtain ⟨p, l, e, R, s, m, args, below, meth, c, Q, A, D, cs, T0, ad0⟩ := G
  obtain ⟨hx, hb, hml, hr, hlk, hnm, hown, hts, hK, hA, hR, hQ, hSt, hfl⟩ := C
  intro ad H locs lsr hM hS hl h1 h2
  subst hR
  exact W.objInit hx hb hown (hts _ hl0) (hts _ hi0) (hts _ hc0) rfl hl.1 rfl hd hfr (by show 2 * 0 + _ + 12 ≤ _; rw [zsum]; omega) (kk ad H locs lsr hM hS hl h1 (ztl h2))
theorem zv_min (C : zCx M Post G) {i : Nat} {x y : Int} (hd : decode M.2.1 pc = .ok (.invokestatic i, 3)) (hl0 : Cond.methodLink M.1.cls i Lib.Math.min.name ∈ zWs) (hs0 : Cond.static Lib.Math.min.name ∈ zWs) (hi0 : Cond.initialized "java/lang/Math" ∈ zWs) (hc0 : Cond.code Lib.Math.min.name Lib.Math.min.code 2 (some .int) ∈ zWs) (hfr : 1 ≤ M.2.2.2.2.frames) (hlo : (st.map zcat).sum + 13 ≤ M.2.2.2.2.locals) (hkc : k ≤ M.2.2.2.2.cells ∧ n ≤ M.2.2.2.2.slots) (kk : zV G (pc + 3) ls (zI (min x y) :: st) T FR AR FI AI k n) : zV G pc ls (zI y :: zI x :: st) T FR AR FI AI k n := by
  obtain ⟨p, l, e, R, s, m, args, below, meth, c, Q, A, D, cs, T0, ad0⟩ := G
  obtain ⟨hx, hb, hml, hr, hlk, hnm, hown, hts, hK, hA, hR, hQ, hSt, hfl⟩ := C
  intro ad H locs lsr hM hS hl h1 h2
  subst hR
  have hx3 : zr32 x := zhd (ztl h2)
  have hy3 : zr32 y := zhd h2
  have hmr : zr32 (min x y) := by
    by_cases hxy : x ≤ y
    · rw [Int.min_eq_left hxy]; exact hx3
    · rw [Int.min_eq_right (by omega)]; exact hy3
  have kk' := kk ad H locs lsr hM hS hl h1 (zcons hmr (ztl (ztl h2)))
  have e1 : zc ad (zI (min x y)) = .int (if Int32.ofInt y < Int32.ofInt x then Int32.ofInt y else Int32.ofInt x) := by
    by_cases hxy : y < x
    · rw [if_pos ((z32lt hy3 hx3).mpr hxy), Int.min_eq_right (by omega)]; rfl
    · rw [if_neg (fun z => hxy ((z32lt hy3 hx3).mp z)), Int.min_eq_left (by omega)]; rfl
  rw [List.map_cons, e1] at kk'
  exact va_mmin hx hb hl.1.symm hown (hts _ hl0) (hts _ hs0) (hts _ hi0) (hts _ hc0) hfr (by rw [zsum]; exact hlo) hkc.1 hkc.2 hd kk'
def zcpA (AI : zAI) (a b : Nat) (sp dp m : Int) : zAI := fun c i => if c = b ∧ dp ≤ i ∧ i < dp + m then AI a (sp + (i - dp)) else AI c i
theorem zv_copyI (C : zCx M Post G) {i a b N1 N2 : Nat} {sp dp mm : Int} (hd : decode M.2.1 pc = .ok (.invokestatic i, 3)) (hl0 : Cond.methodLink M.1.cls i arraycopyName ∈ zWs) (hn0 : Cond.native arraycopyName ∈ zWs) (hs0 : Cond.static arraycopyName ∈ zWs) (hi0 : Cond.initialized "java/lang/System" ∈ zWs) (hfr : 1 ≤ M.2.2.2.2.frames) (hlo : (st.map zcat).sum + (nativeFrameWords "java/lang/System" "arraycopy" 5 + 11) ≤ M.2.2.2.2.locals) (hTa : T a = (2, N1)) (hTb : T b = (2, N2)) (hab : a ≠ b) (g1 : 0 ≤ sp) (g2 : 0 ≤ dp) (g3 : 0 ≤ mm) (g4 : sp + mm ≤ N1) (g5 : dp + mm ≤ N2) (kk : zV G (pc + 3) ls st T FR AR FI (zcpA AI a b sp dp mm) k n) : zV G pc ls (zI mm :: zI dp :: zR b :: zI sp :: zR a :: st) T FR AR FI AI k n := by
  obtain ⟨p, l, e, R, s, m, args, below, meth, c, Q, A, D, cs, T0, ad0⟩ := G
  obtain ⟨hx, hb, hml, hr, hlk, hnm, hown, hts, hK, hA, hR, hQ, hSt, hfl⟩ := C
  intro ad H locs lsr hM hS hl h1 h2
  subst hR
  obtain ⟨L, hnd, hL, hP, hD, hrg, hT0⟩ := id hM
  have hoa : a ∈ L := (hL a).mpr (by simp [hTa])
  obtain ⟨q0, hq0⟩ := List.getElem?_of_mem hoa
  have hob : b ∈ L := (hL b).mpr (by simp [hTb])
  obtain ⟨q1, hq1⟩ := List.getElem?_of_mem hob
  have hea : (zWd cs ad T FR AR FI AI L)[q0]? = some (ad a, .inl (cs.1, N1, .inl fun j => Int32.ofInt (AI a (j : Int)))) := by rw [zWd, List.getElem?_map, hq0, ← zE_int hTa]; rfl
  have heb : (zWd cs ad T FR AR FI AI L)[q1]? = some (ad b, .inl (cs.1, N2, .inl fun j => Int32.ofInt (AI b (j : Int)))) := by rw [zWd, List.getElem?_map, hq1, ← zE_int hTb]; rfl
  have r1 : zr32 mm := zhd h2
  have r2 : zr32 dp := zhd (ztl h2)
  have r3 : zr32 sp := zhd (ztl (ztl (ztl h2)))
  have cl : ∀ x : Int, zr32 x → 0 ≤ x → ((Int32.ofInt x).toNatClampNeg : Int) = x := fun x hx9 h0 => by show (((Int32.ofInt x).toInt.toNat : Nat) : Int) = x; rw [z32 hx9]; exact Int.toNat_of_nonneg h0
  have nn : ∀ x : Int, zr32 x → 0 ≤ x → ¬ Int32.ofInt x < 0 := fun x hx9 h0 z => by rw [z32z, z32lt hx9 zr0] at z; omega
  have c1 := cl mm r1 g3
  have c2 := cl dp r2 g2
  have c3 := cl sp r3 g1
  have e9 : (zWd cs ad T FR AR FI AI L).set q1 (ad b, .inl (cs.1, N2, .inl (va_cpy (fun j => Int32.ofInt (AI a (j : Int))) (fun j => Int32.ofInt (AI b (j : Int))) (Int32.ofInt sp).toNatClampNeg (Int32.ofInt dp).toNatClampNeg (Int32.ofInt mm).toNatClampNeg))) = zWd cs ad T FR AR FI (zcpA AI a b sp dp mm) L := by
    have hg := zset (f := fun k => (ad k, zE cs ad T FR AR FI AI k)) (g := fun k => (ad k, zE cs ad T FR AR FI (zcpA AI a b sp dp mm) k)) hnd hq1 (fun j9 _ hj9 => by show (ad j9, _) = (ad j9, _); congr 1; simp [zE, zcpA, hj9])
    rw [zWd, zWd, ← hg]
    congr 3
    show Sum.inl _ = _
    rw [zE_int hTb]
    congr 3
    congr 1
    funext q9
    by_cases hq9 : (Int32.ofInt dp).toNatClampNeg ≤ q9 ∧ q9 < (Int32.ofInt dp).toNatClampNeg + (Int32.ofInt mm).toNatClampNeg
    · have hq8 : dp ≤ (q9 : Int) ∧ (q9 : Int) < dp + mm := by omega
      simp only [va_cpy, if_pos hq9, zcpA, hq8, and_self, if_true]
      congr 2
      omega
    · have hq8 : ¬ (dp ≤ (q9 : Int) ∧ (q9 : Int) < dp + mm) := by omega
      simp only [va_cpy, if_neg hq9, zcpA, hq8, and_false, if_false]
  refine va_copyi hx hb hl.1.symm hown (hts _ hl0) (hts _ hn0) (hts _ hs0) (hts _ hi0) hK hP hD hS q0 q1 0 0 hea heb (ty := .int) rfl rfl rfl (nn sp r3 g1) (nn dp r2 g2) (nn mm r1 g3) (by omega) (by omega) (fun _ _ => rfl) hfr (by rw [zsum]; exact hlo) hd (fun H1 locs1 hP1 hD1 hS1 => ?_)
  rw [e9] at hP1 hD1
  refine kk ad H1 locs1 lsr ⟨L, hnd, hL, hP1, hD1, ⟨hrg.1, fun k9 i9 h9 => ?_, hrg.2.2⟩, hT0⟩ hS1 hl h1 (ztl (ztl (ztl (ztl (ztl h2)))))
  by_cases hk9 : k9 = b ∧ dp ≤ i9 ∧ i9 < dp + mm
  · have g8 := hrg.2.1 a (sp + (i9 - dp)) (by simp [hTa])
    rw [hTa] at g8
    obtain ⟨r4, r5⟩ := hk9
    subst r4
    simp only [zcpA, r5, and_self, if_true, hTb]
    exact g8
  · simp only [zcpA, if_neg hk9]; exact hrg.2.1 k9 i9 h9
end ZCalls
end
section
def zdf : FieldType → Bool
  | .int => true
  | .long => true
  | .object _ => true
  | .array _ => true
  | _ => false
/-- a new cell: the others stay as they are -/
theorem zE_new {cs : zCs} {ad : Nat → Nat} {T : zTt} {FR : zFR} {AR : zAR} {FI : zFI} {AI : zAI} {h q : Nat} {t : Nat × Nat} (hrg : zrg T FR AR FI AI) (hh : (T h).1 = 0) {j : Nat} (hj : (T j).1 ≠ 0) : zE cs (va_up ad h q) (zsT T h t) (zzR FR h) (zzQ AR h) (zzF FI h) (zzA AI h) j = zE cs ad T FR AR FI AI j := by
  have hne : j ≠ h := fun e => hj (by rw [e]; exact hh)
  have hm : ∀ r : Option Nat, (∀ b, r = some b → (T b).1 ≠ 0) → r.map (va_up ad h q) = r.map ad := by
    intro r hr
    cases r with
    | none => rfl
    | some b =>
      have hb : b ≠ h := fun e => hr b rfl (by rw [e]; exact hh)
      simp [va_up, hb]
  have e1 : ∀ i, (FR j i).map (va_up ad h q) = (FR j i).map ad := fun i => hm _ (fun b hb => hrg.2.2.1 j i b hj hb)
  have e2 : ∀ i, (AR j i).map (va_up ad h q) = (AR j i).map ad := fun i => hm _ (fun b hb => hrg.2.2.2 j i b hj hb)
  have e3 : ∀ i ty, zfv (va_up ad h q) (zzR FR h) (zzF FI h) j i ty = zfv ad FR FI j i ty := by
    intro i ty
    cases ty <;> simp [zfv, zzR, zzF, hne, e1]
  simp only [zE, zsT, if_neg hne, e3, zzA, zzQ, e2]
theorem zrg_new {T : zTt} {FR : zFR} {AR : zAR} {FI : zFI} {AI : zAI} {h : Nat} {t : Nat × Nat} (hrg : zrg T FR AR FI AI) (hh : (T h).1 = 0) (ht : t.1 ≠ 0) : zrg (zsT T h t) (zzR FR h) (zzQ AR h) (zzF FI h) (zzA AI h) := by
  have up : ∀ b, (T b).1 ≠ 0 → (zsT T h t b).1 ≠ 0 := by
    intro b hb
    by_cases e : b = h
    · subst e; exact absurd hh hb
    · simp only [zsT, if_neg e]; exact hb
  refine ⟨fun k j hk => ?_, fun k i hk => ?_, fun k j b hk hb => ?_, fun k i b hk hb => ?_⟩
  · by_cases e : k = h
    · subst e; simp only [zzF, if_true]; split <;> exact ⟨by decide, by decide⟩
    · simp only [zsT, if_neg e, zzF] at hk ⊢; exact hrg.1 k j hk
  · by_cases e : k = h
    · subst e; simp only [zzA, if_true]; split <;> exact ⟨by decide, by decide⟩
    · simp only [zsT, if_neg e, zzA] at hk ⊢; exact hrg.2.1 k i hk
  · by_cases e : k = h
    · subst e; simp [zzR] at hb
    · simp only [zsT, if_neg e, zzR] at hk hb; exact up b (hrg.2.2.1 k j b hk hb)
  · by_cases e : k = h
    · subst e; simp [zzQ] at hb
    · simp only [zsT, if_neg e, zzQ] at hk hb; exact up b (hrg.2.2.2 k i b hk hb)
section ZAlloc
variable {M : zMd} {Post : zPost} {G : zG} {pc : Nat} {ls : List (Option zVal)} {st : List zVal} {T : zTt} {FR : zFR} {AR : zAR} {FI : zFI} {AI : zAI} {k n : Nat}
theorem zgrow {p : Program} {l : Launch} {e : Env} {R : Room} {s : State} {m : MethodId} {args : Array Value} {below : List Frame} {meth : Method} {c : Code} {H1 : Heap} {locs : List Loc} {Q : State → Prop} {A : Nat → Prop} {D : va_G} {cs : zCs} {T0 : zTt} {ad0 ad : Nat → Nat} {L : List Nat} {h q : Nat} {t : Nat × Nat} {lsr : Array Slot} {pc' : Nat}
    (hnd : L.Nodup) (hL : ∀ k, k ∈ L ↔ (T k).1 ≠ 0) (hrg : zrg T FR AR FI AI) (hT0 : (∀ k, (T0 k).1 ≠ 0 → (T k).1 ≠ 0 ∧ ad k = ad0 k) ∧ ∀ i, ad (zb + i) = ad0 (zb + i)) (hh : (T h).1 = 0) (hzb : h < zb) (ht : t.1 ≠ 0) (hl : lv_has lsr c.maxLocals (zlv ad 0 ls)) (h1 : ∀ v, some v ∈ ls → zok T v) (h2 : ∀ v ∈ st, zok T v)
    (hP : va_P D vwCl (zWd cs ad T FR AR FI AI L ++ [(q, zE cs (va_up ad h q) (zsT T h t) (zzR FR h) (zzQ AR h) (zzF FI h) (zzA AI h) h)]) H1) (hD : va_D A (zWd cs ad T FR AR FI AI L ++ [(q, zE cs (va_up ad h q) (zsT T h t) (zzR FR h) (zzQ AR h) (zzF FI h) (zzA AI h) h)])) (hS : va_S A s.heap H1 locs)
    (kk : zV (p, l, e, R, s, m, args, below, meth, c, Q, A, D, cs, T0, ad0) pc' ls (zR h :: st) (zsT T h t) (zzR FR h) (zzQ AR h) (zzF FI h) (zzA AI h) k n) : W p l e R s m args below meth c H1 locs k n Q (F0 m pc' lsr (.ref q :: st.map (zc ad))) := by
  have hw : zWd cs ad T FR AR FI AI L ++ [(q, zE cs (va_up ad h q) (zsT T h t) (zzR FR h) (zzQ AR h) (zzF FI h) (zzA AI h) h)] = zWd cs (va_up ad h q) (zsT T h t) (zzR FR h) (zzQ AR h) (zzF FI h) (zzA AI h) (L ++ [h]) := by
    rw [zWd, zWd, List.map_append]
    congr 1
    · refine List.map_congr_left fun j hj => ?_
      have hj0 := (hL j).mp hj
      have hne : j ≠ h := fun e => hj0 (by rw [e]; exact hh)
      rw [zE_new hrg hh hj0]
      simp [va_up, hne]
    · simp [va_up]
  rw [hw] at hP hD
  have hn : h ∉ L := fun z => (hL h).mp z hh
  have q1 : ∀ k, (T k).1 ≠ 0 → va_up ad h q k = ad k := fun k hk => by
    have hne : k ≠ h := fun e => hk (by rw [e]; exact hh)
    simp [va_up, hne]
  have q2 : ∀ k, (T k).1 ≠ 0 → (zsT T h t k).1 ≠ 0 := fun k hk => by
    have hne : k ≠ h := fun e => hk (by rw [e]; exact hh)
    simp only [zsT, if_neg hne]; exact hk
  have q3 : ∀ i, va_up ad h q (zb + i) = ad (zb + i) := fun i => by
    have hne : zb + i ≠ h := by omega
    simp [va_up, hne]
  have hM : zM A D cs T0 ad0 (va_up ad h q) (zsT T h t) (zzR FR h) (zzQ AR h) (zzF FI h) (zzA AI h) H1 := by
    refine ⟨L ++ [h], ?_, fun k => ?_, hP, hD, zrg_new hrg hh ht, fun k hk => ?_, fun i => (q3 i).trans (hT0.2 i)⟩
    · rw [List.nodup_append]
      exact ⟨hnd, by simp, fun a ha b hb => by rw [List.mem_singleton.mp hb]; exact fun e => hn (e ▸ ha)⟩
    · rw [List.mem_append, List.mem_singleton]
      by_cases e : k = h
      · subst e; simp only [zsT, if_true]; exact ⟨fun _ => ht, fun _ => Or.inr trivial⟩
      · simp only [zsT, if_neg e]; rw [← hL k]; exact ⟨fun z => z.resolve_right e, Or.inl⟩
    · obtain ⟨a1, a2⟩ := hT0.1 k hk
      exact ⟨q2 k a1, (q1 k a1).trans a2⟩
  have g := kk (va_up ad h q) H1 locs lsr hM hS (by rw [zlv_ext q1 q3 ls 0 h1]; exact hl) (fun v hv => zok_ext q2 (h1 v hv)) (zcons (fun b hb => by cases hb; simp only [zsT, if_true]; exact ht) (fun v hv => zok_ext q2 (h2 v hv)))
  rw [List.map_cons, zst_ext q1 q3 st h2, show zc (va_up ad h q) (zR h) = .ref q from congrArg Value.ref (by simp [va_up])] at g
  exact g
theorem zv_new (C : zCx M Post G) {i ci : Nat} {Cn : String} {Tc : u_T} (h : Nat) (hd : decode M.2.1 pc = .ok (.new i, 3)) (hcl : zCl ci Cn Tc) (hlk0 : Cond.classLink M.1.cls i Cn ∈ zWs) (hin0 : Cond.instantiable Cn (znf ci) ∈ zWs) (hini : Cond.initialized Cn ∈ zWs) (hdf : ∀ j, j < znf ci → zdf (zty ci j) = true) (hh : (T h).1 = 0) (hzb : Nat.blt h zb = true) (hkc : k + 1 ≤ M.2.2.2.2.cells ∧ n + znf ci ≤ M.2.2.2.2.slots) (kk : zV G (pc + 3) ls (zR h :: st) (zsT T h (1, ci)) (zzR FR h) (zzQ AR h) (zzF FI h) (zzA AI h) (k + 1) (n + znf ci)) : zV G pc ls st T FR AR FI AI k n := by
  obtain ⟨p, l, e, R, s, m, args, below, meth, c, Q, A, D, cs, T0, ad0⟩ := G
  obtain ⟨hx, hb, hml, hr, hlk, hnm, hown, hts, hK, hA, hR, hQ, hSt, hfl⟩ := C
  intro ad H locs lsr hM hS hl h1 h2
  subst hR
  obtain ⟨L, hnd, hL, hP, hD, hrg, hT0⟩ := id hM
  refine va_new (ci := ci) (fs := (List.range (znf ci)).map fun j => zfv ad (zzR FR h) (zzF FI h) h j (zty ci j)) (C := Cn) (T := Tc) (N := znf ci) hx hb hts hcl.2.1 (zty ci) hcl.2.2.1 hown (hts _ hlk0) (hts _ hin0) (hts _ hini) hK hP hD hS hA hcl.1 ?_ hkc.1 hkc.2 hd (fun q H1 hP1 hD1 hS1 => ?_)
  · intro j hj
    have hv : vp_V ((List.range (znf ci)).map fun j => zfv ad (zzR FR h) (zzF FI h) h j (zty ci j)) j = zfv ad (zzR FR h) (zzF FI h) h j (zty ci j) := by
      simp [vp_V, hj]
    rw [hv]
    have hq := hdf j hj
    revert hq
    cases zty ci j <;> intro hq <;> first | (cases hq; done) | (simp [zfv, zzR, zzF, defaultValue, va_rf]; done) | (simp [zfv, zzR, zzF, defaultValue, va_rf]; rfl)
  · have e9 : zE cs (va_up ad h q) (zsT T h (1, ci)) (zzR FR h) (zzQ AR h) (zzF FI h) (zzA AI h) h = .inr (ci, (List.range (znf ci)).map fun j => zfv ad (zzR FR h) (zzF FI h) h j (zty ci j)) := by
      rw [zE_obj (ci := ci) (by simp [zsT])]
      congr 2
      refine List.map_congr_left fun j _ => ?_
      cases zty ci j <;> simp [zfv, zzR]
    rw [← e9] at hP1 hD1
    exact zgrow hnd hL hrg hT0 hh (Nat.le_of_ble_eq_true hzb) (by show (1 : Nat) ≠ 0; decide) hl h1 h2 hP1 hD1 hS1 kk
theorem zv_newI (C : zCx M Post G) {x : Int} {N : Nat} (h : Nat) (hd : decode M.2.1 pc = .ok (.newarray .int, 2)) (hw : Cond.arrayClass .int ∈ zWs) (hN : x = (N : Int)) (hNb : N * 4 ≤ 536870912) (hh : (T h).1 = 0) (hzb : Nat.blt h zb = true) (hkc : k + 1 ≤ M.2.2.2.2.cells ∧ n + N ≤ M.2.2.2.2.slots) (kk : zV G (pc + 2) ls (zR h :: st) (zsT T h (2, N)) (zzR FR h) (zzQ AR h) (zzF FI h) (zzA AI h) (k + 1) (n + N)) : zV G pc ls (zI x :: st) T FR AR FI AI k n := by
  obtain ⟨p, l, e, R, s, m, args, below, meth, c, Q, A, D, cs, T0, ad0⟩ := G
  obtain ⟨hx, hb, hml, hr, hlk, hnm, hown, hts, hK, hA, hR, hQ, hSt, hfl⟩ := C
  intro ad H locs lsr hM hS hl h1 h2
  subst hR
  obtain ⟨L, hnd, hL, hP, hD, hrg, hT0⟩ := id hM
  have hx3 : zr32 x := zhd h2
  have hcl : (Int32.ofInt x).toNatClampNeg = N := by show ((Int32.ofInt x).toInt.toNat) = N; rw [z32 hx3]; omega
  refine va_newa (atype := .int) (ty := .int) (a0 := (N, .inl fun _ => 0)) hx hb (hts _ hw) rfl hK hP hD hS hA (fun cA => ?_) (fun z => ?_) hcl hNb hkc.1 hkc.2 hd (fun q cA H1 hK1 hP1 hD1 hS1 => ?_)
  · rfl
  · rw [z32z, z32lt hx3 zr0] at z; omega
  · have e8 : cA = cs.1 := by
      have a1 := (hK1.2 5 (cA, .int) (by simp [zTys])).2
      have a2 := (hK.2 0 (cs.1, .int) (by simp [zTys])).2
      exact Option.some.inj (a1.symm.trans a2)
    subst e8
    have e9 : zE cs (va_up ad h q) (zsT T h (2, N)) (zzR FR h) (zzQ AR h) (zzF FI h) (zzA AI h) h = .inl (cs.1, N, .inl fun _ => 0) := by
      rw [zE_int (n := N) (by simp [zsT])]
      simp [zzA]
    rw [← e9] at hP1 hD1
    exact zgrow hnd hL hrg hT0 hh (Nat.le_of_ble_eq_true hzb) (by show (2 : Nat) ≠ 0; decide) hl h1 (ztl h2) hP1 hD1 hS1 kk
theorem zv_newB (C : zCx M Post G) {x : Int} {N : Nat} (h : Nat) (hd : decode M.2.1 pc = .ok (.newarray .byte, 2)) (hw : Cond.arrayClass .byte ∈ zWs) (hN : x = (N : Int)) (hNb : N * 1 ≤ 536870912) (hh : (T h).1 = 0) (hzb : Nat.blt h zb = true) (hkc : k + 1 ≤ M.2.2.2.2.cells ∧ n + N ≤ M.2.2.2.2.slots) (kk : zV G (pc + 2) ls (zR h :: st) (zsT T h (3, N)) (zzR FR h) (zzQ AR h) (zzF FI h) (zzA AI h) (k + 1) (n + N)) : zV G pc ls (zI x :: st) T FR AR FI AI k n := by
  obtain ⟨p, l, e, R, s, m, args, below, meth, c, Q, A, D, cs, T0, ad0⟩ := G
  obtain ⟨hx, hb, hml, hr, hlk, hnm, hown, hts, hK, hA, hR, hQ, hSt, hfl⟩ := C
  intro ad H locs lsr hM hS hl h1 h2
  subst hR
  obtain ⟨L, hnd, hL, hP, hD, hrg, hT0⟩ := id hM
  have hx3 : zr32 x := zhd h2
  have hcl : (Int32.ofInt x).toNatClampNeg = N := by show ((Int32.ofInt x).toInt.toNat) = N; rw [z32 hx3]; omega
  refine va_newa (atype := .byte) (ty := .byte) (a0 := (N, .inl fun _ => 0)) hx hb (hts _ hw) rfl hK hP hD hS hA (fun cA => ?_) (fun z => ?_) hcl hNb hkc.1 hkc.2 hd (fun q cA H1 hK1 hP1 hD1 hS1 => ?_)
  · rfl
  · rw [z32z, z32lt hx3 zr0] at z; omega
  · have e8 : cA = cs.2.1 := by
      have a1 := (hK1.2 5 (cA, .byte) (by simp [zTys])).2
      have a2 := (hK.2 1 (cs.2.1, .byte) (by simp [zTys])).2
      exact Option.some.inj (a1.symm.trans a2)
    subst e8
    have e9 : zE cs (va_up ad h q) (zsT T h (3, N)) (zzR FR h) (zzQ AR h) (zzF FI h) (zzA AI h) h = .inl (cs.2.1, N, .inl fun _ => 0) := by
      rw [zE_byte (n := N) (by simp [zsT])]
      simp [zzA]
    rw [← e9] at hP1 hD1
    exact zgrow hnd hL hrg hT0 hh (Nat.le_of_ble_eq_true hzb) (by show (3 : Nat) ≠ 0; decide) hl h1 (ztl h2) hP1 hD1 hS1 kk
theorem zv_newJ (C : zCx M Post G) {x : Int} {N : Nat} (h : Nat) (hd : decode M.2.1 pc = .ok (.newarray .long, 2)) (hw : Cond.arrayClass .long ∈ zWs) (hN : x = (N : Int)) (hNb : N * 8 ≤ 536870912) (hh : (T h).1 = 0) (hzb : Nat.blt h zb = true) (hkc : k + 1 ≤ M.2.2.2.2.cells ∧ n + N ≤ M.2.2.2.2.slots) (kk : zV G (pc + 2) ls (zR h :: st) (zsT T h (4, N)) (zzR FR h) (zzQ AR h) (zzF FI h) (zzA AI h) (k + 1) (n + N)) : zV G pc ls (zI x :: st) T FR AR FI AI k n := by
  obtain ⟨p, l, e, R, s, m, args, below, meth, c, Q, A, D, cs, T0, ad0⟩ := G
  obtain ⟨hx, hb, hml, hr, hlk, hnm, hown, hts, hK, hA, hR, hQ, hSt, hfl⟩ := C
  intro ad H locs lsr hM hS hl h1 h2
  subst hR
  obtain ⟨L, hnd, hL, hP, hD, hrg, hT0⟩ := id hM
  have hx3 : zr32 x := zhd h2
  have hcl : (Int32.ofInt x).toNatClampNeg = N := by show ((Int32.ofInt x).toInt.toNat) = N; rw [z32 hx3]; omega
  refine va_newa (atype := .long) (ty := .long) (a0 := (N, .inr (.inl fun _ => 0))) hx hb (hts _ hw) rfl hK hP hD hS hA (fun cA => ?_) (fun z => ?_) hcl hNb hkc.1 hkc.2 hd (fun q cA H1 hK1 hP1 hD1 hS1 => ?_)
  · rfl
  · rw [z32z, z32lt hx3 zr0] at z; omega
  · have e8 : cA = cs.2.2.1 := by
      have a1 := (hK1.2 5 (cA, .long) (by simp [zTys])).2
      have a2 := (hK.2 2 (cs.2.2.1, .long) (by simp [zTys])).2
      exact Option.some.inj (a1.symm.trans a2)
    subst e8
    have e9 : zE cs (va_up ad h q) (zsT T h (4, N)) (zzR FR h) (zzQ AR h) (zzF FI h) (zzA AI h) h = .inl (cs.2.2.1, N, .inr (.inl fun _ => 0)) := by
      rw [zE_long (n := N) (by simp [zsT])]
      simp [zzA]
    rw [← e9] at hP1 hD1
    exact zgrow hnd hL hrg hT0 hh (Nat.le_of_ble_eq_true hzb) (by show (4 : Nat) ≠ 0; decide) hl h1 (ztl h2) hP1 hD1 hS1 kk
theorem zv_newQ5 (C : zCx M Post G) {x : Int} {N i : Nat} (h : Nat) (hd : decode M.2.1 pc = .ok (.anewarray i, 3)) (hw : Cond.classLink M.1.cls i "DeferredDesk$Book" ∈ zWs) (hov : Cond.arrayOver (.object "DeferredDesk$Book") ∈ zWs) (hN : x = (N : Int)) (hNb : N * 4 ≤ 536870912) (hh : (T h).1 = 0) (hzb : Nat.blt h zb = true) (hkc : k + 1 ≤ M.2.2.2.2.cells ∧ n + N ≤ M.2.2.2.2.slots) (kk : zV G (pc + 3) ls (zR h :: st) (zsT T h (5, N)) (zzR FR h) (zzQ AR h) (zzF FI h) (zzA AI h) (k + 1) (n + N)) : zV G pc ls (zI x :: st) T FR AR FI AI k n := by
  obtain ⟨p, l, e, R, s, m, args, below, meth, c, Q, A, D, cs, T0, ad0⟩ := G
  obtain ⟨hx, hb, hml, hr, hlk, hnm, hown, hts, hK, hA, hR, hQ, hSt, hfl⟩ := C
  intro ad H locs lsr hM hS hl h1 h2
  subst hR
  obtain ⟨L, hnd, hL, hP, hD, hrg, hT0⟩ := id hM
  have hx3 : zr32 x := zhd h2
  have hcl : (Int32.ofInt x).toNatClampNeg = N := by show ((Int32.ofInt x).toInt.toNat) = N; rw [z32 hx3]; omega
  refine va_newq (C := "DeferredDesk$Book") hx hb hown (hts _ hw) (va_AO.of (hts _ hov)) hK hP hD hS hA (fun z => ?_) hcl hNb hkc.1 hkc.2 hd (fun q cA H1 hK1 hP1 hD1 hS1 => ?_)
  · rw [z32z, z32lt hx3 zr0] at z; omega
  · have e8 : cA = cs.2.2.2.1 := by
      obtain ⟨_, _, _, _, _, a1⟩ := (hK1.2 5 (cA, .object "DeferredDesk$Book") (by simp [zTys])).2
      obtain ⟨_, _, _, _, _, a2⟩ := (hK.2 3 (cs.2.2.2.1, .object "DeferredDesk$Book") (by simp [zTys])).2
      exact Option.some.inj (a1.symm.trans a2)
    subst e8
    have e9 : zE cs (va_up ad h q) (zsT T h (5, N)) (zzR FR h) (zzQ AR h) (zzF FI h) (zzA AI h) h = .inl (cs.2.2.2.1, N, .inr (.inr (.inr (.inr (fun _ => none))))) := by
      rw [zE_r5 (n := N) (by simp [zsT])]
      simp [zzQ]
    rw [← e9] at hP1 hD1
    exact zgrow hnd hL hrg hT0 hh (Nat.le_of_ble_eq_true hzb) (by show (5 : Nat) ≠ 0; decide) hl h1 (ztl h2) hP1 hD1 hS1 kk
theorem zv_newQ6 (C : zCx M Post G) {x : Int} {N i : Nat} (h : Nat) (hd : decode M.2.1 pc = .ok (.anewarray i, 3)) (hw : Cond.classLink M.1.cls i "DeferredDesk$Closing" ∈ zWs) (hov : Cond.arrayOver (.object "DeferredDesk$Closing") ∈ zWs) (hN : x = (N : Int)) (hNb : N * 4 ≤ 536870912) (hh : (T h).1 = 0) (hzb : Nat.blt h zb = true) (hkc : k + 1 ≤ M.2.2.2.2.cells ∧ n + N ≤ M.2.2.2.2.slots) (kk : zV G (pc + 3) ls (zR h :: st) (zsT T h (6, N)) (zzR FR h) (zzQ AR h) (zzF FI h) (zzA AI h) (k + 1) (n + N)) : zV G pc ls (zI x :: st) T FR AR FI AI k n := by
  obtain ⟨p, l, e, R, s, m, args, below, meth, c, Q, A, D, cs, T0, ad0⟩ := G
  obtain ⟨hx, hb, hml, hr, hlk, hnm, hown, hts, hK, hA, hR, hQ, hSt, hfl⟩ := C
  intro ad H locs lsr hM hS hl h1 h2
  subst hR
  obtain ⟨L, hnd, hL, hP, hD, hrg, hT0⟩ := id hM
  have hx3 : zr32 x := zhd h2
  have hcl : (Int32.ofInt x).toNatClampNeg = N := by show ((Int32.ofInt x).toInt.toNat) = N; rw [z32 hx3]; omega
  refine va_newq (C := "DeferredDesk$Closing") hx hb hown (hts _ hw) (va_AO.of (hts _ hov)) hK hP hD hS hA (fun z => ?_) hcl hNb hkc.1 hkc.2 hd (fun q cA H1 hK1 hP1 hD1 hS1 => ?_)
  · rw [z32z, z32lt hx3 zr0] at z; omega
  · have e8 : cA = cs.2.2.2.2 := by
      obtain ⟨_, _, _, _, _, a1⟩ := (hK1.2 5 (cA, .object "DeferredDesk$Closing") (by simp [zTys])).2
      obtain ⟨_, _, _, _, _, a2⟩ := (hK.2 4 (cs.2.2.2.2, .object "DeferredDesk$Closing") (by simp [zTys])).2
      exact Option.some.inj (a1.symm.trans a2)
    subst e8
    have e9 : zE cs (va_up ad h q) (zsT T h (6, N)) (zzR FR h) (zzQ AR h) (zzF FI h) (zzA AI h) h = .inl (cs.2.2.2.2, N, .inr (.inr (.inr (.inr (fun _ => none))))) := by
      rw [zE_r6 (n := N) (by simp [zsT])]
      simp [zzQ]
    rw [← e9] at hP1 hD1
    exact zgrow hnd hL hrg hT0 hh (Nat.le_of_ble_eq_true hzb) (by show (6 : Nat) ≠ 0; decide) hl h1 (ztl h2) hP1 hD1 hS1 kk
end ZAlloc
end
section
section ZStat
variable {M : zMd} {Post : zPost} {G : zG} {pc : Nat} {ls : List (Option zVal)} {st : List zVal} {T : zTt} {FR : zFR} {AR : zAR} {FI : zFI} {AI : zAI} {k n : Nat}
theorem zv_getsA (C : zCx M Post G) {i j q : Nat} {Cn nm ds : String} (hd : decode M.2.1 pc = .ok (.getstatic i, 3)) (hl0 : Cond.fieldLink M.1.cls i Cn nm ds ∈ zWs) (hz : ∀ sa : Nat → Nat, (zZs sa)[q]? = some (Cn, nm, ds, .ref (sa j))) (kk : zV G (pc + 3) ls (zA j :: st) T FR AR FI AI k n) : zV G pc ls st T FR AR FI AI k n := by
  obtain ⟨p, l, e, R, s, m, args, below, meth, c, Q, A, D, cs, T0, ad0⟩ := G
  obtain ⟨hx, hb, hml, hr, hlk, hnm, hown, hts, hK, hA, hR, hQ, hSt, hfl⟩ := C
  intro ad H locs lsr hM hS hl h1 h2
  obtain ⟨L, hnd, hL, hP, hD, hrg, hT0⟩ := id hM
  have kk' := kk ad H locs lsr hM hS hl h1 (zcons (show zok T (zA j) from trivial) h2)
  rw [List.map_cons, show zc ad (zA j) = .ref (ad0 (zb + j)) from congrArg Value.ref (hT0.2 j)] at kk'
  exact va_gets hx hb (hSt.1.1 _ (List.mem_of_getElem? (hz _))) hS hown (hts _ hl0) (fun x h => h) hd kk'
theorem zv_getsAN (C : zCx M Post G) {i j q : Nat} {Cn nm ds host : String} (hd : decode M.2.1 pc = .ok (.getstatic i, 3)) (hl0 : Cond.fieldLinkNest M.1.cls i Cn nm ds host ∈ zWs) (hz : ∀ sa : Nat → Nat, (zZs sa)[q]? = some (Cn, nm, ds, .ref (sa j))) (kk : zV G (pc + 3) ls (zA j :: st) T FR AR FI AI k n) : zV G pc ls st T FR AR FI AI k n := by
  obtain ⟨p, l, e, R, s, m, args, below, meth, c, Q, A, D, cs, T0, ad0⟩ := G
  obtain ⟨hx, hb, hml, hr, hlk, hnm, hown, hts, hK, hA, hR, hQ, hSt, hfl⟩ := C
  intro ad H locs lsr hM hS hl h1 h2
  obtain ⟨L, hnd, hL, hP, hD, hrg, hT0⟩ := id hM
  have kk' := kk ad H locs lsr hM hS hl h1 (zcons (show zok T (zA j) from trivial) h2)
  rw [List.map_cons, show zc ad (zA j) = .ref (ad0 (zb + j)) from congrArg Value.ref (hT0.2 j)] at kk'
  exact va_getsN hx hb (hSt.1.1 _ (List.mem_of_getElem? (hz _))) hS hown (hts _ hl0) (fun x h => h) hd kk'
theorem zv_getsI (C : zCx M Post G) {i q : Nat} {x : Int} {v : Int32} {Cn nm ds : String} (hd : decode M.2.1 pc = .ok (.getstatic i, 3)) (hl0 : Cond.fieldLink M.1.cls i Cn nm ds ∈ zWs) (hz : ∀ sa : Nat → Nat, (zZs sa)[q]? = some (Cn, nm, ds, .int v)) (hv : (decide (zr32 x) && decide (v = Int32.ofInt x)) = true) (kk : zV G (pc + 3) ls (zI x :: st) T FR AR FI AI k n) : zV G pc ls st T FR AR FI AI k n := by
  obtain ⟨p, l, e, R, s, m, args, below, meth, c, Q, A, D, cs, T0, ad0⟩ := G
  obtain ⟨hx, hb, hml, hr, hlk, hnm, hown, hts, hK, hA, hR, hQ, hSt, hfl⟩ := C
  intro ad H locs lsr hM hS hl h1 h2
  rw [Bool.and_eq_true] at hv
  have e2 : v = Int32.ofInt x := of_decide_eq_true hv.2
  subst e2
  exact va_gets hx hb (hSt.1.1 _ (List.mem_of_getElem? (hz (fun i => ad0 (zb + i))))) hS hown (hts _ hl0) (fun x h => h) hd (kk ad H locs lsr hM hS hl h1 (zcons (show zr32 x from of_decide_eq_true hv.1) h2))
theorem zv_getsQ (C : zCx M Post G) {i : Nat} (hd : decode M.2.1 pc = .ok (.getstatic i, 3)) (hl0 : Cond.fieldLink M.1.cls i "jdk/internal/util/Preconditions" "SIOOBE_FORMATTER" "Ljava/util/function/BiFunction;" ∈ zWs) (k1 : zV G (pc + 3) ls (zN :: st) T FR AR FI AI k n) (k2 : zV G (pc + 3) ls (zA 9 :: st) T FR AR FI AI k n) : zV G pc ls st T FR AR FI AI k n := by
  obtain ⟨p, l, e, R, s, m, args, below, meth, c, Q, A, D, cs, T0, ad0⟩ := G
  obtain ⟨hx, hb, hml, hr, hlk, hnm, hown, hts, hK, hA, hR, hQ, hSt, hfl⟩ := C
  intro ad H locs lsr hM hS hl h1 h2
  obtain ⟨L, hnd, hL, hP, hD, hrg, hT0⟩ := id hM
  rcases hSt.1.2.2.2.2.2.2 with hz | hz
  · exact va_gets hx hb hz hS hown (hts _ hl0) (fun x h => h) hd (k1 ad H locs lsr hM hS hl h1 (zcons (fun k h => nomatch h) h2))
  · have kk' := k2 ad H locs lsr hM hS hl h1 (zcons (show zok T (zA 9) from trivial) h2)
    rw [List.map_cons, show zc ad (zA 9) = .ref (ad0 (zb + 9)) from congrArg Value.ref (hT0.2 9)] at kk'
    exact va_gets hx hb hz hS hown (hts _ hl0) (fun x h => h) hd kk'
theorem zv_getfA (C : zCx M Post G) {i j b : Nat} {Cn nm ds : String} (hd : decode M.2.1 pc = .ok (.getfield i, 3)) (hl0 : Cond.fieldLink M.1.cls i Cn nm ds ∈ zWs) (hz : ∀ sa : Nat → Nat, (Cn, nm, ds, Value.ref (sa j), sa b) ∈ zOFs sa) (kk : zV G (pc + 3) ls (zA j :: st) T FR AR FI AI k n) : zV G pc ls (zA b :: st) T FR AR FI AI k n := by
  obtain ⟨p, l, e, R, s, m, args, below, meth, c, Q, A, D, cs, T0, ad0⟩ := G
  obtain ⟨hx, hb, hml, hr, hlk, hnm, hown, hts, hK, hA, hR, hQ, hSt, hfl⟩ := C
  intro ad H locs lsr hM hS hl h1 h2
  obtain ⟨L, hnd, hL, hP, hD, hrg, hT0⟩ := id hM
  have kk' := kk ad H locs lsr hM hS hl h1 (zcons (show zok T (zA j) from trivial) (ztl h2))
  rw [List.map_cons, show zc ad (zA j) = .ref (ad0 (zb + j)) from congrArg Value.ref (hT0.2 j)] at kk'
  rw [List.map_cons, show zc ad (zA b) = .ref (ad0 (zb + b)) from congrArg Value.ref (hT0.2 b)]
  exact vk_getf hx hb (hSt.1.2.1 _ (hz _)) hS hown (hts _ hl0) (fun x h => h) hd kk'
theorem zv_getfAI (C : zCx M Post G) {i b : Nat} {x : Int} {v : Int32} {Cn nm ds : String} (hd : decode M.2.1 pc = .ok (.getfield i, 3)) (hl0 : Cond.fieldLink M.1.cls i Cn nm ds ∈ zWs) (hz : ∀ sa : Nat → Nat, (Cn, nm, ds, Value.int v, sa b) ∈ zOFs sa) (hr0 : zr32 x) (hv : v = Int32.ofInt x) (kk : zV G (pc + 3) ls (zI x :: st) T FR AR FI AI k n) : zV G pc ls (zA b :: st) T FR AR FI AI k n := by
  obtain ⟨p, l, e, R, s, m, args, below, meth, c, Q, A, D, cs, T0, ad0⟩ := G
  obtain ⟨hx, hb, hml, hr, hlk, hnm, hown, hts, hK, hA, hR, hQ, hSt, hfl⟩ := C
  intro ad H locs lsr hM hS hl h1 h2
  obtain ⟨L, hnd, hL, hP, hD, hrg, hT0⟩ := id hM
  subst hv
  rw [List.map_cons, show zc ad (zA b) = .ref (ad0 (zb + b)) from congrArg Value.ref (hT0.2 b)]
  exact vk_getf hx hb (hSt.1.2.1 _ (hz (fun i => ad0 (zb + i)))) hS hown (hts _ hl0) (fun x h => h) hd (kk ad H locs lsr hM hS hl h1 (zcons hr0 (ztl h2)))
theorem zv_alenA (C : zCx M Post G) {b N : Nat} {ty : FieldType} {f : (Nat → Nat) → Nat → Value} (hd : decode M.2.1 pc = .ok (.arraylength, 1)) (hz : ∀ sa : Nat → Nat, (ty, sa b, N, f sa) ∈ zTSs sa) (hN : N < 2147483648) (kk : zV G (pc + 1) ls (zI (N : Int) :: st) T FR AR FI AI k n) : zV G pc ls (zA b :: st) T FR AR FI AI k n := by
  obtain ⟨p, l, e, R, s, m, args, below, meth, c, Q, A, D, cs, T0, ad0⟩ := G
  obtain ⟨hx, hb, hml, hr, hlk, hnm, hown, hts, hK, hA, hR, hQ, hSt, hfl⟩ := C
  intro ad H locs lsr hM hS hl h1 h2
  obtain ⟨L, hnd, hL, hP, hD, hrg, hT0⟩ := id hM
  rw [List.map_cons, show zc ad (zA b) = .ref (ad0 (zb + b)) from congrArg Value.ref (hT0.2 b)]
  exact va_tlen hx hb (hSt.1.2.2.1 _ (hz (fun i => ad0 (zb + i)))) hS (v := Int32.ofInt (N : Int)) Int32.ofInt_eq_ofNat.symm hd (kk ad H locs lsr hM hS hl h1 (zcons (show zr32 (N : Int) from ⟨by omega, by omega⟩) (ztl h2)))
theorem zv_ialoadA (C : zCx M Post G) {b N : Nat} {i x : Int} {f : (Nat → Nat) → Nat → Value} (hd : decode M.2.1 pc = .ok (.iaload, 1)) (hz : ∀ sa : Nat → Nat, (.int, sa b, N, f sa) ∈ zTSs sa) (hi : 0 ≤ i ∧ i < N) (hv : ∀ sa, f sa i.toNat = .int (Int32.ofInt x)) (hr0 : zr32 x) (kk : zV G (pc + 1) ls (zI x :: st) T FR AR FI AI k n) : zV G pc ls (zI i :: zA b :: st) T FR AR FI AI k n := by
  obtain ⟨p, l, e, R, s, m, args, below, meth, c, Q, A, D, cs, T0, ad0⟩ := G
  obtain ⟨hx, hb, hml, hr, hlk, hnm, hown, hts, hK, hA, hR, hQ, hSt, hfl⟩ := C
  intro ad H locs lsr hM hS hl h1 h2
  obtain ⟨L, hnd, hL, hP, hD, hrg, hT0⟩ := id hM
  have hi3 : zr32 i := zhd h2
  have hin : vp_in (Int32.ofInt i) N := vp_in_iff.mpr (by rw [z32 hi3]; exact ⟨hi.1, hi.2⟩)
  have hcl : (Int32.ofInt i).toNatClampNeg = i.toNat := by show ((Int32.ofInt i).toInt.toNat) = i.toNat; rw [z32 hi3]
  rw [List.map_cons, List.map_cons, show zc ad (zA b) = .ref (ad0 (zb + b)) from congrArg Value.ref (hT0.2 b)]
  exact va_ti hx hb (hSt.1.2.2.1 _ (hz (fun i => ad0 (zb + i)))) hS hin (by rw [hcl]; exact hv _) hd (kk ad H locs lsr hM hS hl h1 (zcons hr0 (ztl (ztl h2))))
theorem zv_baloadA (C : zCx M Post G) {b N : Nat} {i x : Int} {f : (Nat → Nat) → Nat → Value} (hd : decode M.2.1 pc = .ok (.baload, 1)) (hz : ∀ sa : Nat → Nat, (.byte, sa b, N, f sa) ∈ zTSs sa) (hi : 0 ≤ i ∧ i < N) (hv : ∀ sa, f sa i.toNat = .int (Int32.ofInt x)) (hr0 : zr32 x) (kk : zV G (pc + 1) ls (zI x :: st) T FR AR FI AI k n) : zV G pc ls (zI i :: zA b :: st) T FR AR FI AI k n := by
  obtain ⟨p, l, e, R, s, m, args, below, meth, c, Q, A, D, cs, T0, ad0⟩ := G
  obtain ⟨hx, hb, hml, hr, hlk, hnm, hown, hts, hK, hA, hR, hQ, hSt, hfl⟩ := C
  intro ad H locs lsr hM hS hl h1 h2
  obtain ⟨L, hnd, hL, hP, hD, hrg, hT0⟩ := id hM
  have hi3 : zr32 i := zhd h2
  have hin : vp_in (Int32.ofInt i) N := vp_in_iff.mpr (by rw [z32 hi3]; exact ⟨hi.1, hi.2⟩)
  have hcl : (Int32.ofInt i).toNatClampNeg = i.toNat := by show ((Int32.ofInt i).toInt.toNat) = i.toNat; rw [z32 hi3]
  rw [List.map_cons, List.map_cons, show zc ad (zA b) = .ref (ad0 (zb + b)) from congrArg Value.ref (hT0.2 b)]
  exact va_tb hx hb (hSt.1.2.2.1 _ (hz (fun i => ad0 (zb + i)))) hS hin (by rw [hcl]; exact hv _) hd (kk ad H locs lsr hM hS hl h1 (zcons hr0 (ztl (ztl h2))))
theorem zv_aaloadA (C : zCx M Post G) {b N j : Nat} {i : Int} {Cn : String} {f : (Nat → Nat) → Nat → Value} (hd : decode M.2.1 pc = .ok (.aaload, 1)) (hz : ∀ sa : Nat → Nat, (.object Cn, sa b, N, f sa) ∈ zTSs sa) (hi : 0 ≤ i ∧ i < N) (hv : ∀ sa, f sa i.toNat = .ref (sa j)) (kk : zV G (pc + 1) ls (zA j :: st) T FR AR FI AI k n) : zV G pc ls (zI i :: zA b :: st) T FR AR FI AI k n := by
  obtain ⟨p, l, e, R, s, m, args, below, meth, c, Q, A, D, cs, T0, ad0⟩ := G
  obtain ⟨hx, hb, hml, hr, hlk, hnm, hown, hts, hK, hA, hR, hQ, hSt, hfl⟩ := C
  intro ad H locs lsr hM hS hl h1 h2
  obtain ⟨L, hnd, hL, hP, hD, hrg, hT0⟩ := id hM
  have hi3 : zr32 i := zhd h2
  have hin : vp_in (Int32.ofInt i) N := vp_in_iff.mpr (by rw [z32 hi3]; exact ⟨hi.1, hi.2⟩)
  have hcl : (Int32.ofInt i).toNatClampNeg = i.toNat := by show ((Int32.ofInt i).toInt.toNat) = i.toNat; rw [z32 hi3]
  have kk' := kk ad H locs lsr hM hS hl h1 (zcons (show zok T (zA j) from trivial) (ztl (ztl h2)))
  rw [List.map_cons, show zc ad (zA j) = .ref (ad0 (zb + j)) from congrArg Value.ref (hT0.2 j)] at kk'
  rw [List.map_cons, List.map_cons, show zc ad (zA b) = .ref (ad0 (zb + b)) from congrArg Value.ref (hT0.2 b)]
  exact vb_tq hx hb (hSt.1.2.2.1 _ (hz (fun i => ad0 (zb + i)))) hS hin (by rw [hcl]; exact hv _) hd kk'
theorem zg_callVA (C : zCx M Post G) {M' : zMd} {as : List zVal} {i b na : Nat} (hd : decode M.2.1 pc = .ok (.invokevirtual i, 3)) (hk : zMv M' na) (hl0 : Cond.methodLink M.1.cls i M'.1 ∈ zWs) (hz : ∀ sa : Nat → Nat, (M'.1.cls, sa b) ∈ zOSs sa) (hna : as.length = na) (hR9 : zRm M M') (hkc : k + M'.2.2.2.2.cells ≤ M.2.2.2.2.cells ∧ n + M'.2.2.2.2.slots ≤ M.2.2.2.2.slots) (hst : Nat.ble (st.map zcat).sum 8 = true) (hm : zMet M' (zA b :: as) T FR AR FI AI (fun r T FR AR FI AI => zV G (pc + 3) ls (zpush M'.2.2.2.1 r st) T FR AR FI AI (k + M'.2.2.2.2.cells) (n + M'.2.2.2.2.slots))) : zV G pc ls (as.reverse ++ zA b :: st) T FR AR FI AI k n := by
  obtain ⟨p, l, e, R, s, m, args, below, meth, c, Q, A, D, cs, T0, ad0⟩ := G
  obtain ⟨hx, hb, hml, hr, hlk, hnm, hown, hts, hK, hA, hR, hQ, hSt, hfl⟩ := C
  intro ad H locs lsr hM hS hl h1 h2
  obtain ⟨L, hnd, hL, hP, hD, hrg, hT0⟩ := id hM
  subst hR
  have hs9 : ∀ v ∈ st, zok T v := fun v hv => h2 v (List.mem_append_right _ (List.mem_cons_of_mem _ hv))
  have ha9 : ∀ v ∈ zA b :: as, zok T v := fun v hv => by
    rcases List.mem_cons.mp hv with h | h
    · rw [h]; exact trivial
    · exact h2 v (List.mem_append_left _ (List.mem_reverse.mpr h))
  have hrv := hSt.1.2.2.2.1 _ (hz _)
  obtain ⟨cellB, g1, g2, g3, -⟩ := hrv.kept hS.2.1
  refine zback (ret := M'.2.2.2.1) (mc := M'.2.2.2.2.cells) (ms := M'.2.2.2.2.slots) hD hS hA hT0 hl h1 hs9 (va_runV (As := as.map (zc ad)) (rest := st.map (zc ad)) (b := ad (zb + b)) (nL := M.2.2.1) ⟨hx, hb, hml, hown, hts⟩ (hm l D cs ad L H.size hfl hnd hL hrg (hD.weaken (fun _ _ _ _ => trivial)) ha9) ⟨⟨rfl, rfl, hR9.1, hR9.2, zws_pay hk.1.1 hts, List.mem_cons_self, hts _ hk.1.1, hts _ hk.1.2.1, hk.1.2.2.1, fun sig h => by have h2 := hk.1.2.2.2; rw [h] at h2; exact (Option.some.inj h2).symm, hts _ hl0⟩, hts _ hk.2.1, hts _ hk.2.2⟩ ⟨zB_blind, ⟨cellB, by rw [hT0.2 b]; exact g1, g2, g3⟩, fun U hU hW => ⟨rfl, by rw [hU], by rw [hU]; exact hP, va_K.moved hW.alike hK, ?_⟩⟩ rfl (by rw [List.length_map]; exact hna) (hl.1.trans hml) ?_ ?_ hd hkc)
  · rw [hU]; exact zSta.moved hW (by have h9 := ((hSt.kept hS.2.1).narrow (zfree hD hS hA)); have e9 : (fun i => ad0 (zb + i)) = fun i => ad (zb + i) := funext fun i => (hT0.2 i).symm; rw [e9] at h9; exact h9)
  · show (as.reverse ++ zA b :: st).map (zc ad) = (as.map (zc ad)).reverse ++ .ref (ad (zb + b)) :: st.map (zc ad)
    rw [List.map_append, List.map_reverse]; rfl
  · exact lv_room (by rw [zsum]; exact Nat.le_of_ble_eq_true hst)
theorem zg_callUA (C : zCx M Post G) {M' : zMd} {as : List zVal} {i b na : Nat} (hd : decode M.2.1 pc = .ok (.invokevirtual i, 3)) {x : MethodName} (hk : zMk M' na ∧ Cond.instanceMethod M'.1 ∈ zWs) (hl0 : Cond.methodLink M.1.cls i x ∈ zWs) (hsm : Cond.sameMethod x.cls M'.1.cls x.name x.desc ∈ zWs) (hse : Cond.selects x.cls x M'.1 ∈ zWs) (hxy : M'.1 = ⟨M'.1.cls, x.name, x.desc⟩) (hz : ∀ sa : Nat → Nat, (x.cls, sa b) ∈ zOSs sa) (hna : as.length = na) (hR9 : zRm M M') (hkc : k + M'.2.2.2.2.cells ≤ M.2.2.2.2.cells ∧ n + M'.2.2.2.2.slots ≤ M.2.2.2.2.slots) (hst : Nat.ble (st.map zcat).sum 8 = true) (hm : zMet M' (zA b :: as) T FR AR FI AI (fun r T FR AR FI AI => zV G (pc + 3) ls (zpush M'.2.2.2.1 r st) T FR AR FI AI (k + M'.2.2.2.2.cells) (n + M'.2.2.2.2.slots))) : zV G pc ls (as.reverse ++ zA b :: st) T FR AR FI AI k n := by
  obtain ⟨p, l, e, R, s, m, args, below, meth, c, Q, A, D, cs, T0, ad0⟩ := G
  obtain ⟨hx, hb, hml, hr, hlk, hnm, hown, hts, hK, hA, hR, hQ, hSt, hfl⟩ := C
  intro ad H locs lsr hM hS hl h1 h2
  obtain ⟨L, hnd, hL, hP, hD, hrg, hT0⟩ := id hM
  subst hR
  have hs9 : ∀ v ∈ st, zok T v := fun v hv => h2 v (List.mem_append_right _ (List.mem_cons_of_mem _ hv))
  have ha9 : ∀ v ∈ zA b :: as, zok T v := fun v hv => by
    rcases List.mem_cons.mp hv with h | h
    · rw [h]; exact trivial
    · exact h2 v (List.mem_append_left _ (List.mem_reverse.mpr h))
  have hrv := hSt.1.2.2.2.1 _ (hz _)
  obtain ⟨cellB, g1, g2, g3, -⟩ := hrv.kept hS.2.1
  refine zback (ret := M'.2.2.2.1) (mc := M'.2.2.2.2.cells) (ms := M'.2.2.2.2.slots) hD hS hA hT0 hl h1 hs9 (va_runU (As := as.map (zc ad)) (rest := st.map (zc ad)) (b := ad (zb + b)) (nL := M.2.2.1) ⟨hx, hb, hml, hown, hts⟩ (hm l D cs ad L H.size hfl hnd hL hrg (hD.weaken (fun _ _ _ _ => trivial)) ha9) ⟨⟨rfl, rfl, hR9.1, hR9.2, zws_pay hk.1.1 hts, List.mem_cons_self⟩, hts _ hk.1.1, hts _ hk.1.2.1, hk.1.2.2.1, fun sig h => by have h2 := hk.1.2.2.2; rw [hxy] at h2; rw [h] at h2; exact (Option.some.inj h2).symm, hts _ hl0, hts _ hsm, by rw [← hxy]; exact va_Decl.of (hts _ hk.2) (hts _ hk.1.1), hts _ hse, hts _ hk.2⟩ ⟨zB_blind, ⟨cellB, by rw [hT0.2 b]; exact g1, g2, g3⟩, fun U hU hW => ⟨rfl, by rw [hU], by rw [hU]; exact hP, va_K.moved hW.alike hK, ?_⟩⟩ rfl (by rw [List.length_map]; exact hna) (hl.1.trans hml) ?_ ?_ hd hkc)
  · rw [hU]; exact zSta.moved hW (by have h9 := ((hSt.kept hS.2.1).narrow (zfree hD hS hA)); have e9 : (fun i => ad0 (zb + i)) = fun i => ad (zb + i) := funext fun i => (hT0.2 i).symm; rw [e9] at h9; exact h9)
  · show (as.reverse ++ zA b :: st).map (zc ad) = (as.map (zc ad)).reverse ++ .ref (ad (zb + b)) :: st.map (zc ad)
    rw [List.map_append, List.map_reverse]; rfl
  · exact lv_room (by rw [zsum]; exact Nat.le_of_ble_eq_true hst)
theorem zv_cVi0_0 (C : zCx M Post G) {M' : zMd} {ty : FieldType} {i o ci : Nat} (hd : decode M.2.1 pc = .ok (.invokevirtual i, 3)) (hk : zMv M' 0) (hl0 : Cond.methodLink M.1.cls i M'.1 ∈ zWs) (hT : T o = (1, ci)) (hci : (vwCl[ci]?).map (fun q => q.1) = some M'.1.cls) (hR9 : zRm M M') (h0 : M'.2.2.2.2.cells = 0 ∧ M'.2.2.2.2.slots = 0) (hkc : k ≤ M.2.2.2.2.cells ∧ n ≤ M.2.2.2.2.slots) (hst : Nat.ble (st.map zcat).sum 8 = true) (hret : M'.2.2.2.1 = some ty) (hm : zMet M' [zR o] T FR AR FI AI (fun r T FR AR FI AI => zV G (pc + 3) ls (r :: st) T FR AR FI AI k n)) : zV G pc ls (zR o :: st) T FR AR FI AI k n := zg_callV C (as := []) hd hk hl0 hT hci rfl hR9 (by rw [h0.1, h0.2]; exact hkc) hst (by rw [hret, h0.1, h0.2]; exact hm)
theorem zv_cSi0_0 (C : zCx M Post G) {M' : zMd} {ty : FieldType} {i : Nat} (hd : decode M.2.1 pc = .ok (.invokestatic i, 3)) (hk : zMs M' 0) (hl0 : Cond.methodLink M.1.cls i M'.1 ∈ zWs) (hR9 : zRm M M') (h0 : M'.2.2.2.2.cells = 0 ∧ M'.2.2.2.2.slots = 0) (hkc : k ≤ M.2.2.2.2.cells ∧ n ≤ M.2.2.2.2.slots) (hst : Nat.ble (st.map zcat).sum 8 = true) (hret : M'.2.2.2.1 = some ty) (hm : zMet M' [] T FR AR FI AI (fun r T FR AR FI AI => zV G (pc + 3) ls (r :: st) T FR AR FI AI k n)) : zV G pc ls (st) T FR AR FI AI k n := zg_callS C (as := []) hd hk hl0 rfl hR9 (by rw [h0.1, h0.2]; exact hkc) hst (by rw [hret, h0.1, h0.2]; exact hm)
theorem zv_cAi0_0 (C : zCx M Post G) {M' : zMd} {ty : FieldType} {i b : Nat} (hd : decode M.2.1 pc = .ok (.invokevirtual i, 3)) (hk : zMv M' 0) (hl0 : Cond.methodLink M.1.cls i M'.1 ∈ zWs) (hz : ∀ sa : Nat → Nat, (M'.1.cls, sa b) ∈ zOSs sa) (hR9 : zRm M M') (h0 : M'.2.2.2.2.cells = 0 ∧ M'.2.2.2.2.slots = 0) (hkc : k ≤ M.2.2.2.2.cells ∧ n ≤ M.2.2.2.2.slots) (hst : Nat.ble (st.map zcat).sum 8 = true) (hret : M'.2.2.2.1 = some ty) (hm : zMet M' [zA b] T FR AR FI AI (fun r T FR AR FI AI => zV G (pc + 3) ls (r :: st) T FR AR FI AI k n)) : zV G pc ls (zA b :: st) T FR AR FI AI k n := zg_callVA C (as := []) hd hk hl0 hz rfl hR9 (by rw [h0.1, h0.2]; exact hkc) hst (by rw [hret, h0.1, h0.2]; exact hm)
theorem zv_cVin_0 (C : zCx M Post G) {M' : zMd} {ty : FieldType} {i o ci : Nat} (hd : decode M.2.1 pc = .ok (.invokevirtual i, 3)) (hk : zMv M' 0) (hl0 : Cond.methodLink M.1.cls i M'.1 ∈ zWs) (hT : T o = (1, ci)) (hci : (vwCl[ci]?).map (fun q => q.1) = some M'.1.cls) (hR9 : zRm M M') (k' n' : Nat) (h0 : k + M'.2.2.2.2.cells = k' ∧ n + M'.2.2.2.2.slots = n') (hkc : k' ≤ M.2.2.2.2.cells ∧ n' ≤ M.2.2.2.2.slots) (hst : Nat.ble (st.map zcat).sum 8 = true) (hret : M'.2.2.2.1 = some ty) (hm : zMet M' [zR o] T FR AR FI AI (fun r T FR AR FI AI => zV G (pc + 3) ls (r :: st) T FR AR FI AI k' n')) : zV G pc ls (zR o :: st) T FR AR FI AI k n := zg_callV C (as := []) hd hk hl0 hT hci rfl hR9 (by rw [h0.1, h0.2]; exact hkc) hst (by rw [hret, h0.1, h0.2]; exact hm)
theorem zv_cSin_0 (C : zCx M Post G) {M' : zMd} {ty : FieldType} {i : Nat} (hd : decode M.2.1 pc = .ok (.invokestatic i, 3)) (hk : zMs M' 0) (hl0 : Cond.methodLink M.1.cls i M'.1 ∈ zWs) (hR9 : zRm M M') (k' n' : Nat) (h0 : k + M'.2.2.2.2.cells = k' ∧ n + M'.2.2.2.2.slots = n') (hkc : k' ≤ M.2.2.2.2.cells ∧ n' ≤ M.2.2.2.2.slots) (hst : Nat.ble (st.map zcat).sum 8 = true) (hret : M'.2.2.2.1 = some ty) (hm : zMet M' [] T FR AR FI AI (fun r T FR AR FI AI => zV G (pc + 3) ls (r :: st) T FR AR FI AI k' n')) : zV G pc ls (st) T FR AR FI AI k n := zg_callS C (as := []) hd hk hl0 rfl hR9 (by rw [h0.1, h0.2]; exact hkc) hst (by rw [hret, h0.1, h0.2]; exact hm)
theorem zv_cVv0_0 (C : zCx M Post G) {M' : zMd} {i o ci : Nat} (hd : decode M.2.1 pc = .ok (.invokevirtual i, 3)) (hk : zMv M' 0) (hl0 : Cond.methodLink M.1.cls i M'.1 ∈ zWs) (hT : T o = (1, ci)) (hci : (vwCl[ci]?).map (fun q => q.1) = some M'.1.cls) (hR9 : zRm M M') (h0 : M'.2.2.2.2.cells = 0 ∧ M'.2.2.2.2.slots = 0) (hkc : k ≤ M.2.2.2.2.cells ∧ n ≤ M.2.2.2.2.slots) (hst : Nat.ble (st.map zcat).sum 8 = true) (hret : M'.2.2.2.1 = none) (hm : zMet M' [zR o] T FR AR FI AI (fun r T FR AR FI AI => zV G (pc + 3) ls st T FR AR FI AI k n)) : zV G pc ls (zR o :: st) T FR AR FI AI k n := zg_callV C (as := []) hd hk hl0 hT hci rfl hR9 (by rw [h0.1, h0.2]; exact hkc) hst (by rw [hret, h0.1, h0.2]; exact hm)
theorem zv_cSv0_0 (C : zCx M Post G) {M' : zMd} {i : Nat} (hd : decode M.2.1 pc = .ok (.invokestatic i, 3)) (hk : zMs M' 0) (hl0 : Cond.methodLink M.1.cls i M'.1 ∈ zWs) (hR9 : zRm M M') (h0 : M'.2.2.2.2.cells = 0 ∧ M'.2.2.2.2.slots = 0) (hkc : k ≤ M.2.2.2.2.cells ∧ n ≤ M.2.2.2.2.slots) (hst : Nat.ble (st.map zcat).sum 8 = true) (hret : M'.2.2.2.1 = none) (hm : zMet M' [] T FR AR FI AI (fun r T FR AR FI AI => zV G (pc + 3) ls st T FR AR FI AI k n)) : zV G pc ls (st) T FR AR FI AI k n := zg_callS C (as := []) hd hk hl0 rfl hR9 (by rw [h0.1, h0.2]; exact hkc) hst (by rw [hret, h0.1, h0.2]; exact hm)
theorem zv_cAv0_0 (C : zCx M Post G) {M' : zMd} {i b : Nat} (hd : decode M.2.1 pc = .ok (.invokevirtual i, 3)) (hk : zMv M' 0) (hl0 : Cond.methodLink M.1.cls i M'.1 ∈ zWs) (hz : ∀ sa : Nat → Nat, (M'.1.cls, sa b) ∈ zOSs sa) (hR9 : zRm M M') (h0 : M'.2.2.2.2.cells = 0 ∧ M'.2.2.2.2.slots = 0) (hkc : k ≤ M.2.2.2.2.cells ∧ n ≤ M.2.2.2.2.slots) (hst : Nat.ble (st.map zcat).sum 8 = true) (hret : M'.2.2.2.1 = none) (hm : zMet M' [zA b] T FR AR FI AI (fun r T FR AR FI AI => zV G (pc + 3) ls st T FR AR FI AI k n)) : zV G pc ls (zA b :: st) T FR AR FI AI k n := zg_callVA C (as := []) hd hk hl0 hz rfl hR9 (by rw [h0.1, h0.2]; exact hkc) hst (by rw [hret, h0.1, h0.2]; exact hm)
theorem zv_cI0 (C : zCx M Post G) {M' : zMd} {i o : Nat} (hd : decode M.2.1 pc = .ok (.invokespecial i, 3)) (hk : zMi M' 0) (hl0 : Cond.methodLink M.1.cls i M'.1 ∈ zWs) (hR9 : zRm M M') (h0 : M'.2.2.2.2.cells = 0 ∧ M'.2.2.2.2.slots = 0) (hkc : k ≤ M.2.2.2.2.cells ∧ n ≤ M.2.2.2.2.slots) (hst : Nat.ble (st.map zcat).sum 8 = true) (hret : M'.2.2.2.1 = none) (hm : zMet M' [zR o] T FR AR FI AI (fun r T FR AR FI AI => zV G (pc + 3) ls st T FR AR FI AI k n)) : zV G pc ls (zR o :: st) T FR AR FI AI k n := zg_callI C hd hk hl0 hR9 (by rw [h0.1, h0.2]; exact hkc) hst (by rw [hret, h0.1, h0.2]; exact hm)
theorem zv_cIN0 (C : zCx M Post G) {M' : zMd} {i o : Nat} {host : String} (hd : decode M.2.1 pc = .ok (.invokespecial i, 3)) (hk : zMi M' 0) (hl0 : Cond.methodLinkNest M.1.cls i M'.1 host ∈ zWs) (hR9 : zRm M M') (h0 : M'.2.2.2.2.cells = 0 ∧ M'.2.2.2.2.slots = 0) (hkc : k ≤ M.2.2.2.2.cells ∧ n ≤ M.2.2.2.2.slots) (hst : Nat.ble (st.map zcat).sum 8 = true) (hret : M'.2.2.2.1 = none) (hm : zMet M' [zR o] T FR AR FI AI (fun r T FR AR FI AI => zV G (pc + 3) ls st T FR AR FI AI k n)) : zV G pc ls (zR o :: st) T FR AR FI AI k n := zg_callIN C hd hk hl0 hR9 (by rw [h0.1, h0.2]; exact hkc) hst (by rw [hret, h0.1, h0.2]; exact hm)
theorem zv_cVvn_0 (C : zCx M Post G) {M' : zMd} {i o ci : Nat} (hd : decode M.2.1 pc = .ok (.invokevirtual i, 3)) (hk : zMv M' 0) (hl0 : Cond.methodLink M.1.cls i M'.1 ∈ zWs) (hT : T o = (1, ci)) (hci : (vwCl[ci]?).map (fun q => q.1) = some M'.1.cls) (hR9 : zRm M M') (k' n' : Nat) (h0 : k + M'.2.2.2.2.cells = k' ∧ n + M'.2.2.2.2.slots = n') (hkc : k' ≤ M.2.2.2.2.cells ∧ n' ≤ M.2.2.2.2.slots) (hst : Nat.ble (st.map zcat).sum 8 = true) (hret : M'.2.2.2.1 = none) (hm : zMet M' [zR o] T FR AR FI AI (fun r T FR AR FI AI => zV G (pc + 3) ls st T FR AR FI AI k' n')) : zV G pc ls (zR o :: st) T FR AR FI AI k n := zg_callV C (as := []) hd hk hl0 hT hci rfl hR9 (by rw [h0.1, h0.2]; exact hkc) hst (by rw [hret, h0.1, h0.2]; exact hm)
theorem zv_cSvn_0 (C : zCx M Post G) {M' : zMd} {i : Nat} (hd : decode M.2.1 pc = .ok (.invokestatic i, 3)) (hk : zMs M' 0) (hl0 : Cond.methodLink M.1.cls i M'.1 ∈ zWs) (hR9 : zRm M M') (k' n' : Nat) (h0 : k + M'.2.2.2.2.cells = k' ∧ n + M'.2.2.2.2.slots = n') (hkc : k' ≤ M.2.2.2.2.cells ∧ n' ≤ M.2.2.2.2.slots) (hst : Nat.ble (st.map zcat).sum 8 = true) (hret : M'.2.2.2.1 = none) (hm : zMet M' [] T FR AR FI AI (fun r T FR AR FI AI => zV G (pc + 3) ls st T FR AR FI AI k' n')) : zV G pc ls (st) T FR AR FI AI k n := zg_callS C (as := []) hd hk hl0 rfl hR9 (by rw [h0.1, h0.2]; exact hkc) hst (by rw [hret, h0.1, h0.2]; exact hm)
theorem zv_cIn (C : zCx M Post G) {M' : zMd} {i o : Nat} (hd : decode M.2.1 pc = .ok (.invokespecial i, 3)) (hk : zMi M' 0) (hl0 : Cond.methodLink M.1.cls i M'.1 ∈ zWs) (hR9 : zRm M M') (k' n' : Nat) (h0 : k + M'.2.2.2.2.cells = k' ∧ n + M'.2.2.2.2.slots = n') (hkc : k' ≤ M.2.2.2.2.cells ∧ n' ≤ M.2.2.2.2.slots) (hst : Nat.ble (st.map zcat).sum 8 = true) (hret : M'.2.2.2.1 = none) (hm : zMet M' [zR o] T FR AR FI AI (fun r T FR AR FI AI => zV G (pc + 3) ls st T FR AR FI AI k' n')) : zV G pc ls (zR o :: st) T FR AR FI AI k n := zg_callI C hd hk hl0 hR9 (by rw [h0.1, h0.2]; exact hkc) hst (by rw [hret, h0.1, h0.2]; exact hm)
theorem zv_cINn (C : zCx M Post G) {M' : zMd} {i o : Nat} {host : String} (hd : decode M.2.1 pc = .ok (.invokespecial i, 3)) (hk : zMi M' 0) (hl0 : Cond.methodLinkNest M.1.cls i M'.1 host ∈ zWs) (hR9 : zRm M M') (k' n' : Nat) (h0 : k + M'.2.2.2.2.cells = k' ∧ n + M'.2.2.2.2.slots = n') (hkc : k' ≤ M.2.2.2.2.cells ∧ n' ≤ M.2.2.2.2.slots) (hst : Nat.ble (st.map zcat).sum 8 = true) (hret : M'.2.2.2.1 = none) (hm : zMet M' [zR o] T FR AR FI AI (fun r T FR AR FI AI => zV G (pc + 3) ls st T FR AR FI AI k' n')) : zV G pc ls (zR o :: st) T FR AR FI AI k n := zg_callIN C hd hk hl0 hR9 (by rw [h0.1, h0.2]; exact hkc) hst (by rw [hret, h0.1, h0.2]; exact hm)
theorem zv_cVi0_1 (C : zCx M Post G) {M' : zMd} {x1 : zVal} {ty : FieldType} {i o ci : Nat} (hd : decode M.2.1 pc = .ok (.invokevirtual i, 3)) (hk : zMv M' 1) (hl0 : Cond.methodLink M.1.cls i M'.1 ∈ zWs) (hT : T o = (1, ci)) (hci : (vwCl[ci]?).map (fun q => q.1) = some M'.1.cls) (hR9 : zRm M M') (h0 : M'.2.2.2.2.cells = 0 ∧ M'.2.2.2.2.slots = 0) (hkc : k ≤ M.2.2.2.2.cells ∧ n ≤ M.2.2.2.2.slots) (hst : Nat.ble (st.map zcat).sum 8 = true) (hret : M'.2.2.2.1 = some ty) (hm : zMet M' (zR o :: [x1]) T FR AR FI AI (fun r T FR AR FI AI => zV G (pc + 3) ls (r :: st) T FR AR FI AI k n)) : zV G pc ls (x1 :: zR o :: st) T FR AR FI AI k n := zg_callV C (as := [x1]) hd hk hl0 hT hci rfl hR9 (by rw [h0.1, h0.2]; exact hkc) hst (by rw [hret, h0.1, h0.2]; exact hm)
theorem zv_cSi0_1 (C : zCx M Post G) {M' : zMd} {x1 : zVal} {ty : FieldType} {i : Nat} (hd : decode M.2.1 pc = .ok (.invokestatic i, 3)) (hk : zMs M' 1) (hl0 : Cond.methodLink M.1.cls i M'.1 ∈ zWs) (hR9 : zRm M M') (h0 : M'.2.2.2.2.cells = 0 ∧ M'.2.2.2.2.slots = 0) (hkc : k ≤ M.2.2.2.2.cells ∧ n ≤ M.2.2.2.2.slots) (hst : Nat.ble (st.map zcat).sum 8 = true) (hret : M'.2.2.2.1 = some ty) (hm : zMet M' [x1] T FR AR FI AI (fun r T FR AR FI AI => zV G (pc + 3) ls (r :: st) T FR AR FI AI k n)) : zV G pc ls (x1 :: st) T FR AR FI AI k n := zg_callS C (as := [x1]) hd hk hl0 rfl hR9 (by rw [h0.1, h0.2]; exact hkc) hst (by rw [hret, h0.1, h0.2]; exact hm)
theorem zv_cAi0_1 (C : zCx M Post G) {M' : zMd} {x1 : zVal} {ty : FieldType} {i b : Nat} (hd : decode M.2.1 pc = .ok (.invokevirtual i, 3)) (hk : zMv M' 1) (hl0 : Cond.methodLink M.1.cls i M'.1 ∈ zWs) (hz : ∀ sa : Nat → Nat, (M'.1.cls, sa b) ∈ zOSs sa) (hR9 : zRm M M') (h0 : M'.2.2.2.2.cells = 0 ∧ M'.2.2.2.2.slots = 0) (hkc : k ≤ M.2.2.2.2.cells ∧ n ≤ M.2.2.2.2.slots) (hst : Nat.ble (st.map zcat).sum 8 = true) (hret : M'.2.2.2.1 = some ty) (hm : zMet M' (zA b :: [x1]) T FR AR FI AI (fun r T FR AR FI AI => zV G (pc + 3) ls (r :: st) T FR AR FI AI k n)) : zV G pc ls (x1 :: zA b :: st) T FR AR FI AI k n := zg_callVA C (as := [x1]) hd hk hl0 hz rfl hR9 (by rw [h0.1, h0.2]; exact hkc) hst (by rw [hret, h0.1, h0.2]; exact hm)
theorem zv_cVin_1 (C : zCx M Post G) {M' : zMd} {x1 : zVal} {ty : FieldType} {i o ci : Nat} (hd : decode M.2.1 pc = .ok (.invokevirtual i, 3)) (hk : zMv M' 1) (hl0 : Cond.methodLink M.1.cls i M'.1 ∈ zWs) (hT : T o = (1, ci)) (hci : (vwCl[ci]?).map (fun q => q.1) = some M'.1.cls) (hR9 : zRm M M') (k' n' : Nat) (h0 : k + M'.2.2.2.2.cells = k' ∧ n + M'.2.2.2.2.slots = n') (hkc : k' ≤ M.2.2.2.2.cells ∧ n' ≤ M.2.2.2.2.slots) (hst : Nat.ble (st.map zcat).sum 8 = true) (hret : M'.2.2.2.1 = some ty) (hm : zMet M' (zR o :: [x1]) T FR AR FI AI (fun r T FR AR FI AI => zV G (pc + 3) ls (r :: st) T FR AR FI AI k' n')) : zV G pc ls (x1 :: zR o :: st) T FR AR FI AI k n := zg_callV C (as := [x1]) hd hk hl0 hT hci rfl hR9 (by rw [h0.1, h0.2]; exact hkc) hst (by rw [hret, h0.1, h0.2]; exact hm)
theorem zv_cSin_1 (C : zCx M Post G) {M' : zMd} {x1 : zVal} {ty : FieldType} {i : Nat} (hd : decode M.2.1 pc = .ok (.invokestatic i, 3)) (hk : zMs M' 1) (hl0 : Cond.methodLink M.1.cls i M'.1 ∈ zWs) (hR9 : zRm M M') (k' n' : Nat) (h0 : k + M'.2.2.2.2.cells = k' ∧ n + M'.2.2.2.2.slots = n') (hkc : k' ≤ M.2.2.2.2.cells ∧ n' ≤ M.2.2.2.2.slots) (hst : Nat.ble (st.map zcat).sum 8 = true) (hret : M'.2.2.2.1 = some ty) (hm : zMet M' [x1] T FR AR FI AI (fun r T FR AR FI AI => zV G (pc + 3) ls (r :: st) T FR AR FI AI k' n')) : zV G pc ls (x1 :: st) T FR AR FI AI k n := zg_callS C (as := [x1]) hd hk hl0 rfl hR9 (by rw [h0.1, h0.2]; exact hkc) hst (by rw [hret, h0.1, h0.2]; exact hm)
theorem zv_cVv0_1 (C : zCx M Post G) {M' : zMd} {x1 : zVal} {i o ci : Nat} (hd : decode M.2.1 pc = .ok (.invokevirtual i, 3)) (hk : zMv M' 1) (hl0 : Cond.methodLink M.1.cls i M'.1 ∈ zWs) (hT : T o = (1, ci)) (hci : (vwCl[ci]?).map (fun q => q.1) = some M'.1.cls) (hR9 : zRm M M') (h0 : M'.2.2.2.2.cells = 0 ∧ M'.2.2.2.2.slots = 0) (hkc : k ≤ M.2.2.2.2.cells ∧ n ≤ M.2.2.2.2.slots) (hst : Nat.ble (st.map zcat).sum 8 = true) (hret : M'.2.2.2.1 = none) (hm : zMet M' (zR o :: [x1]) T FR AR FI AI (fun r T FR AR FI AI => zV G (pc + 3) ls st T FR AR FI AI k n)) : zV G pc ls (x1 :: zR o :: st) T FR AR FI AI k n := zg_callV C (as := [x1]) hd hk hl0 hT hci rfl hR9 (by rw [h0.1, h0.2]; exact hkc) hst (by rw [hret, h0.1, h0.2]; exact hm)
theorem zv_cSv0_1 (C : zCx M Post G) {M' : zMd} {x1 : zVal} {i : Nat} (hd : decode M.2.1 pc = .ok (.invokestatic i, 3)) (hk : zMs M' 1) (hl0 : Cond.methodLink M.1.cls i M'.1 ∈ zWs) (hR9 : zRm M M') (h0 : M'.2.2.2.2.cells = 0 ∧ M'.2.2.2.2.slots = 0) (hkc : k ≤ M.2.2.2.2.cells ∧ n ≤ M.2.2.2.2.slots) (hst : Nat.ble (st.map zcat).sum 8 = true) (hret : M'.2.2.2.1 = none) (hm : zMet M' [x1] T FR AR FI AI (fun r T FR AR FI AI => zV G (pc + 3) ls st T FR AR FI AI k n)) : zV G pc ls (x1 :: st) T FR AR FI AI k n := zg_callS C (as := [x1]) hd hk hl0 rfl hR9 (by rw [h0.1, h0.2]; exact hkc) hst (by rw [hret, h0.1, h0.2]; exact hm)
theorem zv_cAv0_1 (C : zCx M Post G) {M' : zMd} {x1 : zVal} {i b : Nat} (hd : decode M.2.1 pc = .ok (.invokevirtual i, 3)) (hk : zMv M' 1) (hl0 : Cond.methodLink M.1.cls i M'.1 ∈ zWs) (hz : ∀ sa : Nat → Nat, (M'.1.cls, sa b) ∈ zOSs sa) (hR9 : zRm M M') (h0 : M'.2.2.2.2.cells = 0 ∧ M'.2.2.2.2.slots = 0) (hkc : k ≤ M.2.2.2.2.cells ∧ n ≤ M.2.2.2.2.slots) (hst : Nat.ble (st.map zcat).sum 8 = true) (hret : M'.2.2.2.1 = none) (hm : zMet M' (zA b :: [x1]) T FR AR FI AI (fun r T FR AR FI AI => zV G (pc + 3) ls st T FR AR FI AI k n)) : zV G pc ls (x1 :: zA b :: st) T FR AR FI AI k n := zg_callVA C (as := [x1]) hd hk hl0 hz rfl hR9 (by rw [h0.1, h0.2]; exact hkc) hst (by rw [hret, h0.1, h0.2]; exact hm)
theorem zv_cVvn_1 (C : zCx M Post G) {M' : zMd} {x1 : zVal} {i o ci : Nat} (hd : decode M.2.1 pc = .ok (.invokevirtual i, 3)) (hk : zMv M' 1) (hl0 : Cond.methodLink M.1.cls i M'.1 ∈ zWs) (hT : T o = (1, ci)) (hci : (vwCl[ci]?).map (fun q => q.1) = some M'.1.cls) (hR9 : zRm M M') (k' n' : Nat) (h0 : k + M'.2.2.2.2.cells = k' ∧ n + M'.2.2.2.2.slots = n') (hkc : k' ≤ M.2.2.2.2.cells ∧ n' ≤ M.2.2.2.2.slots) (hst : Nat.ble (st.map zcat).sum 8 = true) (hret : M'.2.2.2.1 = none) (hm : zMet M' (zR o :: [x1]) T FR AR FI AI (fun r T FR AR FI AI => zV G (pc + 3) ls st T FR AR FI AI k' n')) : zV G pc ls (x1 :: zR o :: st) T FR AR FI AI k n := zg_callV C (as := [x1]) hd hk hl0 hT hci rfl hR9 (by rw [h0.1, h0.2]; exact hkc) hst (by rw [hret, h0.1, h0.2]; exact hm)
theorem zv_cSvn_1 (C : zCx M Post G) {M' : zMd} {x1 : zVal} {i : Nat} (hd : decode M.2.1 pc = .ok (.invokestatic i, 3)) (hk : zMs M' 1) (hl0 : Cond.methodLink M.1.cls i M'.1 ∈ zWs) (hR9 : zRm M M') (k' n' : Nat) (h0 : k + M'.2.2.2.2.cells = k' ∧ n + M'.2.2.2.2.slots = n') (hkc : k' ≤ M.2.2.2.2.cells ∧ n' ≤ M.2.2.2.2.slots) (hst : Nat.ble (st.map zcat).sum 8 = true) (hret : M'.2.2.2.1 = none) (hm : zMet M' [x1] T FR AR FI AI (fun r T FR AR FI AI => zV G (pc + 3) ls st T FR AR FI AI k' n')) : zV G pc ls (x1 :: st) T FR AR FI AI k n := zg_callS C (as := [x1]) hd hk hl0 rfl hR9 (by rw [h0.1, h0.2]; exact hkc) hst (by rw [hret, h0.1, h0.2]; exact hm)
theorem zv_cVi0_2 (C : zCx M Post G) {M' : zMd} {x1 x2 : zVal} {ty : FieldType} {i o ci : Nat} (hd : decode M.2.1 pc = .ok (.invokevirtual i, 3)) (hk : zMv M' 2) (hl0 : Cond.methodLink M.1.cls i M'.1 ∈ zWs) (hT : T o = (1, ci)) (hci : (vwCl[ci]?).map (fun q => q.1) = some M'.1.cls) (hR9 : zRm M M') (h0 : M'.2.2.2.2.cells = 0 ∧ M'.2.2.2.2.slots = 0) (hkc : k ≤ M.2.2.2.2.cells ∧ n ≤ M.2.2.2.2.slots) (hst : Nat.ble (st.map zcat).sum 8 = true) (hret : M'.2.2.2.1 = some ty) (hm : zMet M' (zR o :: [x1, x2]) T FR AR FI AI (fun r T FR AR FI AI => zV G (pc + 3) ls (r :: st) T FR AR FI AI k n)) : zV G pc ls (x2 :: x1 :: zR o :: st) T FR AR FI AI k n := zg_callV C (as := [x1, x2]) hd hk hl0 hT hci rfl hR9 (by rw [h0.1, h0.2]; exact hkc) hst (by rw [hret, h0.1, h0.2]; exact hm)
theorem zv_cSi0_2 (C : zCx M Post G) {M' : zMd} {x1 x2 : zVal} {ty : FieldType} {i : Nat} (hd : decode M.2.1 pc = .ok (.invokestatic i, 3)) (hk : zMs M' 2) (hl0 : Cond.methodLink M.1.cls i M'.1 ∈ zWs) (hR9 : zRm M M') (h0 : M'.2.2.2.2.cells = 0 ∧ M'.2.2.2.2.slots = 0) (hkc : k ≤ M.2.2.2.2.cells ∧ n ≤ M.2.2.2.2.slots) (hst : Nat.ble (st.map zcat).sum 8 = true) (hret : M'.2.2.2.1 = some ty) (hm : zMet M' [x1, x2] T FR AR FI AI (fun r T FR AR FI AI => zV G (pc + 3) ls (r :: st) T FR AR FI AI k n)) : zV G pc ls (x2 :: x1 :: st) T FR AR FI AI k n := zg_callS C (as := [x1, x2]) hd hk hl0 rfl hR9 (by rw [h0.1, h0.2]; exact hkc) hst (by rw [hret, h0.1, h0.2]; exact hm)
theorem zv_cVin_2 (C : zCx M Post G) {M' : zMd} {x1 x2 : zVal} {ty : FieldType} {i o ci : Nat} (hd : decode M.2.1 pc = .ok (.invokevirtual i, 3)) (hk : zMv M' 2) (hl0 : Cond.methodLink M.1.cls i M'.1 ∈ zWs) (hT : T o = (1, ci)) (hci : (vwCl[ci]?).map (fun q => q.1) = some M'.1.cls) (hR9 : zRm M M') (k' n' : Nat) (h0 : k + M'.2.2.2.2.cells = k' ∧ n + M'.2.2.2.2.slots = n') (hkc : k' ≤ M.2.2.2.2.cells ∧ n' ≤ M.2.2.2.2.slots) (hst : Nat.ble (st.map zcat).sum 8 = true) (hret : M'.2.2.2.1 = some ty) (hm : zMet M' (zR o :: [x1, x2]) T FR AR FI AI (fun r T FR AR FI AI => zV G (pc + 3) ls (r :: st) T FR AR FI AI k' n')) : zV G pc ls (x2 :: x1 :: zR o :: st) T FR AR FI AI k n := zg_callV C (as := [x1, x2]) hd hk hl0 hT hci rfl hR9 (by rw [h0.1, h0.2]; exact hkc) hst (by rw [hret, h0.1, h0.2]; exact hm)
theorem zv_cSin_2 (C : zCx M Post G) {M' : zMd} {x1 x2 : zVal} {ty : FieldType} {i : Nat} (hd : decode M.2.1 pc = .ok (.invokestatic i, 3)) (hk : zMs M' 2) (hl0 : Cond.methodLink M.1.cls i M'.1 ∈ zWs) (hR9 : zRm M M') (k' n' : Nat) (h0 : k + M'.2.2.2.2.cells = k' ∧ n + M'.2.2.2.2.slots = n') (hkc : k' ≤ M.2.2.2.2.cells ∧ n' ≤ M.2.2.2.2.slots) (hst : Nat.ble (st.map zcat).sum 8 = true) (hret : M'.2.2.2.1 = some ty) (hm : zMet M' [x1, x2] T FR AR FI AI (fun r T FR AR FI AI => zV G (pc + 3) ls (r :: st) T FR AR FI AI k' n')) : zV G pc ls (x2 :: x1 :: st) T FR AR FI AI k n := zg_callS C (as := [x1, x2]) hd hk hl0 rfl hR9 (by rw [h0.1, h0.2]; exact hkc) hst (by rw [hret, h0.1, h0.2]; exact hm)
theorem zv_cVv0_2 (C : zCx M Post G) {M' : zMd} {x1 x2 : zVal} {i o ci : Nat} (hd : decode M.2.1 pc = .ok (.invokevirtual i, 3)) (hk : zMv M' 2) (hl0 : Cond.methodLink M.1.cls i M'.1 ∈ zWs) (hT : T o = (1, ci)) (hci : (vwCl[ci]?).map (fun q => q.1) = some M'.1.cls) (hR9 : zRm M M') (h0 : M'.2.2.2.2.cells = 0 ∧ M'.2.2.2.2.slots = 0) (hkc : k ≤ M.2.2.2.2.cells ∧ n ≤ M.2.2.2.2.slots) (hst : Nat.ble (st.map zcat).sum 8 = true) (hret : M'.2.2.2.1 = none) (hm : zMet M' (zR o :: [x1, x2]) T FR AR FI AI (fun r T FR AR FI AI => zV G (pc + 3) ls st T FR AR FI AI k n)) : zV G pc ls (x2 :: x1 :: zR o :: st) T FR AR FI AI k n := zg_callV C (as := [x1, x2]) hd hk hl0 hT hci rfl hR9 (by rw [h0.1, h0.2]; exact hkc) hst (by rw [hret, h0.1, h0.2]; exact hm)
theorem zv_cSv0_2 (C : zCx M Post G) {M' : zMd} {x1 x2 : zVal} {i : Nat} (hd : decode M.2.1 pc = .ok (.invokestatic i, 3)) (hk : zMs M' 2) (hl0 : Cond.methodLink M.1.cls i M'.1 ∈ zWs) (hR9 : zRm M M') (h0 : M'.2.2.2.2.cells = 0 ∧ M'.2.2.2.2.slots = 0) (hkc : k ≤ M.2.2.2.2.cells ∧ n ≤ M.2.2.2.2.slots) (hst : Nat.ble (st.map zcat).sum 8 = true) (hret : M'.2.2.2.1 = none) (hm : zMet M' [x1, x2] T FR AR FI AI (fun r T FR AR FI AI => zV G (pc + 3) ls st T FR AR FI AI k n)) : zV G pc ls (x2 :: x1 :: st) T FR AR FI AI k n := zg_callS C (as := [x1, x2]) hd hk hl0 rfl hR9 (by rw [h0.1, h0.2]; exact hkc) hst (by rw [hret, h0.1, h0.2]; exact hm)
theorem zv_cVvn_2 (C : zCx M Post G) {M' : zMd} {x1 x2 : zVal} {i o ci : Nat} (hd : decode M.2.1 pc = .ok (.invokevirtual i, 3)) (hk : zMv M' 2) (hl0 : Cond.methodLink M.1.cls i M'.1 ∈ zWs) (hT : T o = (1, ci)) (hci : (vwCl[ci]?).map (fun q => q.1) = some M'.1.cls) (hR9 : zRm M M') (k' n' : Nat) (h0 : k + M'.2.2.2.2.cells = k' ∧ n + M'.2.2.2.2.slots = n') (hkc : k' ≤ M.2.2.2.2.cells ∧ n' ≤ M.2.2.2.2.slots) (hst : Nat.ble (st.map zcat).sum 8 = true) (hret : M'.2.2.2.1 = none) (hm : zMet M' (zR o :: [x1, x2]) T FR AR FI AI (fun r T FR AR FI AI => zV G (pc + 3) ls st T FR AR FI AI k' n')) : zV G pc ls (x2 :: x1 :: zR o :: st) T FR AR FI AI k n := zg_callV C (as := [x1, x2]) hd hk hl0 hT hci rfl hR9 (by rw [h0.1, h0.2]; exact hkc) hst (by rw [hret, h0.1, h0.2]; exact hm)
theorem zv_cSvn_2 (C : zCx M Post G) {M' : zMd} {x1 x2 : zVal} {i : Nat} (hd : decode M.2.1 pc = .ok (.invokestatic i, 3)) (hk : zMs M' 2) (hl0 : Cond.methodLink M.1.cls i M'.1 ∈ zWs) (hR9 : zRm M M') (k' n' : Nat) (h0 : k + M'.2.2.2.2.cells = k' ∧ n + M'.2.2.2.2.slots = n') (hkc : k' ≤ M.2.2.2.2.cells ∧ n' ≤ M.2.2.2.2.slots) (hst : Nat.ble (st.map zcat).sum 8 = true) (hret : M'.2.2.2.1 = none) (hm : zMet M' [x1, x2] T FR AR FI AI (fun r T FR AR FI AI => zV G (pc + 3) ls st T FR AR FI AI k' n')) : zV G pc ls (x2 :: x1 :: st) T FR AR FI AI k n := zg_callS C (as := [x1, x2]) hd hk hl0 rfl hR9 (by rw [h0.1, h0.2]; exact hkc) hst (by rw [hret, h0.1, h0.2]; exact hm)
theorem zv_cVi0_3 (C : zCx M Post G) {M' : zMd} {x1 x2 x3 : zVal} {ty : FieldType} {i o ci : Nat} (hd : decode M.2.1 pc = .ok (.invokevirtual i, 3)) (hk : zMv M' 3) (hl0 : Cond.methodLink M.1.cls i M'.1 ∈ zWs) (hT : T o = (1, ci)) (hci : (vwCl[ci]?).map (fun q => q.1) = some M'.1.cls) (hR9 : zRm M M') (h0 : M'.2.2.2.2.cells = 0 ∧ M'.2.2.2.2.slots = 0) (hkc : k ≤ M.2.2.2.2.cells ∧ n ≤ M.2.2.2.2.slots) (hst : Nat.ble (st.map zcat).sum 8 = true) (hret : M'.2.2.2.1 = some ty) (hm : zMet M' (zR o :: [x1, x2, x3]) T FR AR FI AI (fun r T FR AR FI AI => zV G (pc + 3) ls (r :: st) T FR AR FI AI k n)) : zV G pc ls (x3 :: x2 :: x1 :: zR o :: st) T FR AR FI AI k n := zg_callV C (as := [x1, x2, x3]) hd hk hl0 hT hci rfl hR9 (by rw [h0.1, h0.2]; exact hkc) hst (by rw [hret, h0.1, h0.2]; exact hm)
theorem zv_cSi0_3 (C : zCx M Post G) {M' : zMd} {x1 x2 x3 : zVal} {ty : FieldType} {i : Nat} (hd : decode M.2.1 pc = .ok (.invokestatic i, 3)) (hk : zMs M' 3) (hl0 : Cond.methodLink M.1.cls i M'.1 ∈ zWs) (hR9 : zRm M M') (h0 : M'.2.2.2.2.cells = 0 ∧ M'.2.2.2.2.slots = 0) (hkc : k ≤ M.2.2.2.2.cells ∧ n ≤ M.2.2.2.2.slots) (hst : Nat.ble (st.map zcat).sum 8 = true) (hret : M'.2.2.2.1 = some ty) (hm : zMet M' [x1, x2, x3] T FR AR FI AI (fun r T FR AR FI AI => zV G (pc + 3) ls (r :: st) T FR AR FI AI k n)) : zV G pc ls (x3 :: x2 :: x1 :: st) T FR AR FI AI k n := zg_callS C (as := [x1, x2, x3]) hd hk hl0 rfl hR9 (by rw [h0.1, h0.2]; exact hkc) hst (by rw [hret, h0.1, h0.2]; exact hm)
theorem zv_cVin_3 (C : zCx M Post G) {M' : zMd} {x1 x2 x3 : zVal} {ty : FieldType} {i o ci : Nat} (hd : decode M.2.1 pc = .ok (.invokevirtual i, 3)) (hk : zMv M' 3) (hl0 : Cond.methodLink M.1.cls i M'.1 ∈ zWs) (hT : T o = (1, ci)) (hci : (vwCl[ci]?).map (fun q => q.1) = some M'.1.cls) (hR9 : zRm M M') (k' n' : Nat) (h0 : k + M'.2.2.2.2.cells = k' ∧ n + M'.2.2.2.2.slots = n') (hkc : k' ≤ M.2.2.2.2.cells ∧ n' ≤ M.2.2.2.2.slots) (hst : Nat.ble (st.map zcat).sum 8 = true) (hret : M'.2.2.2.1 = some ty) (hm : zMet M' (zR o :: [x1, x2, x3]) T FR AR FI AI (fun r T FR AR FI AI => zV G (pc + 3) ls (r :: st) T FR AR FI AI k' n')) : zV G pc ls (x3 :: x2 :: x1 :: zR o :: st) T FR AR FI AI k n := zg_callV C (as := [x1, x2, x3]) hd hk hl0 hT hci rfl hR9 (by rw [h0.1, h0.2]; exact hkc) hst (by rw [hret, h0.1, h0.2]; exact hm)
theorem zv_cSin_3 (C : zCx M Post G) {M' : zMd} {x1 x2 x3 : zVal} {ty : FieldType} {i : Nat} (hd : decode M.2.1 pc = .ok (.invokestatic i, 3)) (hk : zMs M' 3) (hl0 : Cond.methodLink M.1.cls i M'.1 ∈ zWs) (hR9 : zRm M M') (k' n' : Nat) (h0 : k + M'.2.2.2.2.cells = k' ∧ n + M'.2.2.2.2.slots = n') (hkc : k' ≤ M.2.2.2.2.cells ∧ n' ≤ M.2.2.2.2.slots) (hst : Nat.ble (st.map zcat).sum 8 = true) (hret : M'.2.2.2.1 = some ty) (hm : zMet M' [x1, x2, x3] T FR AR FI AI (fun r T FR AR FI AI => zV G (pc + 3) ls (r :: st) T FR AR FI AI k' n')) : zV G pc ls (x3 :: x2 :: x1 :: st) T FR AR FI AI k n := zg_callS C (as := [x1, x2, x3]) hd hk hl0 rfl hR9 (by rw [h0.1, h0.2]; exact hkc) hst (by rw [hret, h0.1, h0.2]; exact hm)
theorem zv_cVv0_3 (C : zCx M Post G) {M' : zMd} {x1 x2 x3 : zVal} {i o ci : Nat} (hd : decode M.2.1 pc = .ok (.invokevirtual i, 3)) (hk : zMv M' 3) (hl0 : Cond.methodLink M.1.cls i M'.1 ∈ zWs) (hT : T o = (1, ci)) (hci : (vwCl[ci]?).map (fun q => q.1) = some M'.1.cls) (hR9 : zRm M M') (h0 : M'.2.2.2.2.cells = 0 ∧ M'.2.2.2.2.slots = 0) (hkc : k ≤ M.2.2.2.2.cells ∧ n ≤ M.2.2.2.2.slots) (hst : Nat.ble (st.map zcat).sum 8 = true) (hret : M'.2.2.2.1 = none) (hm : zMet M' (zR o :: [x1, x2, x3]) T FR AR FI AI (fun r T FR AR FI AI => zV G (pc + 3) ls st T FR AR FI AI k n)) : zV G pc ls (x3 :: x2 :: x1 :: zR o :: st) T FR AR FI AI k n := zg_callV C (as := [x1, x2, x3]) hd hk hl0 hT hci rfl hR9 (by rw [h0.1, h0.2]; exact hkc) hst (by rw [hret, h0.1, h0.2]; exact hm)
theorem zv_cSv0_3 (C : zCx M Post G) {M' : zMd} {x1 x2 x3 : zVal} {i : Nat} (hd : decode M.2.1 pc = .ok (.invokestatic i, 3)) (hk : zMs M' 3) (hl0 : Cond.methodLink M.1.cls i M'.1 ∈ zWs) (hR9 : zRm M M') (h0 : M'.2.2.2.2.cells = 0 ∧ M'.2.2.2.2.slots = 0) (hkc : k ≤ M.2.2.2.2.cells ∧ n ≤ M.2.2.2.2.slots) (hst : Nat.ble (st.map zcat).sum 8 = true) (hret : M'.2.2.2.1 = none) (hm : zMet M' [x1, x2, x3] T FR AR FI AI (fun r T FR AR FI AI => zV G (pc + 3) ls st T FR AR FI AI k n)) : zV G pc ls (x3 :: x2 :: x1 :: st) T FR AR FI AI k n := zg_callS C (as := [x1, x2, x3]) hd hk hl0 rfl hR9 (by rw [h0.1, h0.2]; exact hkc) hst (by rw [hret, h0.1, h0.2]; exact hm)
theorem zv_cVvn_3 (C : zCx M Post G) {M' : zMd} {x1 x2 x3 : zVal} {i o ci : Nat} (hd : decode M.2.1 pc = .ok (.invokevirtual i, 3)) (hk : zMv M' 3) (hl0 : Cond.methodLink M.1.cls i M'.1 ∈ zWs) (hT : T o = (1, ci)) (hci : (vwCl[ci]?).map (fun q => q.1) = some M'.1.cls) (hR9 : zRm M M') (k' n' : Nat) (h0 : k + M'.2.2.2.2.cells = k' ∧ n + M'.2.2.2.2.slots = n') (hkc : k' ≤ M.2.2.2.2.cells ∧ n' ≤ M.2.2.2.2.slots) (hst : Nat.ble (st.map zcat).sum 8 = true) (hret : M'.2.2.2.1 = none) (hm : zMet M' (zR o :: [x1, x2, x3]) T FR AR FI AI (fun r T FR AR FI AI => zV G (pc + 3) ls st T FR AR FI AI k' n')) : zV G pc ls (x3 :: x2 :: x1 :: zR o :: st) T FR AR FI AI k n := zg_callV C (as := [x1, x2, x3]) hd hk hl0 hT hci rfl hR9 (by rw [h0.1, h0.2]; exact hkc) hst (by rw [hret, h0.1, h0.2]; exact hm)
theorem zv_cSvn_3 (C : zCx M Post G) {M' : zMd} {x1 x2 x3 : zVal} {i : Nat} (hd : decode M.2.1 pc = .ok (.invokestatic i, 3)) (hk : zMs M' 3) (hl0 : Cond.methodLink M.1.cls i M'.1 ∈ zWs) (hR9 : zRm M M') (k' n' : Nat) (h0 : k + M'.2.2.2.2.cells = k' ∧ n + M'.2.2.2.2.slots = n') (hkc : k' ≤ M.2.2.2.2.cells ∧ n' ≤ M.2.2.2.2.slots) (hst : Nat.ble (st.map zcat).sum 8 = true) (hret : M'.2.2.2.1 = none) (hm : zMet M' [x1, x2, x3] T FR AR FI AI (fun r T FR AR FI AI => zV G (pc + 3) ls st T FR AR FI AI k' n')) : zV G pc ls (x3 :: x2 :: x1 :: st) T FR AR FI AI k n := zg_callS C (as := [x1, x2, x3]) hd hk hl0 rfl hR9 (by rw [h0.1, h0.2]; exact hkc) hst (by rw [hret, h0.1, h0.2]; exact hm)
theorem zv_cVi0_4 (C : zCx M Post G) {M' : zMd} {x1 x2 x3 x4 : zVal} {ty : FieldType} {i o ci : Nat} (hd : decode M.2.1 pc = .ok (.invokevirtual i, 3)) (hk : zMv M' 4) (hl0 : Cond.methodLink M.1.cls i M'.1 ∈ zWs) (hT : T o = (1, ci)) (hci : (vwCl[ci]?).map (fun q => q.1) = some M'.1.cls) (hR9 : zRm M M') (h0 : M'.2.2.2.2.cells = 0 ∧ M'.2.2.2.2.slots = 0) (hkc : k ≤ M.2.2.2.2.cells ∧ n ≤ M.2.2.2.2.slots) (hst : Nat.ble (st.map zcat).sum 8 = true) (hret : M'.2.2.2.1 = some ty) (hm : zMet M' (zR o :: [x1, x2, x3, x4]) T FR AR FI AI (fun r T FR AR FI AI => zV G (pc + 3) ls (r :: st) T FR AR FI AI k n)) : zV G pc ls (x4 :: x3 :: x2 :: x1 :: zR o :: st) T FR AR FI AI k n := zg_callV C (as := [x1, x2, x3, x4]) hd hk hl0 hT hci rfl hR9 (by rw [h0.1, h0.2]; exact hkc) hst (by rw [hret, h0.1, h0.2]; exact hm)
theorem zv_cSi0_4 (C : zCx M Post G) {M' : zMd} {x1 x2 x3 x4 : zVal} {ty : FieldType} {i : Nat} (hd : decode M.2.1 pc = .ok (.invokestatic i, 3)) (hk : zMs M' 4) (hl0 : Cond.methodLink M.1.cls i M'.1 ∈ zWs) (hR9 : zRm M M') (h0 : M'.2.2.2.2.cells = 0 ∧ M'.2.2.2.2.slots = 0) (hkc : k ≤ M.2.2.2.2.cells ∧ n ≤ M.2.2.2.2.slots) (hst : Nat.ble (st.map zcat).sum 8 = true) (hret : M'.2.2.2.1 = some ty) (hm : zMet M' [x1, x2, x3, x4] T FR AR FI AI (fun r T FR AR FI AI => zV G (pc + 3) ls (r :: st) T FR AR FI AI k n)) : zV G pc ls (x4 :: x3 :: x2 :: x1 :: st) T FR AR FI AI k n := zg_callS C (as := [x1, x2, x3, x4]) hd hk hl0 rfl hR9 (by rw [h0.1, h0.2]; exact hkc) hst (by rw [hret, h0.1, h0.2]; exact hm)
theorem zv_cVin_4 (C : zCx M Post G) {M' : zMd} {x1 x2 x3 x4 : zVal} {ty : FieldType} {i o ci : Nat} (hd : decode M.2.1 pc = .ok (.invokevirtual i, 3)) (hk : zMv M' 4) (hl0 : Cond.methodLink M.1.cls i M'.1 ∈ zWs) (hT : T o = (1, ci)) (hci : (vwCl[ci]?).map (fun q => q.1) = some M'.1.cls) (hR9 : zRm M M') (k' n' : Nat) (h0 : k + M'.2.2.2.2.cells = k' ∧ n + M'.2.2.2.2.slots = n') (hkc : k' ≤ M.2.2.2.2.cells ∧ n' ≤ M.2.2.2.2.slots) (hst : Nat.ble (st.map zcat).sum 8 = true) (hret : M'.2.2.2.1 = some ty) (hm : zMet M' (zR o :: [x1, x2, x3, x4]) T FR AR FI AI (fun r T FR AR FI AI => zV G (pc + 3) ls (r :: st) T FR AR FI AI k' n')) : zV G pc ls (x4 :: x3 :: x2 :: x1 :: zR o :: st) T FR AR FI AI k n := zg_callV C (as := [x1, x2, x3, x4]) hd hk hl0 hT hci rfl hR9 (by rw [h0.1, h0.2]; exact hkc) hst (by rw [hret, h0.1, h0.2]; exact hm)
theorem zv_cSin_4 (C : zCx M Post G) {M' : zMd} {x1 x2 x3 x4 : zVal} {ty : FieldType} {i : Nat} (hd : decode M.2.1 pc = .ok (.invokestatic i, 3)) (hk : zMs M' 4) (hl0 : Cond.methodLink M.1.cls i M'.1 ∈ zWs) (hR9 : zRm M M') (k' n' : Nat) (h0 : k + M'.2.2.2.2.cells = k' ∧ n + M'.2.2.2.2.slots = n') (hkc : k' ≤ M.2.2.2.2.cells ∧ n' ≤ M.2.2.2.2.slots) (hst : Nat.ble (st.map zcat).sum 8 = true) (hret : M'.2.2.2.1 = some ty) (hm : zMet M' [x1, x2, x3, x4] T FR AR FI AI (fun r T FR AR FI AI => zV G (pc + 3) ls (r :: st) T FR AR FI AI k' n')) : zV G pc ls (x4 :: x3 :: x2 :: x1 :: st) T FR AR FI AI k n := zg_callS C (as := [x1, x2, x3, x4]) hd hk hl0 rfl hR9 (by rw [h0.1, h0.2]; exact hkc) hst (by rw [hret, h0.1, h0.2]; exact hm)
theorem zv_cVv0_4 (C : zCx M Post G) {M' : zMd} {x1 x2 x3 x4 : zVal} {i o ci : Nat} (hd : decode M.2.1 pc = .ok (.invokevirtual i, 3)) (hk : zMv M' 4) (hl0 : Cond.methodLink M.1.cls i M'.1 ∈ zWs) (hT : T o = (1, ci)) (hci : (vwCl[ci]?).map (fun q => q.1) = some M'.1.cls) (hR9 : zRm M M') (h0 : M'.2.2.2.2.cells = 0 ∧ M'.2.2.2.2.slots = 0) (hkc : k ≤ M.2.2.2.2.cells ∧ n ≤ M.2.2.2.2.slots) (hst : Nat.ble (st.map zcat).sum 8 = true) (hret : M'.2.2.2.1 = none) (hm : zMet M' (zR o :: [x1, x2, x3, x4]) T FR AR FI AI (fun r T FR AR FI AI => zV G (pc + 3) ls st T FR AR FI AI k n)) : zV G pc ls (x4 :: x3 :: x2 :: x1 :: zR o :: st) T FR AR FI AI k n := zg_callV C (as := [x1, x2, x3, x4]) hd hk hl0 hT hci rfl hR9 (by rw [h0.1, h0.2]; exact hkc) hst (by rw [hret, h0.1, h0.2]; exact hm)
theorem zv_cSv0_4 (C : zCx M Post G) {M' : zMd} {x1 x2 x3 x4 : zVal} {i : Nat} (hd : decode M.2.1 pc = .ok (.invokestatic i, 3)) (hk : zMs M' 4) (hl0 : Cond.methodLink M.1.cls i M'.1 ∈ zWs) (hR9 : zRm M M') (h0 : M'.2.2.2.2.cells = 0 ∧ M'.2.2.2.2.slots = 0) (hkc : k ≤ M.2.2.2.2.cells ∧ n ≤ M.2.2.2.2.slots) (hst : Nat.ble (st.map zcat).sum 8 = true) (hret : M'.2.2.2.1 = none) (hm : zMet M' [x1, x2, x3, x4] T FR AR FI AI (fun r T FR AR FI AI => zV G (pc + 3) ls st T FR AR FI AI k n)) : zV G pc ls (x4 :: x3 :: x2 :: x1 :: st) T FR AR FI AI k n := zg_callS C (as := [x1, x2, x3, x4]) hd hk hl0 rfl hR9 (by rw [h0.1, h0.2]; exact hkc) hst (by rw [hret, h0.1, h0.2]; exact hm)
theorem zv_cVvn_4 (C : zCx M Post G) {M' : zMd} {x1 x2 x3 x4 : zVal} {i o ci : Nat} (hd : decode M.2.1 pc = .ok (.invokevirtual i, 3)) (hk : zMv M' 4) (hl0 : Cond.methodLink M.1.cls i M'.1 ∈ zWs) (hT : T o = (1, ci)) (hci : (vwCl[ci]?).map (fun q => q.1) = some M'.1.cls) (hR9 : zRm M M') (k' n' : Nat) (h0 : k + M'.2.2.2.2.cells = k' ∧ n + M'.2.2.2.2.slots = n') (hkc : k' ≤ M.2.2.2.2.cells ∧ n' ≤ M.2.2.2.2.slots) (hst : Nat.ble (st.map zcat).sum 8 = true) (hret : M'.2.2.2.1 = none) (hm : zMet M' (zR o :: [x1, x2, x3, x4]) T FR AR FI AI (fun r T FR AR FI AI => zV G (pc + 3) ls st T FR AR FI AI k' n')) : zV G pc ls (x4 :: x3 :: x2 :: x1 :: zR o :: st) T FR AR FI AI k n := zg_callV C (as := [x1, x2, x3, x4]) hd hk hl0 hT hci rfl hR9 (by rw [h0.1, h0.2]; exact hkc) hst (by rw [hret, h0.1, h0.2]; exact hm)
theorem zv_cSvn_4 (C : zCx M Post G) {M' : zMd} {x1 x2 x3 x4 : zVal} {i : Nat} (hd : decode M.2.1 pc = .ok (.invokestatic i, 3)) (hk : zMs M' 4) (hl0 : Cond.methodLink M.1.cls i M'.1 ∈ zWs) (hR9 : zRm M M') (k' n' : Nat) (h0 : k + M'.2.2.2.2.cells = k' ∧ n + M'.2.2.2.2.slots = n') (hkc : k' ≤ M.2.2.2.2.cells ∧ n' ≤ M.2.2.2.2.slots) (hst : Nat.ble (st.map zcat).sum 8 = true) (hret : M'.2.2.2.1 = none) (hm : zMet M' [x1, x2, x3, x4] T FR AR FI AI (fun r T FR AR FI AI => zV G (pc + 3) ls st T FR AR FI AI k' n')) : zV G pc ls (x4 :: x3 :: x2 :: x1 :: st) T FR AR FI AI k n := zg_callS C (as := [x1, x2, x3, x4]) hd hk hl0 rfl hR9 (by rw [h0.1, h0.2]; exact hkc) hst (by rw [hret, h0.1, h0.2]; exact hm)
theorem zv_cVi0_5 (C : zCx M Post G) {M' : zMd} {x1 x2 x3 x4 x5 : zVal} {ty : FieldType} {i o ci : Nat} (hd : decode M.2.1 pc = .ok (.invokevirtual i, 3)) (hk : zMv M' 5) (hl0 : Cond.methodLink M.1.cls i M'.1 ∈ zWs) (hT : T o = (1, ci)) (hci : (vwCl[ci]?).map (fun q => q.1) = some M'.1.cls) (hR9 : zRm M M') (h0 : M'.2.2.2.2.cells = 0 ∧ M'.2.2.2.2.slots = 0) (hkc : k ≤ M.2.2.2.2.cells ∧ n ≤ M.2.2.2.2.slots) (hst : Nat.ble (st.map zcat).sum 8 = true) (hret : M'.2.2.2.1 = some ty) (hm : zMet M' (zR o :: [x1, x2, x3, x4, x5]) T FR AR FI AI (fun r T FR AR FI AI => zV G (pc + 3) ls (r :: st) T FR AR FI AI k n)) : zV G pc ls (x5 :: x4 :: x3 :: x2 :: x1 :: zR o :: st) T FR AR FI AI k n := zg_callV C (as := [x1, x2, x3, x4, x5]) hd hk hl0 hT hci rfl hR9 (by rw [h0.1, h0.2]; exact hkc) hst (by rw [hret, h0.1, h0.2]; exact hm)
theorem zv_cSi0_5 (C : zCx M Post G) {M' : zMd} {x1 x2 x3 x4 x5 : zVal} {ty : FieldType} {i : Nat} (hd : decode M.2.1 pc = .ok (.invokestatic i, 3)) (hk : zMs M' 5) (hl0 : Cond.methodLink M.1.cls i M'.1 ∈ zWs) (hR9 : zRm M M') (h0 : M'.2.2.2.2.cells = 0 ∧ M'.2.2.2.2.slots = 0) (hkc : k ≤ M.2.2.2.2.cells ∧ n ≤ M.2.2.2.2.slots) (hst : Nat.ble (st.map zcat).sum 8 = true) (hret : M'.2.2.2.1 = some ty) (hm : zMet M' [x1, x2, x3, x4, x5] T FR AR FI AI (fun r T FR AR FI AI => zV G (pc + 3) ls (r :: st) T FR AR FI AI k n)) : zV G pc ls (x5 :: x4 :: x3 :: x2 :: x1 :: st) T FR AR FI AI k n := zg_callS C (as := [x1, x2, x3, x4, x5]) hd hk hl0 rfl hR9 (by rw [h0.1, h0.2]; exact hkc) hst (by rw [hret, h0.1, h0.2]; exact hm)
theorem zv_cVin_5 (C : zCx M Post G) {M' : zMd} {x1 x2 x3 x4 x5 : zVal} {ty : FieldType} {i o ci : Nat} (hd : decode M.2.1 pc = .ok (.invokevirtual i, 3)) (hk : zMv M' 5) (hl0 : Cond.methodLink M.1.cls i M'.1 ∈ zWs) (hT : T o = (1, ci)) (hci : (vwCl[ci]?).map (fun q => q.1) = some M'.1.cls) (hR9 : zRm M M') (k' n' : Nat) (h0 : k + M'.2.2.2.2.cells = k' ∧ n + M'.2.2.2.2.slots = n') (hkc : k' ≤ M.2.2.2.2.cells ∧ n' ≤ M.2.2.2.2.slots) (hst : Nat.ble (st.map zcat).sum 8 = true) (hret : M'.2.2.2.1 = some ty) (hm : zMet M' (zR o :: [x1, x2, x3, x4, x5]) T FR AR FI AI (fun r T FR AR FI AI => zV G (pc + 3) ls (r :: st) T FR AR FI AI k' n')) : zV G pc ls (x5 :: x4 :: x3 :: x2 :: x1 :: zR o :: st) T FR AR FI AI k n := zg_callV C (as := [x1, x2, x3, x4, x5]) hd hk hl0 hT hci rfl hR9 (by rw [h0.1, h0.2]; exact hkc) hst (by rw [hret, h0.1, h0.2]; exact hm)
theorem zv_cSin_5 (C : zCx M Post G) {M' : zMd} {x1 x2 x3 x4 x5 : zVal} {ty : FieldType} {i : Nat} (hd : decode M.2.1 pc = .ok (.invokestatic i, 3)) (hk : zMs M' 5) (hl0 : Cond.methodLink M.1.cls i M'.1 ∈ zWs) (hR9 : zRm M M') (k' n' : Nat) (h0 : k + M'.2.2.2.2.cells = k' ∧ n + M'.2.2.2.2.slots = n') (hkc : k' ≤ M.2.2.2.2.cells ∧ n' ≤ M.2.2.2.2.slots) (hst : Nat.ble (st.map zcat).sum 8 = true) (hret : M'.2.2.2.1 = some ty) (hm : zMet M' [x1, x2, x3, x4, x5] T FR AR FI AI (fun r T FR AR FI AI => zV G (pc + 3) ls (r :: st) T FR AR FI AI k' n')) : zV G pc ls (x5 :: x4 :: x3 :: x2 :: x1 :: st) T FR AR FI AI k n := zg_callS C (as := [x1, x2, x3, x4, x5]) hd hk hl0 rfl hR9 (by rw [h0.1, h0.2]; exact hkc) hst (by rw [hret, h0.1, h0.2]; exact hm)
theorem zv_cVv0_5 (C : zCx M Post G) {M' : zMd} {x1 x2 x3 x4 x5 : zVal} {i o ci : Nat} (hd : decode M.2.1 pc = .ok (.invokevirtual i, 3)) (hk : zMv M' 5) (hl0 : Cond.methodLink M.1.cls i M'.1 ∈ zWs) (hT : T o = (1, ci)) (hci : (vwCl[ci]?).map (fun q => q.1) = some M'.1.cls) (hR9 : zRm M M') (h0 : M'.2.2.2.2.cells = 0 ∧ M'.2.2.2.2.slots = 0) (hkc : k ≤ M.2.2.2.2.cells ∧ n ≤ M.2.2.2.2.slots) (hst : Nat.ble (st.map zcat).sum 8 = true) (hret : M'.2.2.2.1 = none) (hm : zMet M' (zR o :: [x1, x2, x3, x4, x5]) T FR AR FI AI (fun r T FR AR FI AI => zV G (pc + 3) ls st T FR AR FI AI k n)) : zV G pc ls (x5 :: x4 :: x3 :: x2 :: x1 :: zR o :: st) T FR AR FI AI k n := zg_callV C (as := [x1, x2, x3, x4, x5]) hd hk hl0 hT hci rfl hR9 (by rw [h0.1, h0.2]; exact hkc) hst (by rw [hret, h0.1, h0.2]; exact hm)
theorem zv_cSv0_5 (C : zCx M Post G) {M' : zMd} {x1 x2 x3 x4 x5 : zVal} {i : Nat} (hd : decode M.2.1 pc = .ok (.invokestatic i, 3)) (hk : zMs M' 5) (hl0 : Cond.methodLink M.1.cls i M'.1 ∈ zWs) (hR9 : zRm M M') (h0 : M'.2.2.2.2.cells = 0 ∧ M'.2.2.2.2.slots = 0) (hkc : k ≤ M.2.2.2.2.cells ∧ n ≤ M.2.2.2.2.slots) (hst : Nat.ble (st.map zcat).sum 8 = true) (hret : M'.2.2.2.1 = none) (hm : zMet M' [x1, x2, x3, x4, x5] T FR AR FI AI (fun r T FR AR FI AI => zV G (pc + 3) ls st T FR AR FI AI k n)) : zV G pc ls (x5 :: x4 :: x3 :: x2 :: x1 :: st) T FR AR FI AI k n := zg_callS C (as := [x1, x2, x3, x4, x5]) hd hk hl0 rfl hR9 (by rw [h0.1, h0.2]; exact hkc) hst (by rw [hret, h0.1, h0.2]; exact hm)
theorem zv_cVvn_5 (C : zCx M Post G) {M' : zMd} {x1 x2 x3 x4 x5 : zVal} {i o ci : Nat} (hd : decode M.2.1 pc = .ok (.invokevirtual i, 3)) (hk : zMv M' 5) (hl0 : Cond.methodLink M.1.cls i M'.1 ∈ zWs) (hT : T o = (1, ci)) (hci : (vwCl[ci]?).map (fun q => q.1) = some M'.1.cls) (hR9 : zRm M M') (k' n' : Nat) (h0 : k + M'.2.2.2.2.cells = k' ∧ n + M'.2.2.2.2.slots = n') (hkc : k' ≤ M.2.2.2.2.cells ∧ n' ≤ M.2.2.2.2.slots) (hst : Nat.ble (st.map zcat).sum 8 = true) (hret : M'.2.2.2.1 = none) (hm : zMet M' (zR o :: [x1, x2, x3, x4, x5]) T FR AR FI AI (fun r T FR AR FI AI => zV G (pc + 3) ls st T FR AR FI AI k' n')) : zV G pc ls (x5 :: x4 :: x3 :: x2 :: x1 :: zR o :: st) T FR AR FI AI k n := zg_callV C (as := [x1, x2, x3, x4, x5]) hd hk hl0 hT hci rfl hR9 (by rw [h0.1, h0.2]; exact hkc) hst (by rw [hret, h0.1, h0.2]; exact hm)
theorem zv_cSvn_5 (C : zCx M Post G) {M' : zMd} {x1 x2 x3 x4 x5 : zVal} {i : Nat} (hd : decode M.2.1 pc = .ok (.invokestatic i, 3)) (hk : zMs M' 5) (hl0 : Cond.methodLink M.1.cls i M'.1 ∈ zWs) (hR9 : zRm M M') (k' n' : Nat) (h0 : k + M'.2.2.2.2.cells = k' ∧ n + M'.2.2.2.2.slots = n') (hkc : k' ≤ M.2.2.2.2.cells ∧ n' ≤ M.2.2.2.2.slots) (hst : Nat.ble (st.map zcat).sum 8 = true) (hret : M'.2.2.2.1 = none) (hm : zMet M' [x1, x2, x3, x4, x5] T FR AR FI AI (fun r T FR AR FI AI => zV G (pc + 3) ls st T FR AR FI AI k' n')) : zV G pc ls (x5 :: x4 :: x3 :: x2 :: x1 :: st) T FR AR FI AI k n := zg_callS C (as := [x1, x2, x3, x4, x5]) hd hk hl0 rfl hR9 (by rw [h0.1, h0.2]; exact hkc) hst (by rw [hret, h0.1, h0.2]; exact hm)
theorem zv_cVi0_6 (C : zCx M Post G) {M' : zMd} {x1 x2 x3 x4 x5 x6 : zVal} {ty : FieldType} {i o ci : Nat} (hd : decode M.2.1 pc = .ok (.invokevirtual i, 3)) (hk : zMv M' 6) (hl0 : Cond.methodLink M.1.cls i M'.1 ∈ zWs) (hT : T o = (1, ci)) (hci : (vwCl[ci]?).map (fun q => q.1) = some M'.1.cls) (hR9 : zRm M M') (h0 : M'.2.2.2.2.cells = 0 ∧ M'.2.2.2.2.slots = 0) (hkc : k ≤ M.2.2.2.2.cells ∧ n ≤ M.2.2.2.2.slots) (hst : Nat.ble (st.map zcat).sum 8 = true) (hret : M'.2.2.2.1 = some ty) (hm : zMet M' (zR o :: [x1, x2, x3, x4, x5, x6]) T FR AR FI AI (fun r T FR AR FI AI => zV G (pc + 3) ls (r :: st) T FR AR FI AI k n)) : zV G pc ls (x6 :: x5 :: x4 :: x3 :: x2 :: x1 :: zR o :: st) T FR AR FI AI k n := zg_callV C (as := [x1, x2, x3, x4, x5, x6]) hd hk hl0 hT hci rfl hR9 (by rw [h0.1, h0.2]; exact hkc) hst (by rw [hret, h0.1, h0.2]; exact hm)
theorem zv_cSi0_6 (C : zCx M Post G) {M' : zMd} {x1 x2 x3 x4 x5 x6 : zVal} {ty : FieldType} {i : Nat} (hd : decode M.2.1 pc = .ok (.invokestatic i, 3)) (hk : zMs M' 6) (hl0 : Cond.methodLink M.1.cls i M'.1 ∈ zWs) (hR9 : zRm M M') (h0 : M'.2.2.2.2.cells = 0 ∧ M'.2.2.2.2.slots = 0) (hkc : k ≤ M.2.2.2.2.cells ∧ n ≤ M.2.2.2.2.slots) (hst : Nat.ble (st.map zcat).sum 8 = true) (hret : M'.2.2.2.1 = some ty) (hm : zMet M' [x1, x2, x3, x4, x5, x6] T FR AR FI AI (fun r T FR AR FI AI => zV G (pc + 3) ls (r :: st) T FR AR FI AI k n)) : zV G pc ls (x6 :: x5 :: x4 :: x3 :: x2 :: x1 :: st) T FR AR FI AI k n := zg_callS C (as := [x1, x2, x3, x4, x5, x6]) hd hk hl0 rfl hR9 (by rw [h0.1, h0.2]; exact hkc) hst (by rw [hret, h0.1, h0.2]; exact hm)
theorem zv_cVin_6 (C : zCx M Post G) {M' : zMd} {x1 x2 x3 x4 x5 x6 : zVal} {ty : FieldType} {i o ci : Nat} (hd : decode M.2.1 pc = .ok (.invokevirtual i, 3)) (hk : zMv M' 6) (hl0 : Cond.methodLink M.1.cls i M'.1 ∈ zWs) (hT : T o = (1, ci)) (hci : (vwCl[ci]?).map (fun q => q.1) = some M'.1.cls) (hR9 : zRm M M') (k' n' : Nat) (h0 : k + M'.2.2.2.2.cells = k' ∧ n + M'.2.2.2.2.slots = n') (hkc : k' ≤ M.2.2.2.2.cells ∧ n' ≤ M.2.2.2.2.slots) (hst : Nat.ble (st.map zcat).sum 8 = true) (hret : M'.2.2.2.1 = some ty) (hm : zMet M' (zR o :: [x1, x2, x3, x4, x5, x6]) T FR AR FI AI (fun r T FR AR FI AI => zV G (pc + 3) ls (r :: st) T FR AR FI AI k' n')) : zV G pc ls (x6 :: x5 :: x4 :: x3 :: x2 :: x1 :: zR o :: st) T FR AR FI AI k n := zg_callV C (as := [x1, x2, x3, x4, x5, x6]) hd hk hl0 hT hci rfl hR9 (by rw [h0.1, h0.2]; exact hkc) hst (by rw [hret, h0.1, h0.2]; exact hm)
theorem zv_cSin_6 (C : zCx M Post G) {M' : zMd} {x1 x2 x3 x4 x5 x6 : zVal} {ty : FieldType} {i : Nat} (hd : decode M.2.1 pc = .ok (.invokestatic i, 3)) (hk : zMs M' 6) (hl0 : Cond.methodLink M.1.cls i M'.1 ∈ zWs) (hR9 : zRm M M') (k' n' : Nat) (h0 : k + M'.2.2.2.2.cells = k' ∧ n + M'.2.2.2.2.slots = n') (hkc : k' ≤ M.2.2.2.2.cells ∧ n' ≤ M.2.2.2.2.slots) (hst : Nat.ble (st.map zcat).sum 8 = true) (hret : M'.2.2.2.1 = some ty) (hm : zMet M' [x1, x2, x3, x4, x5, x6] T FR AR FI AI (fun r T FR AR FI AI => zV G (pc + 3) ls (r :: st) T FR AR FI AI k' n')) : zV G pc ls (x6 :: x5 :: x4 :: x3 :: x2 :: x1 :: st) T FR AR FI AI k n := zg_callS C (as := [x1, x2, x3, x4, x5, x6]) hd hk hl0 rfl hR9 (by rw [h0.1, h0.2]; exact hkc) hst (by rw [hret, h0.1, h0.2]; exact hm)
theorem zv_cVv0_6 (C : zCx M Post G) {M' : zMd} {x1 x2 x3 x4 x5 x6 : zVal} {i o ci : Nat} (hd : decode M.2.1 pc = .ok (.invokevirtual i, 3)) (hk : zMv M' 6) (hl0 : Cond.methodLink M.1.cls i M'.1 ∈ zWs) (hT : T o = (1, ci)) (hci : (vwCl[ci]?).map (fun q => q.1) = some M'.1.cls) (hR9 : zRm M M') (h0 : M'.2.2.2.2.cells = 0 ∧ M'.2.2.2.2.slots = 0) (hkc : k ≤ M.2.2.2.2.cells ∧ n ≤ M.2.2.2.2.slots) (hst : Nat.ble (st.map zcat).sum 8 = true) (hret : M'.2.2.2.1 = none) (hm : zMet M' (zR o :: [x1, x2, x3, x4, x5, x6]) T FR AR FI AI (fun r T FR AR FI AI => zV G (pc + 3) ls st T FR AR FI AI k n)) : zV G pc ls (x6 :: x5 :: x4 :: x3 :: x2 :: x1 :: zR o :: st) T FR AR FI AI k n := zg_callV C (as := [x1, x2, x3, x4, x5, x6]) hd hk hl0 hT hci rfl hR9 (by rw [h0.1, h0.2]; exact hkc) hst (by rw [hret, h0.1, h0.2]; exact hm)
theorem zv_cSv0_6 (C : zCx M Post G) {M' : zMd} {x1 x2 x3 x4 x5 x6 : zVal} {i : Nat} (hd : decode M.2.1 pc = .ok (.invokestatic i, 3)) (hk : zMs M' 6) (hl0 : Cond.methodLink M.1.cls i M'.1 ∈ zWs) (hR9 : zRm M M') (h0 : M'.2.2.2.2.cells = 0 ∧ M'.2.2.2.2.slots = 0) (hkc : k ≤ M.2.2.2.2.cells ∧ n ≤ M.2.2.2.2.slots) (hst : Nat.ble (st.map zcat).sum 8 = true) (hret : M'.2.2.2.1 = none) (hm : zMet M' [x1, x2, x3, x4, x5, x6] T FR AR FI AI (fun r T FR AR FI AI => zV G (pc + 3) ls st T FR AR FI AI k n)) : zV G pc ls (x6 :: x5 :: x4 :: x3 :: x2 :: x1 :: st) T FR AR FI AI k n := zg_callS C (as := [x1, x2, x3, x4, x5, x6]) hd hk hl0 rfl hR9 (by rw [h0.1, h0.2]; exact hkc) hst (by rw [hret, h0.1, h0.2]; exact hm)
theorem zv_cVvn_6 (C : zCx M Post G) {M' : zMd} {x1 x2 x3 x4 x5 x6 : zVal} {i o ci : Nat} (hd : decode M.2.1 pc = .ok (.invokevirtual i, 3)) (hk : zMv M' 6) (hl0 : Cond.methodLink M.1.cls i M'.1 ∈ zWs) (hT : T o = (1, ci)) (hci : (vwCl[ci]?).map (fun q => q.1) = some M'.1.cls) (hR9 : zRm M M') (k' n' : Nat) (h0 : k + M'.2.2.2.2.cells = k' ∧ n + M'.2.2.2.2.slots = n') (hkc : k' ≤ M.2.2.2.2.cells ∧ n' ≤ M.2.2.2.2.slots) (hst : Nat.ble (st.map zcat).sum 8 = true) (hret : M'.2.2.2.1 = none) (hm : zMet M' (zR o :: [x1, x2, x3, x4, x5, x6]) T FR AR FI AI (fun r T FR AR FI AI => zV G (pc + 3) ls st T FR AR FI AI k' n')) : zV G pc ls (x6 :: x5 :: x4 :: x3 :: x2 :: x1 :: zR o :: st) T FR AR FI AI k n := zg_callV C (as := [x1, x2, x3, x4, x5, x6]) hd hk hl0 hT hci rfl hR9 (by rw [h0.1, h0.2]; exact hkc) hst (by rw [hret, h0.1, h0.2]; exact hm)
theorem zv_cSvn_6 (C : zCx M Post G) {M' : zMd} {x1 x2 x3 x4 x5 x6 : zVal} {i : Nat} (hd : decode M.2.1 pc = .ok (.invokestatic i, 3)) (hk : zMs M' 6) (hl0 : Cond.methodLink M.1.cls i M'.1 ∈ zWs) (hR9 : zRm M M') (k' n' : Nat) (h0 : k + M'.2.2.2.2.cells = k' ∧ n + M'.2.2.2.2.slots = n') (hkc : k' ≤ M.2.2.2.2.cells ∧ n' ≤ M.2.2.2.2.slots) (hst : Nat.ble (st.map zcat).sum 8 = true) (hret : M'.2.2.2.1 = none) (hm : zMet M' [x1, x2, x3, x4, x5, x6] T FR AR FI AI (fun r T FR AR FI AI => zV G (pc + 3) ls st T FR AR FI AI k' n')) : zV G pc ls (x6 :: x5 :: x4 :: x3 :: x2 :: x1 :: st) T FR AR FI AI k n := zg_callS C (as := [x1, x2, x3, x4, x5, x6]) hd hk hl0 rfl hR9 (by rw [h0.1, h0.2]; exact hkc) hst (by rw [hret, h0.1, h0.2]; exact hm)
end ZStat
theorem zOF_word {i : Nat} (h : i < 7) (sa : Nat → Nat) : ("DeferredDesk$Line", "word", "Ljava/lang/String;", Value.ref (sa (10 + i)), sa i) ∈ zOFs sa := List.mem_append_left _ (List.mem_flatMap.mpr ⟨i, List.mem_range.mpr h, List.mem_cons_self⟩)
theorem zOF_slots {i : Nat} (h : i < 7) (sa : Nat → Nat) : ("DeferredDesk$Line", "slots", "Ljava/lang/String;", Value.ref (sa (10 + zSlo.getD i 0)), sa i) ∈ zOFs sa := List.mem_append_left _ (List.mem_flatMap.mpr ⟨i, List.mem_range.mpr h, List.mem_cons_of_mem _ List.mem_cons_self⟩)
theorem zOF_ord {i : Nat} (h : i < 7) (sa : Nat → Nat) : ("java/lang/Enum", "ordinal", "I", Value.int (Int32.ofNat i), sa i) ∈ zOFs sa := List.mem_append_left _ (List.mem_flatMap.mpr ⟨i, List.mem_range.mpr h, List.mem_cons_of_mem _ (List.mem_cons_of_mem _ List.mem_cons_self)⟩)
theorem zOF_coder {j : Nat} (h : j < 13) (sa : Nat → Nat) : ("java/lang/String", "coder", "B", Value.int 0, sa (10 + j)) ∈ zOFs sa := List.mem_append_right _ (List.mem_flatMap.mpr ⟨j, List.mem_range.mpr h, List.mem_cons_self⟩)
theorem zOF_value {j : Nat} (h : j < 13) (sa : Nat → Nat) : ("java/lang/String", "value", "[B", Value.ref (sa (30 + j)), sa (10 + j)) ∈ zOFs sa := List.mem_append_right _ (List.mem_flatMap.mpr ⟨j, List.mem_range.mpr h, List.mem_cons_of_mem _ List.mem_cons_self⟩)
theorem zTS_all (sa : Nat → Nat) : (FieldType.object "DeferredDesk$Line", sa 7, 7, fun j => Value.ref (sa j)) ∈ zTSs sa := List.mem_cons_self
theorem zTS_sw (sa : Nat → Nat) : (FieldType.int, sa 8, 7, fun j => Value.int (zSw.getD j 0)) ∈ zTSs sa := List.mem_cons_of_mem _ List.mem_cons_self
theorem zTS_byt {j : Nat} (h : j < 13) (sa : Nat → Nat) : (FieldType.byte, sa (30 + j), (zByt.getD j []).length, fun i => Value.int ((zByt.getD j []).getD i 0)) ∈ zTSs sa := List.mem_append_right _ (List.mem_map.mpr ⟨j, List.mem_range.mpr h, rfl⟩)
theorem zOS_line {i : Nat} (h : i < 7) (sa : Nat → Nat) : ("DeferredDesk$Line", sa i) ∈ zOSs sa := List.mem_append_left _ (List.mem_map.mpr ⟨i, List.mem_range.mpr h, rfl⟩)
theorem zOS_str {j : Nat} (h : j < 13) (sa : Nat → Nat) : ("java/lang/String", sa (10 + j)) ∈ zOSs sa := List.mem_append_right _ (List.mem_map.mpr ⟨j, List.mem_range.mpr h, rfl⟩)
end
section
section ZBits
variable {M : zMd} {Post : zPost} {G : zG} {pc : Nat} {ls : List (Option zVal)} {st : List zVal} {T : zTt} {FR : zFR} {AR : zAR} {FI : zFI} {AI : zAI} {k n : Nat}
theorem zbv {x : Int} (h : zr32 x) : ((Int32.ofInt x).toBitVec.toNat : Int) = x % 4294967296 := by
  have h1 : (Int32.ofInt x).toBitVec = BitVec.ofInt 32 x := rfl
  rw [h1, BitVec.toNat_ofInt]
  have h2 : (0 : Int) ≤ x % ((2 ^ 32 : Nat) : Int) := Int.emod_nonneg _ (by decide)
  rw [Int.toNat_of_nonneg h2]
  rfl
theorem zand {x m : Int} (k : Nat) (hx : zr32 x) (hm : (Int32.ofInt m).toBitVec.toNat = 2 ^ k - 1) (hk : k ≤ 30) : (Int32.ofInt x &&& Int32.ofInt m) = Int32.ofInt (x % ((2 ^ k : Nat) : Int)) := by
  rw [pk_and _ k hm]
  have e1 : nI ((Int32.ofInt x).toBitVec.toNat % 2 ^ k) = Int32.ofInt (((Int32.ofInt x).toBitVec.toNat % 2 ^ k : Nat) : Int) := Int32.ofInt_eq_ofNat.symm
  rw [e1]
  congr 1
  rw [Int.natCast_emod, zbv hx]
  have hd : ((2 ^ k : Nat) : Int) ∣ 4294967296 := by
    have : (4294967296 : Int) = ((2 ^ 32 : Nat) : Int) := rfl
    rw [this]
    exact Int.natCast_dvd_natCast.mpr (Nat.pow_dvd_pow 2 (by omega))
  exact Int.emod_emod_of_dvd x hd
theorem zv_iand (C : zCx M Post G) {x mk : Int} (kb : Nat) (hd : decode M.2.1 pc = .ok (.iand, 1)) (hm : (Nat.beq (Int32.ofInt mk).toBitVec.toNat (2 ^ kb - 1) && Nat.ble kb 30) = true) (kk : zV G (pc + 1) ls (zI (x % ((2 ^ kb : Nat) : Int)) :: st) T FR AR FI AI k n) : zV G pc ls (zI mk :: zI x :: st) T FR AR FI AI k n := by
  obtain ⟨p, l, e, R, s, m, args, below, meth, c, Q, A, D, cs, T0, ad0⟩ := G
  obtain ⟨hx, hb, hml, hr, hlk, hnm, hown, hts, hK, hA, hR, hQ, hSt, hfl⟩ := C
  intro ad H locs lsr hM hS hl h1 h2
  rw [Bool.and_eq_true] at hm
  have hk : kb ≤ 30 := Nat.le_of_ble_eq_true hm.2
  have e1 := zand (m := mk) kb (zhd (ztl h2)) (Nat.eq_of_beq_eq_true hm.1) hk
  have hp : 0 < ((2 ^ kb : Nat) : Int) := Int.natCast_pos.mpr (Nat.pos_of_ne_zero (by simp))
  have hb1 := Int.emod_nonneg x (Int.ne_of_gt hp)
  have hb2 := Int.emod_lt_of_pos x hp
  have hle : 2 ^ kb ≤ 2 ^ 30 := Nat.pow_le_pow_right (by decide) hk
  have kk' := kk ad H locs lsr hM hS hl h1 (zcons (show zr32 _ from ⟨by omega, by omega⟩) (ztl (ztl h2)))
  rw [List.map_cons, show zc ad (zI (x % ((2 ^ kb : Nat) : Int))) = .int (Int32.ofInt x &&& Int32.ofInt mk) from by rw [e1]; rfl] at kk'
  exact lv_iand hx hb hd kk'
theorem zv_ishr (C : zCx M Post G) {x y : Int} (kb : Nat) (hd : decode M.2.1 pc = .ok (.ishr, 1)) (hy : y = (kb : Int)) (hs : ((Int32.ofInt (kb : Int) &&& 31).toBitVec.smod 32).toNat = kb) (kk : zV G (pc + 1) ls (zI (x / ((2 ^ kb : Nat) : Int)) :: st) T FR AR FI AI k n) : zV G pc ls (zI y :: zI x :: st) T FR AR FI AI k n := by
  obtain ⟨p, l, e, R, s, m, args, below, meth, c, Q, A, D, cs, T0, ad0⟩ := G
  obtain ⟨hx, hb, hml, hr, hlk, hnm, hown, hts, hK, hA, hR, hQ, hSt, hfl⟩ := C
  intro ad H locs lsr hM hS hl h1 h2
  subst hy
  have hx3 : zr32 x := zhd (ztl h2)
  have e1 := pk_shr (Int32.ofInt x) (Int32.ofInt (kb : Int) &&& 31) kb hs
  rw [z32 hx3, Int.shiftRight_eq_div_pow] at e1
  have hp : 0 < ((2 ^ kb : Nat) : Int) := Int.natCast_pos.mpr (Nat.pos_of_ne_zero (by simp))
  have hr3 : zr32 (x / ((2 ^ kb : Nat) : Int)) := by
    rw [← e1]
    exact ⟨by have := Int32.le_toInt (Int32.ofInt x >>> (Int32.ofInt (kb : Int) &&& 31)); omega, by have := Int32.toInt_lt (Int32.ofInt x >>> (Int32.ofInt (kb : Int) &&& 31)); omega⟩
  have kk' := kk ad H locs lsr hM hS hl h1 (zcons hr3 (ztl (ztl h2)))
  rw [List.map_cons, show zc ad (zI (x / ((2 ^ kb : Nat) : Int))) = .int (Int32.ofInt x >>> (Int32.ofInt (kb : Int) &&& 31)) from by show Value.int _ = _; congr 1; rw [← Int32.toInt_inj, e1, z32 hr3]] at kk'
  exact lv_ishr hx hb hd kk'
theorem zv_iushr (C : zCx M Post G) {x y : Int} (kb : Nat) (hd : decode M.2.1 pc = .ok (.iushr, 1)) (hy : y = (kb : Int)) (hs : (((Int32.ofInt (kb : Int)).toUInt32 &&& Int32.toUInt32 31).toBitVec % 32).toNat = kb) (kk : zV G (pc + 1) ls (zI (Int.bmod (x % 4294967296 / ((2 ^ kb : Nat) : Int)) 4294967296) :: st) T FR AR FI AI k n) : zV G pc ls (zI y :: zI x :: st) T FR AR FI AI k n := by
  obtain ⟨p, l, e, R, s, m, args, below, meth, c, Q, A, D, cs, T0, ad0⟩ := G
  obtain ⟨hx, hb, hml, hr, hlk, hnm, hown, hts, hK, hA, hR, hQ, hSt, hfl⟩ := C
  intro ad H locs lsr hM hS hl h1 h2
  subst hy
  have hx3 : zr32 x := zhd (ztl h2)
  have e1 := pk_ushr (Int32.ofInt x) (Int32.ofInt (kb : Int)) kb hs
  generalize hv : ((Int32.ofInt x).toUInt32 >>> ((Int32.ofInt (kb : Int)).toUInt32 &&& Int32.toUInt32 31)).toInt32 = v at e1
  have e2 : v.toInt = Int.bmod (x % 4294967296 / ((2 ^ kb : Nat) : Int)) 4294967296 := by
    have e3 : v.toInt = Int.bmod (v.toBitVec.toNat : Int) 4294967296 := BitVec.toInt_eq_toNat_bmod v.toBitVec
    rw [e3, e1, Int.natCast_ediv, zbv hx3]
  have hr4 : zr32 (Int.bmod (x % 4294967296 / ((2 ^ kb : Nat) : Int)) 4294967296) := by
    rw [← e2]
    exact ⟨by have := Int32.le_toInt v; omega, by have := Int32.toInt_lt v; omega⟩
  have kk' := kk ad H locs lsr hM hS hl h1 (zcons hr4 (ztl (ztl h2)))
  have e5 : Int32.ofInt (Int.bmod (x % 4294967296 / ((2 ^ kb : Nat) : Int)) 4294967296) = v := by rw [← Int32.toInt_inj, e2, z32 hr4]
  exact lv_iushr hx hb hd (hv.trans e5.symm) kk'
theorem zv_i2c (C : zCx M Post G) {x : Int} (hd : decode M.2.1 pc = .ok (.i2c, 1)) (g1 : 0 ≤ x) (g2 : x < 65536) (kk : zV G (pc + 1) ls (zI x :: st) T FR AR FI AI k n) : zV G pc ls (zI x :: st) T FR AR FI AI k n := by
  obtain ⟨p, l, e, R, s, m, args, below, meth, c, Q, A, D, cs, T0, ad0⟩ := G
  obtain ⟨hx, hb, hml, hr, hlk, hnm, hown, hts, hK, hA, hR, hQ, hSt, hfl⟩ := C
  intro ad H locs lsr hM hS hl h1 h2
  have hx3 : zr32 x := zhd h2
  exact lv_i2c hx hb hd (lg_i2c_word (by rw [z32 hx3]; exact g1) (by rw [z32 hx3]; exact g2)) (kk ad H locs lsr hM hS hl h1 h2)
theorem zv_lcmp (C : zCx M Post G) {x y : Int} (hd : decode M.2.1 pc = .ok (.lcmp, 1)) (kk : zV G (pc + 1) ls (zI (if y < x then 1 else if x = y then 0 else -1) :: st) T FR AR FI AI k n) : zV G pc ls (zL y :: zL x :: st) T FR AR FI AI k n := by
  obtain ⟨p, l, e, R, s, m, args, below, meth, c, Q, A, D, cs, T0, ad0⟩ := G
  obtain ⟨hx, hb, hml, hr, hlk, hnm, hown, hts, hK, hA, hR, hQ, hSt, hfl⟩ := C
  intro ad H locs lsr hM hS hl h1 h2
  have hx3 : zr64 x := zhd (ztl h2)
  have hy3 : zr64 y := zhd h2
  have e1 : Int64.ofInt y < Int64.ofInt x ↔ y < x := by rw [Int64.lt_iff_toInt_lt, z64 hx3, z64 hy3]
  have e2 : Int64.ofInt x = Int64.ofInt y ↔ x = y := by rw [← Int64.toInt_inj, z64 hx3, z64 hy3]
  have hr7 : zr32 (if y < x then 1 else if x = y then 0 else -1) := by
    by_cases q1 : y < x
    · rw [if_pos q1]; exact ⟨by decide, by decide⟩
    · rw [if_neg q1]
      by_cases q2 : x = y
      · rw [if_pos q2]; exact ⟨by decide, by decide⟩
      · rw [if_neg q2]; exact ⟨by decide, by decide⟩
  have kk' := kk ad H locs lsr hM hS hl h1 (zcons hr7 (ztl (ztl h2)))
  refine W.lcmp hx hb hd ?_
  have e3 : zc ad (zI (if y < x then 1 else if x = y then 0 else -1)) = .int (lg_cmp (Int64.ofInt x) (Int64.ofInt y)) := by
    show Value.int _ = _
    congr 1
    unfold lg_cmp
    by_cases q1 : y < x
    · rw [if_pos q1, if_pos (e1.mpr q1)]; rfl
    · rw [if_neg q1, if_neg (fun z => q1 (e1.mp z))]
      by_cases q2 : x = y
      · rw [if_pos q2, if_pos (e2.mpr q2)]; rfl
      · rw [if_neg q2, if_neg (fun z => q2 (e2.mp z))]; rfl
  rw [List.map_cons, e3] at kk'
  exact kk'
theorem zv_ldcw (C : zCx M Post G) {x : Int} {v : Int32} {i : Nat} (hd : decode M.2.1 pc = .ok (.ldc_w i, 3)) (hw : Cond.constant M.1.cls i v ∈ zWs) (hv : (decide (zr32 x) && decide (v = Int32.ofInt x)) = true) (kk : zV G (pc + 3) ls (zI x :: st) T FR AR FI AI k n) : zV G pc ls st T FR AR FI AI k n := by
  obtain ⟨p, l, e, R, s, m, args, below, meth, c, Q, A, D, cs, T0, ad0⟩ := G
  obtain ⟨hx, hb, hml, hr, hlk, hnm, hown, hts, hK, hA, hR, hQ, hSt, hfl⟩ := C
  intro ad H locs lsr hM hS hl h1 h2
  rw [Bool.and_eq_true] at hv
  have e2 : v = Int32.ofInt x := of_decide_eq_true hv.2
  subst e2
  exact lv_ldcw hx hb hown (hts _ hw) hd (kk ad H locs lsr hM hS hl h1 (zcons (show zr32 x from of_decide_eq_true hv.1) h2))
end ZBits
end
