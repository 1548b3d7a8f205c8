section
-- ===== PART A: goes FIRST, ahead of the names: the tables' words, and 'selects' of the private methods out of them =====
/-- a private method of a class that the tables say can be made, by its rows of tables_1 -/
def lw_okq (q : MethodName × Nat) : Prop := (q.1.cls ≠ "java/lang/invoke/MethodHandle" ∧ q.1.cls ≠ "java/lang/invoke/VarHandle") ∧ Cond.instantiable q.1.cls q.2 ∈ tables_1 ∧ Cond.privateMethod q.1 ∈ tables_1 ∧ Cond.instanceMethod q.1 ∈ tables_1
theorem lw_p0 : lw_okq (⟨"KindJudge$Flow", "frameAhead", "(II)J"⟩, 12) := ⟨⟨by decide +kernel, by decide +kernel⟩, List.mem_of_getElem? (i := 170) (by decide +kernel), List.mem_of_getElem? (i := 291) (by decide +kernel), List.mem_of_getElem? (i := 292) (by decide +kernel)⟩
theorem lw_p1 : lw_okq (⟨"KindJudge", "mayBeComeTo", "(II)Z"⟩, 6) := ⟨⟨by decide +kernel, by decide +kernel⟩, List.mem_of_getElem? (i := 18) (by decide +kernel), List.mem_of_getElem? (i := 303) (by decide +kernel), List.mem_of_getElem? (i := 304) (by decide +kernel)⟩
theorem lw_p2 : lw_okq (⟨"KindJudge", "highestBehind", "(I)I"⟩, 6) := ⟨⟨by decide +kernel, by decide +kernel⟩, List.mem_of_getElem? (i := 18) (by decide +kernel), List.mem_of_getElem? (i := 349) (by decide +kernel), List.mem_of_getElem? (i := 350) (by decide +kernel)⟩
theorem lw_p3 : lw_okq (⟨"KindJudge$Flow", "open", "(II)V"⟩, 12) := ⟨⟨by decide +kernel, by decide +kernel⟩, List.mem_of_getElem? (i := 170) (by decide +kernel), List.mem_of_getElem? (i := 357) (by decide +kernel), List.mem_of_getElem? (i := 358) (by decide +kernel)⟩
theorem lw_p4 : lw_okq (⟨"KindJudge", "instructions", "(IZ)I"⟩, 6) := ⟨⟨by decide +kernel, by decide +kernel⟩, List.mem_of_getElem? (i := 18) (by decide +kernel), List.mem_of_getElem? (i := 388) (by decide +kernel), List.mem_of_getElem? (i := 389) (by decide +kernel)⟩
theorem lw_p5 : lw_okq (⟨"KindJudge", "findFault", "()V"⟩, 6) := ⟨⟨by decide +kernel, by decide +kernel⟩, List.mem_of_getElem? (i := 18) (by decide +kernel), List.mem_of_getElem? (i := 467) (by decide +kernel), List.mem_of_getElem? (i := 468) (by decide +kernel)⟩
theorem lw_p6 : lw_okq (⟨"KindJudge", "keepFault", "(III)V"⟩, 6) := ⟨⟨by decide +kernel, by decide +kernel⟩, List.mem_of_getElem? (i := 18) (by decide +kernel), List.mem_of_getElem? (i := 471) (by decide +kernel), List.mem_of_getElem? (i := 472) (by decide +kernel)⟩
theorem lw_p7 : lw_okq (⟨"KindJudge$Classes", "readOne", "(LKindJudge$Reader;I)V"⟩, 5) := ⟨⟨by decide +kernel, by decide +kernel⟩, List.mem_of_getElem? (i := 54) (by decide +kernel), List.mem_of_getElem? (i := 504) (by decide +kernel), List.mem_of_getElem? (i := 505) (by decide +kernel)⟩
theorem lw_p8 : lw_okq (⟨"KindJudge$Layout", "readMethod", "(I)V"⟩, 9) := ⟨⟨by decide +kernel, by decide +kernel⟩, List.mem_of_getElem? (i := 48) (by decide +kernel), List.mem_of_getElem? (i := 524) (by decide +kernel), List.mem_of_getElem? (i := 525) (by decide +kernel)⟩
theorem lw_p9 : lw_okq (⟨"KindJudge$Layout", "readTableOf", "(I)V"⟩, 9) := ⟨⟨by decide +kernel, by decide +kernel⟩, List.mem_of_getElem? (i := 48) (by decide +kernel), List.mem_of_getElem? (i := 538) (by decide +kernel), List.mem_of_getElem? (i := 539) (by decide +kernel)⟩
theorem lw_p10 : lw_okq (⟨"KindJudge$Layout", "isGoodFor", "(III)Z"⟩, 9) := ⟨⟨by decide +kernel, by decide +kernel⟩, List.mem_of_getElem? (i := 48) (by decide +kernel), List.mem_of_getElem? (i := 544) (by decide +kernel), List.mem_of_getElem? (i := 545) (by decide +kernel)⟩
theorem lw_p11 : lw_okq (⟨"KindJudge$Code", "markBeginnings", "(I)V"⟩, 3) := ⟨⟨by decide +kernel, by decide +kernel⟩, List.mem_of_getElem? (i := 153) (by decide +kernel), List.mem_of_getElem? (i := 568) (by decide +kernel), List.mem_of_getElem? (i := 569) (by decide +kernel)⟩
theorem lw_p12 : lw_okq (⟨"KindJudge$Code", "isFaulty", "(II)Z"⟩, 3) := ⟨⟨by decide +kernel, by decide +kernel⟩, List.mem_of_getElem? (i := 153) (by decide +kernel), List.mem_of_getElem? (i := 573) (by decide +kernel), List.mem_of_getElem? (i := 574) (by decide +kernel)⟩
theorem lw_p13 : lw_okq (⟨"KindJudge$Code", "namesNothing", "(II)Z"⟩, 3) := ⟨⟨by decide +kernel, by decide +kernel⟩, List.mem_of_getElem? (i := 153) (by decide +kernel), List.mem_of_getElem? (i := 577) (by decide +kernel), List.mem_of_getElem? (i := 578) (by decide +kernel)⟩
theorem lw_p14 : lw_okq (⟨"KindJudge$Flow", "forget", "(II)V"⟩, 12) := ⟨⟨by decide +kernel, by decide +kernel⟩, List.mem_of_getElem? (i := 170) (by decide +kernel), List.mem_of_getElem? (i := 591) (by decide +kernel), List.mem_of_getElem? (i := 592) (by decide +kernel)⟩
theorem lw_p15 : lw_okq (⟨"KindJudge$Flow", "firstFrame", "(I)J"⟩, 12) := ⟨⟨by decide +kernel, by decide +kernel⟩, List.mem_of_getElem? (i := 170) (by decide +kernel), List.mem_of_getElem? (i := 595) (by decide +kernel), List.mem_of_getElem? (i := 596) (by decide +kernel)⟩
def lw_privs_1 : List (MethodName × Nat) := [(⟨"KindJudge$Flow", "frameAhead", "(II)J"⟩, 12), (⟨"KindJudge", "mayBeComeTo", "(II)Z"⟩, 6), (⟨"KindJudge", "highestBehind", "(I)I"⟩, 6), (⟨"KindJudge$Flow", "open", "(II)V"⟩, 12), (⟨"KindJudge", "instructions", "(IZ)I"⟩, 6), (⟨"KindJudge", "findFault", "()V"⟩, 6), (⟨"KindJudge", "keepFault", "(III)V"⟩, 6), (⟨"KindJudge$Classes", "readOne", "(LKindJudge$Reader;I)V"⟩, 5), (⟨"KindJudge$Layout", "readMethod", "(I)V"⟩, 9), (⟨"KindJudge$Layout", "readTableOf", "(I)V"⟩, 9), (⟨"KindJudge$Layout", "isGoodFor", "(III)Z"⟩, 9), (⟨"KindJudge$Code", "markBeginnings", "(I)V"⟩, 3), (⟨"KindJudge$Code", "isFaulty", "(II)Z"⟩, 3), (⟨"KindJudge$Code", "namesNothing", "(II)Z"⟩, 3), (⟨"KindJudge$Flow", "forget", "(II)V"⟩, 12), (⟨"KindJudge$Flow", "firstFrame", "(I)J"⟩, 12)]
theorem lw_r1 : ∀ q ∈ lw_privs_1, lw_okq q := List.forall_mem_cons.mpr ⟨lw_p0, List.forall_mem_cons.mpr ⟨lw_p1, List.forall_mem_cons.mpr ⟨lw_p2, List.forall_mem_cons.mpr ⟨lw_p3, List.forall_mem_cons.mpr ⟨lw_p4, List.forall_mem_cons.mpr ⟨lw_p5, List.forall_mem_cons.mpr ⟨lw_p6, List.forall_mem_cons.mpr ⟨lw_p7, List.forall_mem_cons.mpr ⟨lw_p8, List.forall_mem_cons.mpr ⟨lw_p9, List.forall_mem_cons.mpr ⟨lw_p10, List.forall_mem_cons.mpr ⟨lw_p11, List.forall_mem_cons.mpr ⟨lw_p12, List.forall_mem_cons.mpr ⟨lw_p13, List.forall_mem_cons.mpr ⟨lw_p14, List.forall_mem_cons.mpr ⟨lw_p15, fun _ h => absurd h List.not_mem_nil⟩⟩⟩⟩⟩⟩⟩⟩⟩⟩⟩⟩⟩⟩⟩⟩
theorem lw_p16 : lw_okq (⟨"KindJudge$Flow", "arrive", "(IIIJ)V"⟩, 12) := ⟨⟨by decide +kernel, by decide +kernel⟩, List.mem_of_getElem? (i := 170) (by decide +kernel), List.mem_of_getElem? (i := 606) (by decide +kernel), List.mem_of_getElem? (i := 607) (by decide +kernel)⟩
theorem lw_p17 : lw_okq (⟨"KindJudge$Flow", "bothFrames", "(JJ)J"⟩, 12) := ⟨⟨by decide +kernel, by decide +kernel⟩, List.mem_of_getElem? (i := 170) (by decide +kernel), List.mem_of_getElem? (i := 610) (by decide +kernel), List.mem_of_getElem? (i := 611) (by decide +kernel)⟩
theorem lw_p18 : lw_okq (⟨"KindJudge$Flow", "spread", "(II)V"⟩, 12) := ⟨⟨by decide +kernel, by decide +kernel⟩, List.mem_of_getElem? (i := 170) (by decide +kernel), List.mem_of_getElem? (i := 616) (by decide +kernel), List.mem_of_getElem? (i := 617) (by decide +kernel)⟩
theorem lw_p19 : lw_okq (⟨"KindJudge$Flow", "frameBehind", "()J"⟩, 12) := ⟨⟨by decide +kernel, by decide +kernel⟩, List.mem_of_getElem? (i := 170) (by decide +kernel), List.mem_of_getElem? (i := 620) (by decide +kernel), List.mem_of_getElem? (i := 621) (by decide +kernel)⟩
theorem lw_p20 : lw_okq (⟨"KindJudge$Flow", "taken", "(I)I"⟩, 12) := ⟨⟨by decide +kernel, by decide +kernel⟩, List.mem_of_getElem? (i := 170) (by decide +kernel), List.mem_of_getElem? (i := 624) (by decide +kernel), List.mem_of_getElem? (i := 625) (by decide +kernel)⟩
theorem lw_p21 : lw_okq (⟨"KindJudge$Flow", "kindPut", "()I"⟩, 12) := ⟨⟨by decide +kernel, by decide +kernel⟩, List.mem_of_getElem? (i := 170) (by decide +kernel), List.mem_of_getElem? (i := 628) (by decide +kernel), List.mem_of_getElem? (i := 629) (by decide +kernel)⟩
theorem lw_p22 : lw_okq (⟨"KindJudge$Flow", "takesWhatIsFit", "(I)Z"⟩, 12) := ⟨⟨by decide +kernel, by decide +kernel⟩, List.mem_of_getElem? (i := 170) (by decide +kernel), List.mem_of_getElem? (i := 642) (by decide +kernel), List.mem_of_getElem? (i := 643) (by decide +kernel)⟩
theorem lw_p23 : lw_okq (⟨"KindJudge$Flow", "areInts", "(I)Z"⟩, 12) := ⟨⟨by decide +kernel, by decide +kernel⟩, List.mem_of_getElem? (i := 170) (by decide +kernel), List.mem_of_getElem? (i := 646) (by decide +kernel), List.mem_of_getElem? (i := 647) (by decide +kernel)⟩
theorem lw_p24 : lw_okq (⟨"KindJudge$Flow", "fitsItsTypes", "(III)Z"⟩, 12) := ⟨⟨by decide +kernel, by decide +kernel⟩, List.mem_of_getElem? (i := 170) (by decide +kernel), List.mem_of_getElem? (i := 653) (by decide +kernel), List.mem_of_getElem? (i := 654) (by decide +kernel)⟩
theorem lw_p25 : lw_okq (⟨"KindJudge$Flow", "areParameters", "(LKindJudge$Signatures;I)Z"⟩, 12) := ⟨⟨by decide +kernel, by decide +kernel⟩, List.mem_of_getElem? (i := 170) (by decide +kernel), List.mem_of_getElem? (i := 658) (by decide +kernel), List.mem_of_getElem? (i := 659) (by decide +kernel)⟩
theorem lw_p26 : lw_okq (⟨"java/lang/Throwable", "fillInStackTrace", "(I)Ljava/lang/Throwable;"⟩, 6) := ⟨⟨by decide +kernel, by decide +kernel⟩, List.mem_of_getElem? (i := 704) (by decide +kernel), List.mem_of_getElem? (i := 702) (by decide +kernel), List.mem_of_getElem? (i := 703) (by decide +kernel)⟩
theorem lw_p27 : lw_okq (⟨"KindJudgeModel", "isFine", "()Z"⟩, 37) := ⟨⟨by decide +kernel, by decide +kernel⟩, List.mem_of_getElem? (i := 761) (by decide +kernel), List.mem_of_getElem? (i := 892) (by decide +kernel), List.mem_of_getElem? (i := 893) (by decide +kernel)⟩
theorem lw_p28 : lw_okq (⟨"KindJudgeModel", "takeApart", "()Z"⟩, 37) := ⟨⟨by decide +kernel, by decide +kernel⟩, List.mem_of_getElem? (i := 761) (by decide +kernel), List.mem_of_getElem? (i := 896) (by decide +kernel), List.mem_of_getElem? (i := 897) (by decide +kernel)⟩
theorem lw_p29 : lw_okq (⟨"KindJudgeModel", "next", "(II)I"⟩, 37) := ⟨⟨by decide +kernel, by decide +kernel⟩, List.mem_of_getElem? (i := 761) (by decide +kernel), List.mem_of_getElem? (i := 900) (by decide +kernel), List.mem_of_getElem? (i := 901) (by decide +kernel)⟩
theorem lw_p30 : lw_okq (⟨"KindJudgeModel", "readClass", "(I)V"⟩, 37) := ⟨⟨by decide +kernel, by decide +kernel⟩, List.mem_of_getElem? (i := 761) (by decide +kernel), List.mem_of_getElem? (i := 907) (by decide +kernel), List.mem_of_getElem? (i := 908) (by decide +kernel)⟩
theorem lw_p31 : lw_okq (⟨"KindJudgeModel", "readType", "(Z)I"⟩, 37) := ⟨⟨by decide +kernel, by decide +kernel⟩, List.mem_of_getElem? (i := 761) (by decide +kernel), List.mem_of_getElem? (i := 911) (by decide +kernel), List.mem_of_getElem? (i := 912) (by decide +kernel)⟩
def lw_privs_2 : List (MethodName × Nat) := [(⟨"KindJudge$Flow", "arrive", "(IIIJ)V"⟩, 12), (⟨"KindJudge$Flow", "bothFrames", "(JJ)J"⟩, 12), (⟨"KindJudge$Flow", "spread", "(II)V"⟩, 12), (⟨"KindJudge$Flow", "frameBehind", "()J"⟩, 12), (⟨"KindJudge$Flow", "taken", "(I)I"⟩, 12), (⟨"KindJudge$Flow", "kindPut", "()I"⟩, 12), (⟨"KindJudge$Flow", "takesWhatIsFit", "(I)Z"⟩, 12), (⟨"KindJudge$Flow", "areInts", "(I)Z"⟩, 12), (⟨"KindJudge$Flow", "fitsItsTypes", "(III)Z"⟩, 12), (⟨"KindJudge$Flow", "areParameters", "(LKindJudge$Signatures;I)Z"⟩, 12), (⟨"java/lang/Throwable", "fillInStackTrace", "(I)Ljava/lang/Throwable;"⟩, 6), (⟨"KindJudgeModel", "isFine", "()Z"⟩, 37), (⟨"KindJudgeModel", "takeApart", "()Z"⟩, 37), (⟨"KindJudgeModel", "next", "(II)I"⟩, 37), (⟨"KindJudgeModel", "readClass", "(I)V"⟩, 37), (⟨"KindJudgeModel", "readType", "(Z)I"⟩, 37)]
theorem lw_r2 : ∀ q ∈ lw_privs_2, lw_okq q := List.forall_mem_cons.mpr ⟨lw_p16, List.forall_mem_cons.mpr ⟨lw_p17, List.forall_mem_cons.mpr ⟨lw_p18, List.forall_mem_cons.mpr ⟨lw_p19, List.forall_mem_cons.mpr ⟨lw_p20, List.forall_mem_cons.mpr ⟨lw_p21, List.forall_mem_cons.mpr ⟨lw_p22, List.forall_mem_cons.mpr ⟨lw_p23, List.forall_mem_cons.mpr ⟨lw_p24, List.forall_mem_cons.mpr ⟨lw_p25, List.forall_mem_cons.mpr ⟨lw_p26, List.forall_mem_cons.mpr ⟨lw_p27, List.forall_mem_cons.mpr ⟨lw_p28, List.forall_mem_cons.mpr ⟨lw_p29, List.forall_mem_cons.mpr ⟨lw_p30, List.forall_mem_cons.mpr ⟨lw_p31, fun _ h => absurd h List.not_mem_nil⟩⟩⟩⟩⟩⟩⟩⟩⟩⟩⟩⟩⟩⟩⟩⟩
theorem lw_p32 : lw_okq (⟨"KindJudgeModel", "readSelector", "(I)V"⟩, 37) := ⟨⟨by decide +kernel, by decide +kernel⟩, List.mem_of_getElem? (i := 761) (by decide +kernel), List.mem_of_getElem? (i := 915) (by decide +kernel), List.mem_of_getElem? (i := 916) (by decide +kernel)⟩
theorem lw_p33 : lw_okq (⟨"KindJudgeModel", "readMethod", "(I)V"⟩, 37) := ⟨⟨by decide +kernel, by decide +kernel⟩, List.mem_of_getElem? (i := 761) (by decide +kernel), List.mem_of_getElem? (i := 919) (by decide +kernel), List.mem_of_getElem? (i := 920) (by decide +kernel)⟩
theorem lw_p34 : lw_okq (⟨"KindJudgeModel", "readTable", "(II)V"⟩, 37) := ⟨⟨by decide +kernel, by decide +kernel⟩, List.mem_of_getElem? (i := 761) (by decide +kernel), List.mem_of_getElem? (i := 923) (by decide +kernel), List.mem_of_getElem? (i := 924) (by decide +kernel)⟩
theorem lw_p35 : lw_okq (⟨"KindJudgeModel", "mayStand", "(III)Z"⟩, 37) := ⟨⟨by decide +kernel, by decide +kernel⟩, List.mem_of_getElem? (i := 761) (by decide +kernel), List.mem_of_getElem? (i := 927) (by decide +kernel), List.mem_of_getElem? (i := 928) (by decide +kernel)⟩
theorem lw_p36 : lw_okq (⟨"KindJudgeModel", "isOf", "(II)Z"⟩, 37) := ⟨⟨by decide +kernel, by decide +kernel⟩, List.mem_of_getElem? (i := 761) (by decide +kernel), List.mem_of_getElem? (i := 931) (by decide +kernel), List.mem_of_getElem? (i := 932) (by decide +kernel)⟩
theorem lw_p37 : lw_okq (⟨"KindJudgeModel", "isBelow", "(II)Z"⟩, 37) := ⟨⟨by decide +kernel, by decide +kernel⟩, List.mem_of_getElem? (i := 761) (by decide +kernel), List.mem_of_getElem? (i := 935) (by decide +kernel), List.mem_of_getElem? (i := 936) (by decide +kernel)⟩
theorem lw_p38 : lw_okq (⟨"KindJudgeModel", "findFault", "(III)Z"⟩, 37) := ⟨⟨by decide +kernel, by decide +kernel⟩, List.mem_of_getElem? (i := 761) (by decide +kernel), List.mem_of_getElem? (i := 939) (by decide +kernel), List.mem_of_getElem? (i := 940) (by decide +kernel)⟩
theorem lw_p39 : lw_okq (⟨"KindJudgeModel", "findBegins", "(I)V"⟩, 37) := ⟨⟨by decide +kernel, by decide +kernel⟩, List.mem_of_getElem? (i := 761) (by decide +kernel), List.mem_of_getElem? (i := 943) (by decide +kernel), List.mem_of_getElem? (i := 944) (by decide +kernel)⟩
theorem lw_p40 : lw_okq (⟨"KindJudgeModel", "longOf", "(II)I"⟩, 37) := ⟨⟨by decide +kernel, by decide +kernel⟩, List.mem_of_getElem? (i := 761) (by decide +kernel), List.mem_of_getElem? (i := 947) (by decide +kernel), List.mem_of_getElem? (i := 948) (by decide +kernel)⟩
theorem lw_p41 : lw_okq (⟨"KindJudgeModel", "byteAt", "(II)I"⟩, 37) := ⟨⟨by decide +kernel, by decide +kernel⟩, List.mem_of_getElem? (i := 761) (by decide +kernel), List.mem_of_getElem? (i := 951) (by decide +kernel), List.mem_of_getElem? (i := 952) (by decide +kernel)⟩
theorem lw_p42 : lw_okq (⟨"KindJudgeModel", "isGood", "(II)Z"⟩, 37) := ⟨⟨by decide +kernel, by decide +kernel⟩, List.mem_of_getElem? (i := 761) (by decide +kernel), List.mem_of_getElem? (i := 958) (by decide +kernel), List.mem_of_getElem? (i := 959) (by decide +kernel)⟩
theorem lw_p43 : lw_okq (⟨"KindJudgeModel", "isPlace", "(II)Z"⟩, 37) := ⟨⟨by decide +kernel, by decide +kernel⟩, List.mem_of_getElem? (i := 761) (by decide +kernel), List.mem_of_getElem? (i := 962) (by decide +kernel), List.mem_of_getElem? (i := 963) (by decide +kernel)⟩
theorem lw_p44 : lw_okq (⟨"KindJudgeModel", "flow", "(I)V"⟩, 37) := ⟨⟨by decide +kernel, by decide +kernel⟩, List.mem_of_getElem? (i := 761) (by decide +kernel), List.mem_of_getElem? (i := 966) (by decide +kernel), List.mem_of_getElem? (i := 967) (by decide +kernel)⟩
theorem lw_p45 : lw_okq (⟨"KindJudgeModel", "merge", "(IIZ)Z"⟩, 37) := ⟨⟨by decide +kernel, by decide +kernel⟩, List.mem_of_getElem? (i := 761) (by decide +kernel), List.mem_of_getElem? (i := 970) (by decide +kernel), List.mem_of_getElem? (i := 971) (by decide +kernel)⟩
theorem lw_p46 : lw_okq (⟨"KindJudgeModel", "joined", "(II)I"⟩, 37) := ⟨⟨by decide +kernel, by decide +kernel⟩, List.mem_of_getElem? (i := 761) (by decide +kernel), List.mem_of_getElem? (i := 974) (by decide +kernel), List.mem_of_getElem? (i := 975) (by decide +kernel)⟩
theorem lw_p47 : lw_okq (⟨"KindJudgeModel", "goOn", "(II)Z"⟩, 37) := ⟨⟨by decide +kernel, by decide +kernel⟩, List.mem_of_getElem? (i := 761) (by decide +kernel), List.mem_of_getElem? (i := 978) (by decide +kernel), List.mem_of_getElem? (i := 979) (by decide +kernel)⟩
def lw_privs_3 : List (MethodName × Nat) := [(⟨"KindJudgeModel", "readSelector", "(I)V"⟩, 37), (⟨"KindJudgeModel", "readMethod", "(I)V"⟩, 37), (⟨"KindJudgeModel", "readTable", "(II)V"⟩, 37), (⟨"KindJudgeModel", "mayStand", "(III)Z"⟩, 37), (⟨"KindJudgeModel", "isOf", "(II)Z"⟩, 37), (⟨"KindJudgeModel", "isBelow", "(II)Z"⟩, 37), (⟨"KindJudgeModel", "findFault", "(III)Z"⟩, 37), (⟨"KindJudgeModel", "findBegins", "(I)V"⟩, 37), (⟨"KindJudgeModel", "longOf", "(II)I"⟩, 37), (⟨"KindJudgeModel", "byteAt", "(II)I"⟩, 37), (⟨"KindJudgeModel", "isGood", "(II)Z"⟩, 37), (⟨"KindJudgeModel", "isPlace", "(II)Z"⟩, 37), (⟨"KindJudgeModel", "flow", "(I)V"⟩, 37), (⟨"KindJudgeModel", "merge", "(IIZ)Z"⟩, 37), (⟨"KindJudgeModel", "joined", "(II)I"⟩, 37), (⟨"KindJudgeModel", "goOn", "(II)Z"⟩, 37)]
theorem lw_r3 : ∀ q ∈ lw_privs_3, lw_okq q := List.forall_mem_cons.mpr ⟨lw_p32, List.forall_mem_cons.mpr ⟨lw_p33, List.forall_mem_cons.mpr ⟨lw_p34, List.forall_mem_cons.mpr ⟨lw_p35, List.forall_mem_cons.mpr ⟨lw_p36, List.forall_mem_cons.mpr ⟨lw_p37, List.forall_mem_cons.mpr ⟨lw_p38, List.forall_mem_cons.mpr ⟨lw_p39, List.forall_mem_cons.mpr ⟨lw_p40, List.forall_mem_cons.mpr ⟨lw_p41, List.forall_mem_cons.mpr ⟨lw_p42, List.forall_mem_cons.mpr ⟨lw_p43, List.forall_mem_cons.mpr ⟨lw_p44, List.forall_mem_cons.mpr ⟨lw_p45, List.forall_mem_cons.mpr ⟨lw_p46, List.forall_mem_cons.mpr ⟨lw_p47, fun _ h => absurd h List.not_mem_nil⟩⟩⟩⟩⟩⟩⟩⟩⟩⟩⟩⟩⟩⟩⟩⟩
theorem lw_p48 : lw_okq (⟨"KindJudgeModel", "behind", "(II)V"⟩, 37) := ⟨⟨by decide +kernel, by decide +kernel⟩, List.mem_of_getElem? (i := 761) (by decide +kernel), List.mem_of_getElem? (i := 982) (by decide +kernel), List.mem_of_getElem? (i := 983) (by decide +kernel)⟩
theorem lw_p49 : lw_okq (⟨"KindJudgeModel", "takes", "(II)I"⟩, 37) := ⟨⟨by decide +kernel, by decide +kernel⟩, List.mem_of_getElem? (i := 761) (by decide +kernel), List.mem_of_getElem? (i := 986) (by decide +kernel), List.mem_of_getElem? (i := 987) (by decide +kernel)⟩
theorem lw_p50 : lw_okq (⟨"KindJudgeModel", "drop", "(I)V"⟩, 37) := ⟨⟨by decide +kernel, by decide +kernel⟩, List.mem_of_getElem? (i := 761) (by decide +kernel), List.mem_of_getElem? (i := 990) (by decide +kernel), List.mem_of_getElem? (i := 991) (by decide +kernel)⟩
theorem lw_p51 : lw_okq (⟨"KindJudgeModel", "popKind", "()I"⟩, 37) := ⟨⟨by decide +kernel, by decide +kernel⟩, List.mem_of_getElem? (i := 761) (by decide +kernel), List.mem_of_getElem? (i := 994) (by decide +kernel), List.mem_of_getElem? (i := 995) (by decide +kernel)⟩
theorem lw_p52 : lw_okq (⟨"KindJudgeModel", "pushKind", "(I)V"⟩, 37) := ⟨⟨by decide +kernel, by decide +kernel⟩, List.mem_of_getElem? (i := 761) (by decide +kernel), List.mem_of_getElem? (i := 998) (by decide +kernel), List.mem_of_getElem? (i := 999) (by decide +kernel)⟩
theorem lw_p53 : lw_okq (⟨"KindJudgeModel", "isWrong", "(II)Z"⟩, 37) := ⟨⟨by decide +kernel, by decide +kernel⟩, List.mem_of_getElem? (i := 761) (by decide +kernel), List.mem_of_getElem? (i := 1002) (by decide +kernel), List.mem_of_getElem? (i := 1003) (by decide +kernel)⟩
theorem lw_p54 : lw_okq (⟨"KindJudgeModel", "isFit", "(II)Z"⟩, 37) := ⟨⟨by decide +kernel, by decide +kernel⟩, List.mem_of_getElem? (i := 761) (by decide +kernel), List.mem_of_getElem? (i := 1009) (by decide +kernel), List.mem_of_getElem? (i := 1010) (by decide +kernel)⟩
theorem lw_p55 : lw_okq (⟨"KindJudgeModel", "resolve", "(II)I"⟩, 37) := ⟨⟨by decide +kernel, by decide +kernel⟩, List.mem_of_getElem? (i := 761) (by decide +kernel), List.mem_of_getElem? (i := 1013) (by decide +kernel), List.mem_of_getElem? (i := 1014) (by decide +kernel)⟩
theorem lw_p56 : lw_okq (⟨"KindJudgeModel", "again", "()V"⟩, 37) := ⟨⟨by decide +kernel, by decide +kernel⟩, List.mem_of_getElem? (i := 761) (by decide +kernel), List.mem_of_getElem? (i := 1017) (by decide +kernel), List.mem_of_getElem? (i := 1018) (by decide +kernel)⟩
theorem lw_p57 : lw_okq (⟨"KindJudgeModel", "raise", "(I)I"⟩, 37) := ⟨⟨by decide +kernel, by decide +kernel⟩, List.mem_of_getElem? (i := 761) (by decide +kernel), List.mem_of_getElem? (i := 1021) (by decide +kernel), List.mem_of_getElem? (i := 1022) (by decide +kernel)⟩
theorem lw_p58 : lw_okq (⟨"KindJudgeModel", "isBegun", "(II)Z"⟩, 37) := ⟨⟨by decide +kernel, by decide +kernel⟩, List.mem_of_getElem? (i := 761) (by decide +kernel), List.mem_of_getElem? (i := 1037) (by decide +kernel), List.mem_of_getElem? (i := 1038) (by decide +kernel)⟩
theorem lw_p59 : lw_okq (⟨"KindJudgeModel", "isMethod", "(I)Z"⟩, 37) := ⟨⟨by decide +kernel, by decide +kernel⟩, List.mem_of_getElem? (i := 761) (by decide +kernel), List.mem_of_getElem? (i := 1041) (by decide +kernel), List.mem_of_getElem? (i := 1042) (by decide +kernel)⟩
theorem lw_p60 : lw_okq (⟨"KindJudgeModel", "puts", "(II)I"⟩, 37) := ⟨⟨by decide +kernel, by decide +kernel⟩, List.mem_of_getElem? (i := 761) (by decide +kernel), List.mem_of_getElem? (i := 1045) (by decide +kernel), List.mem_of_getElem? (i := 1046) (by decide +kernel)⟩
theorem lw_p61 : lw_okq (⟨"KindJudgeModel", "isReached", "(II)Z"⟩, 37) := ⟨⟨by decide +kernel, by decide +kernel⟩, List.mem_of_getElem? (i := 761) (by decide +kernel), List.mem_of_getElem? (i := 1049) (by decide +kernel), List.mem_of_getElem? (i := 1050) (by decide +kernel)⟩
theorem lw_p62 : lw_okq (⟨"KindJudgeModel", "goesTo", "(III)Z"⟩, 37) := ⟨⟨by decide +kernel, by decide +kernel⟩, List.mem_of_getElem? (i := 761) (by decide +kernel), List.mem_of_getElem? (i := 1057) (by decide +kernel), List.mem_of_getElem? (i := 1058) (by decide +kernel)⟩
theorem lw_p63 : lw_okq (⟨"KindJudgeModel", "isKind", "(I)Z"⟩, 37) := ⟨⟨by decide +kernel, by decide +kernel⟩, List.mem_of_getElem? (i := 761) (by decide +kernel), List.mem_of_getElem? (i := 1069) (by decide +kernel), List.mem_of_getElem? (i := 1070) (by decide +kernel)⟩
def lw_privs_4 : List (MethodName × Nat) := [(⟨"KindJudgeModel", "behind", "(II)V"⟩, 37), (⟨"KindJudgeModel", "takes", "(II)I"⟩, 37), (⟨"KindJudgeModel", "drop", "(I)V"⟩, 37), (⟨"KindJudgeModel", "popKind", "()I"⟩, 37), (⟨"KindJudgeModel", "pushKind", "(I)V"⟩, 37), (⟨"KindJudgeModel", "isWrong", "(II)Z"⟩, 37), (⟨"KindJudgeModel", "isFit", "(II)Z"⟩, 37), (⟨"KindJudgeModel", "resolve", "(II)I"⟩, 37), (⟨"KindJudgeModel", "again", "()V"⟩, 37), (⟨"KindJudgeModel", "raise", "(I)I"⟩, 37), (⟨"KindJudgeModel", "isBegun", "(II)Z"⟩, 37), (⟨"KindJudgeModel", "isMethod", "(I)Z"⟩, 37), (⟨"KindJudgeModel", "puts", "(II)I"⟩, 37), (⟨"KindJudgeModel", "isReached", "(II)Z"⟩, 37), (⟨"KindJudgeModel", "goesTo", "(III)Z"⟩, 37), (⟨"KindJudgeModel", "isKind", "(I)Z"⟩, 37)]
theorem lw_r4 : ∀ q ∈ lw_privs_4, lw_okq q := List.forall_mem_cons.mpr ⟨lw_p48, List.forall_mem_cons.mpr ⟨lw_p49, List.forall_mem_cons.mpr ⟨lw_p50, List.forall_mem_cons.mpr ⟨lw_p51, List.forall_mem_cons.mpr ⟨lw_p52, List.forall_mem_cons.mpr ⟨lw_p53, List.forall_mem_cons.mpr ⟨lw_p54, List.forall_mem_cons.mpr ⟨lw_p55, List.forall_mem_cons.mpr ⟨lw_p56, List.forall_mem_cons.mpr ⟨lw_p57, List.forall_mem_cons.mpr ⟨lw_p58, List.forall_mem_cons.mpr ⟨lw_p59, List.forall_mem_cons.mpr ⟨lw_p60, List.forall_mem_cons.mpr ⟨lw_p61, List.forall_mem_cons.mpr ⟨lw_p62, List.forall_mem_cons.mpr ⟨lw_p63, fun _ h => absurd h List.not_mem_nil⟩⟩⟩⟩⟩⟩⟩⟩⟩⟩⟩⟩⟩⟩⟩⟩
def lw_privs : List (MethodName × Nat) := lw_privs_1 ++ (lw_privs_2 ++ (lw_privs_3 ++ (lw_privs_4)))
def lw_tbl : List Cond := k2_sels lw_privs ++ tables_1
theorem lw_privs_ok : ∀ q ∈ lw_privs, lw_okq q := by
  show ∀ q ∈ lw_privs_1 ++ (lw_privs_2 ++ (lw_privs_3 ++ (lw_privs_4))), lw_okq q
  exact List.forall_mem_append.mpr ⟨lw_r1, List.forall_mem_append.mpr ⟨lw_r2, List.forall_mem_append.mpr ⟨lw_r3, lw_r4⟩⟩⟩
end
section
/-! THE SMALL MACHINE. A store: shapes of cells (inl (type, length): an array; inr c: an object of class number c), ints, longs, references by (cell, slot). References are numbers of cells; from 100000 on: static tables. -/
abbrev mv_Sh : Type := (Nat × Nat) ⊕ Nat
abbrev mv_S : Type := List mv_Sh × (Nat → Nat → Int32) × (Nat → Nat → Int64) × (Nat → Nat → Option Nat)
abbrev mv_L : Type := List (Option Value)
/-- a row of a method's table: its place, the instruction, its length, four numbers -/
abbrev mv_E : Type := Nat × ClassFile.Instr × Nat × Nat × Nat × Nat × Nat
/-- a frame: place, locals, stack, cells and slots made, store -/
abbrev mv_F : Type := Nat × mv_L × List Value × Nat × Nat × mv_S
/-- a method: name, bytes, locals, answer, owner, table, the cells that it makes, the slots at most, its room: frames and words of locals -/
abbrev mv_Me : Type := MethodName × ByteArray × Nat × Option FieldType × String × List mv_E × Nat × Nat × Nat × Nat
abbrev mv_cc (M : mv_Me) : ByteArray := M.2.1
abbrev mv_ml (M : mv_Me) : Nat := M.2.2.1
abbrev mv_rt (M : mv_Me) : Option FieldType := M.2.2.2.1
abbrev mv_ow (M : mv_Me) : String := M.2.2.2.2.1
abbrev mv_tb (M : mv_Me) : List mv_E := M.2.2.2.2.2.1
abbrev mv_mc (M : mv_Me) : Nat := M.2.2.2.2.2.2.1
abbrev mv_ms (M : mv_Me) : Nat := M.2.2.2.2.2.2.2.1
abbrev mv_fr (M : mv_Me) : Nat := M.2.2.2.2.2.2.2.2.1
abbrev mv_lo (M : mv_Me) : Nat := M.2.2.2.2.2.2.2.2.2
def mv_at : List mv_E → Nat → Option (ClassFile.Instr × Nat × Nat × Nat × Nat × Nat)
  | [], _ => none
  | e :: r, pc => bif Nat.beq e.1 pc then some e.2 else mv_at r pc
def mv_len (i : ClassFile.Instr) : Nat := match i with
  | .bipush _ | .iload _ | .lload _ | .aload _ | .istore _ | .lstore _ | .astore _ | .ldc _ | .newarray _ => 2
  | .sipush _ | .ldc_w _ | .ldc2_w _ | .iinc _ _ | .getfield _ | .putfield _ | .getstatic _ | .new _ | .invokevirtual _ | .invokespecial _ | .invokestatic _ | .ifCond _ _ | .if_icmp _ _ | .goto _ => 3
  | _ => 1
def mv_up {α : Type} (f : Nat → Nat → α) (k j : Nat) (x : α) : Nat → Nat → α := fun a b => if a = k then (if b = j then x else f a b) else f a b
def mv_clr {α : Type} (f : Nat → Nat → α) (k : Nat) (x : α) : Nat → Nat → α := fun a b => if a = k then x else f a b
/-- instructions on the stack alone -/
def mv_ii (f : Int32 → Int32 → Int32) (st : List Value) : Option (List Value) := match st with
  | .int y :: .int x :: r => some (.int (f x y) :: r)
  | _ => none
def mv_i1 (f : Int32 → Value) (st : List Value) : Option (List Value) := match st with
  | .int x :: r => some (f x :: r)
  | _ => none
def mv_ll (f : Int64 → Int64 → Value) (st : List Value) : Option (List Value) := match st with
  | .long y :: .long x :: r => some (f x y :: r)
  | _ => none
def mv_li (f : Int64 → Int32 → Int64) (st : List Value) : Option (List Value) := match st with
  | .int y :: .long x :: r => some (.long (f x y) :: r)
  | _ => none
def mv_l1 (f : Int64 → Value) (st : List Value) : Option (List Value) := match st with
  | .long x :: r => some (f x :: r)
  | _ => none
def mv_c1 (v : Value) : Bool := Nat.beq v.category 1
def mv_pure (i : ClassFile.Instr) (st : List Value) : Option (List Value) := match i with
  | .iconst n => some (.int (Int32.ofInt n) :: st)
  | .bipush n => some (.int (Int8.ofInt n).toInt32 :: st)
  | .sipush n => some (.int (Int16.ofInt n).toInt32 :: st)
  | .lconst n => some (.long (Int64.ofNat (n : Nat)) :: st)
  | .aconst_null => some (.null :: st)
  | .iadd => mv_ii (fun x y => x + y) st
  | .isub => mv_ii (fun x y => x - y) st
  | .imul => mv_ii (fun x y => x * y) st
  | .iand => mv_ii (fun x y => x &&& y) st
  | .ior => mv_ii (fun x y => x ||| y) st
  | .ixor => mv_ii (fun x y => x ^^^ y) st
  | .ishl => mv_ii (fun x y => x <<< (y &&& 31)) st
  | .ishr => mv_ii (fun x y => x >>> (y &&& 31)) st
  | .iushr => mv_ii (fun x y => (x.toUInt32 >>> (y.toUInt32 &&& Int32.toUInt32 31)).toInt32) st
  | .ineg => mv_i1 (fun x => .int (-x)) st
  | .ladd => mv_ll (fun x y => .long (x + y)) st
  | .lsub => mv_ll (fun x y => .long (x - y)) st
  | .land => mv_ll (fun x y => .long (x &&& y)) st
  | .lor => mv_ll (fun x y => .long (x ||| y)) st
  | .lxor => mv_ll (fun x y => .long (x ^^^ y)) st
  | .lcmp => mv_ll (fun x y => .int (lg_cmp x y)) st
  | .lshl => mv_li (fun x y => x <<< (y.toInt64 &&& 63)) st
  | .lshr => mv_li (fun x y => x >>> (y.toInt64 &&& 63)) st
  | .lushr => mv_li (fun x y => (x.toUInt64 >>> (y.toInt64.toUInt64 &&& Int64.toUInt64 63)).toInt64) st
  | .i2l => mv_i1 (fun x => .long x.toInt64) st
  | .l2i => mv_l1 (fun x => .int x.toInt32) st
  | .i2b => mv_i1 (fun x => .int x.toInt8.toInt32) st
  | .dup => match st with
    | v :: r => bif mv_c1 v then some (v :: v :: r) else none
    | _ => none
  | .pop => match st with
    | v :: r => bif mv_c1 v then some r else none
    | _ => none
  | .dup_x1 => match st with
    | v :: w :: r => bif mv_c1 v && mv_c1 w then some (v :: w :: v :: r) else none
    | _ => none
  | .dup_x2 => match st with
    | v :: w :: x :: r => bif mv_c1 v && (mv_c1 w && mv_c1 x) then some (v :: w :: x :: v :: r) else none
    | _ => none
  | .dup2 => match st with
    | v :: w :: r => bif mv_c1 v && mv_c1 w then some (v :: w :: v :: w :: r) else none
    | _ => none
  | _ => none
/-- instructions on locals -/
def mv_ldi (lc : mv_L) (n : Nat) (st : List Value) : Option (mv_L × List Value) := match lc[n]? with
  | some (some (.int x)) => some (lc, .int x :: st)
  | _ => none
def mv_ldl (lc : mv_L) (n : Nat) (st : List Value) : Option (mv_L × List Value) := match lc[n]? with
  | some (some (.long x)) => some (lc, .long x :: st)
  | _ => none
def mv_lda (lc : mv_L) (n : Nat) (st : List Value) : Option (mv_L × List Value) := match lc[n]? with
  | some (some (.ref x)) => some (lc, .ref x :: st)
  | _ => none
/-- nothing of two slots stands right ahead of it -/
def mv_ok1 (lc : mv_L) (n : Nat) : Bool := match n with
  | 0 => true
  | k + 1 => match lc[k]? with
    | some (some v) => mv_c1 v
    | _ => true
def mv_sti (lc : mv_L) (n : Nat) (st : List Value) : Option (mv_L × List Value) := match st with
  | .int x :: r => bif mv_ok1 lc n && Nat.blt n lc.length then some (lc.set n (some (.int x)), r) else none
  | _ => none
def mv_stl (lc : mv_L) (n : Nat) (st : List Value) : Option (mv_L × List Value) := match st with
  | .long x :: r => bif mv_ok1 lc n && Nat.blt (n + 1) lc.length then some ((lc.set n (some (.long x))).set (n + 1) none, r) else none
  | _ => none
def mv_sta (lc : mv_L) (n : Nat) (st : List Value) : Option (mv_L × List Value) := match st with
  | .ref x :: r => bif mv_ok1 lc n && Nat.blt n lc.length then some (lc.set n (some (.ref x)), r) else none
  | _ => none
def mv_inc (lc : mv_L) (n : Nat) (z : Int) (st : List Value) : Option (mv_L × List Value) := match lc[n]? with
  | some (some (.int x)) => bif mv_ok1 lc n && Nat.blt n lc.length then some (lc.set n (some (.int (x + Int32.ofInt z))), st) else none
  | _ => none
def mv_loc (i : ClassFile.Instr) (lc : mv_L) (st : List Value) : Option (mv_L × List Value) := match i with
  | .iload n => mv_ldi lc n st
  | .iload_n k => mv_ldi lc k.val st
  | .lload n => mv_ldl lc n st
  | .lload_n k => mv_ldl lc k.val st
  | .aload n => mv_lda lc n st
  | .aload_n k => mv_lda lc k.val st
  | .istore n => mv_sti lc n st
  | .istore_n k => mv_sti lc k.val st
  | .lstore n => mv_stl lc n st
  | .lstore_n k => mv_stl lc k.val st
  | .astore n => mv_sta lc n st
  | .astore_n k => mv_sta lc k.val st
  | .iinc n z => mv_inc lc n z st
  | _ => none
/-- a field's value by its kind: 3 a long, 4 a reference, else an int -/
def mv_fval (c : Nat) (S : mv_S) (k j : Nat) : Value := bif Nat.beq c 3 then .long (S.2.2.1 k j) else bif Nat.beq c 4 then (match S.2.2.2 k j with
  | none => .null
  | some q => .ref q) else .int (S.2.1 k j)
def mv_put (c : Nat) (v : Value) (S : mv_S) (k j : Nat) : Option mv_S := match c, v with
  | 0, .int x => some (S.1, mv_up S.2.1 k j x, S.2.2.1, S.2.2.2)
  | 1, .int x => bif x == 0 || x == 1 then some (S.1, mv_up S.2.1 k j x, S.2.2.1, S.2.2.2) else none
  | 3, .long x => some (S.1, S.2.1, mv_up S.2.2.1 k j x, S.2.2.2)
  | 4, .ref q => some (S.1, S.2.1, S.2.2.1, mv_up S.2.2.2 k j (some q))
  | _, _ => none
def mv_new (S : mv_S) (sh : mv_Sh) : mv_S := (S.1 ++ [sh], mv_clr S.2.1 S.1.length 0, mv_clr S.2.2.1 S.1.length 0, mv_clr S.2.2.2 S.1.length none)
def mv_ty (t : Nat) : FieldType := match t with
  | 1 => .boolean
  | 2 => .byte
  | 3 => .long
  | _ => .int
/-- the numbers a b c of a row: of a field its class, its place, its kind; of new the class and how many fields; of newarray c the type; of a constant a the number; of getstatic a the table; of a call a the method, b how many arguments, c the kind of call -/
def mv_heap (sta : Nat → List Int32) (mc ms : Nat) (i : ClassFile.Instr) (a b c : Nat) (st : List Value) (vc vs : Nat) (S : mv_S) : Option (List Value × Nat × Nat × mv_S) := match i with
  | .getfield _ => match st with
    | .ref k :: r => match S.1[k]? with
      | some (.inr ci) => bif Nat.beq ci a then some (mv_fval c S k b :: r, vc, vs, S) else none
      | _ => none
    | _ => none
  | .putfield _ => match st with
    | v :: .ref k :: r => match S.1[k]? with
      | some (.inr ci) => bif Nat.beq ci a then (match mv_put c v S k b with
        | some S' => some (r, vc, vs, S')
        | none => none) else none
      | _ => none
    | _ => none
  | .arraylength => match st with
    | .ref k :: r => match S.1[k]? with
      | some (.inl (t, n)) => bif Nat.ble t 3 then some (.int (Int32.ofNat n) :: r, vc, vs, S) else none
      | some (.inr _) => none
      | none => bif Nat.ble 100000 k && Nat.ble 1 (sta (k - 100000)).length then some (.int (Int32.ofNat (sta (k - 100000)).length) :: r, vc, vs, S) else none
    | _ => none
  | .new _ => bif Nat.ble (vc + 1) mc && (Nat.ble (vs + b) ms && Nat.blt S.1.length 100000) then some (.ref S.1.length :: st, vc + 1, vs + b, mv_new S (.inr a)) else none
  | .newarray _ => match st with
    | .int x :: r => bif Nat.ble (vc + 1) mc && (Nat.ble (vs + x.toNatClampNeg) ms && (Nat.blt S.1.length 100000 && (Nat.ble x.toNatClampNeg 1000000 && decide (¬ x < 0)))) then some (.ref S.1.length :: r, vc + 1, vs + x.toNatClampNeg, mv_new S (.inl (c, x.toNatClampNeg))) else none
    | _ => none
  | .ldc _ => some (.int (Int32.ofNat a) :: st, vc, vs, S)
  | .ldc_w _ => some (.int (Int32.ofNat a) :: st, vc, vs, S)
  | .ldc2_w _ => some (.long (Int64.ofNat a) :: st, vc, vs, S)
  | .getstatic _ => some (.ref (100000 + a) :: st, vc, vs, S)
  | .invokespecial _ => match c with
    | 3 => match st with
      | .ref _ :: r => bif Nat.ble ((r.map fun v => v.category).sum) 8 then some (r, vc, vs, S) else none
      | _ => none
    | _ => none
  | .invokestatic _ => match c, st with
    | 4, .int y :: .int x :: r => bif Nat.ble ((r.map fun v => v.category).sum) 8 then some (.int (if x < y then y else x) :: r, vc, vs, S) else none
    | 5, .int y :: .int x :: r => bif Nat.ble ((r.map fun v => v.category).sum) 8 then some (.int (if y < x then y else x) :: r, vc, vs, S) else none
    | _, _ => none
  | _ => none
/-- one step, where it is a function -/
def mv_one (sta : Nat → List Int32) (M : mv_Me) (F : mv_F) : Option mv_F := match F with
  | (pc, lc, st, vc, vs, S) => match mv_at (mv_tb M) pc with
    | none => none
    | some (i, _, a, b, c, _) => match mv_pure i st with
      | some st' => some (pc + mv_len i, lc, st', vc, vs, S)
      | none => match mv_loc i lc st with
        | some (lc', st') => some (pc + mv_len i, lc', st', vc, vs, S)
        | none => match mv_heap sta (mv_mc M) (mv_ms M) i a b c st vc vs S with
          | some (st', vc', vs', S') => some (pc + mv_len i, lc, st', vc', vs', S')
          | none => match i with
            | .goto off => match (pc : Int) + off with
              | .ofNat t => some (t, lc, st, vc, vs, S)
              | .negSucc _ => none
            | _ => none
def mv_run (sta : Nat → List Int32) (M : mv_Me) : Nat → mv_F → Option mv_F
  | 0, F => some F
  | n + 1, F => match mv_one sta M F with
    | none => none
    | some F' => mv_run sta M n F'
/-- branches: what is asked, how far, what stays on the stack -/
def mv_cond (i : ClassFile.Instr) (st : List Value) : Option (Prop × Int × List Value) := match i with
  | .ifCond cd off => match st with
    | .int x :: r => match cd with
      | .eq => some (x = 0, off, r)
      | .ne => some (¬ x = 0, off, r)
      | .lt => some (x < 0, off, r)
      | .ge => some (0 ≤ x, off, r)
      | .gt => some (0 < x, off, r)
      | .le => some (x ≤ 0, off, r)
    | _ => none
  | .if_icmp cd off => match st with
    | .int y :: .int x :: r => match cd with
      | .eq => some (x = y, off, r)
      | .ne => some (¬ x = y, off, r)
      | .lt => some (x < y, off, r)
      | .ge => some (y ≤ x, off, r)
      | .gt => some (y < x, off, r)
      | .le => some (x ≤ y, off, r)
    | _ => none
  | _ => none
/-- how far a switch goes -/
def mv_sw (i : ClassFile.Instr) (x : Int32) : Option Int := match i with
  | .lookupswitch d ps => bif (ps.toList.zip (ps.toList.drop 1)).all (fun q => decide (q.1.1 < q.2.1)) then some (Op.lookupswitch.offset ps.toList d x.toInt) else none
  | .tableswitch d lo hi offs => if x.toInt < lo ∨ hi < x.toInt then some d else offs[(x.toInt - lo).toNat]?
  | _ => none
/-- an array is read: its length, the value -/
def mv_ald (sta : Nat → List Int32) (i : ClassFile.Instr) (S : mv_S) (k : Nat) (x : Int32) : Option (Nat × Value) := match S.1[k]? with
  | some (.inl (t, n)) => match i, t with
    | .iaload, 0 => some (n, .int (S.2.1 k x.toNatClampNeg))
    | .baload, 1 => some (n, .int (S.2.1 k x.toNatClampNeg))
    | .baload, 2 => some (n, .int (S.2.1 k x.toNatClampNeg))
    | .laload, 3 => some (n, .long (S.2.2.1 k x.toNatClampNeg))
    | _, _ => none
  | some (.inr _) => none
  | none => match i with
    | .iaload => bif Nat.ble 100000 k then some ((sta (k - 100000)).length, .int ((sta (k - 100000)).getD x.toNatClampNeg 0)) else none
    | _ => none
/-- an array is written: its length, the store -/
def mv_ast (i : ClassFile.Instr) (S : mv_S) (k : Nat) (x : Int32) (v : Value) : Option (Nat × mv_S) := match S.1[k]? with
  | some (.inl (t, n)) => match i, t, v with
    | .iastore, 0, .int y => some (n, (S.1, mv_up S.2.1 k x.toNatClampNeg y, S.2.2.1, S.2.2.2))
    | .bastore, 1, .int y => some (n, (S.1, mv_up S.2.1 k x.toNatClampNeg (y &&& 1), S.2.2.1, S.2.2.2))
    | .bastore, 2, .int y => some (n, (S.1, mv_up S.2.1 k x.toNatClampNeg y.toInt8.toInt32, S.2.2.1, S.2.2.2))
    | .lastore, 3, .long y => some (n, (S.1, S.2.1, mv_up S.2.2.1 k x.toNatClampNeg y, S.2.2.2))
    | _, _, _ => none
  | _ => none
/-- an answer: what, and what it must keep to -/
def mv_ret (ret : Option FieldType) (i : ClassFile.Instr) (st : List Value) : Option (Option Value × Prop) := match ret, i, st with
  | none, .return_, [] => some (none, True)
  | some .int, .ireturn, [.int v] => some (some (.int v), True)
  | some .boolean, .ireturn, [.int v] => some (some (.int v), v = 0 ∨ v = 1)
  | some .long, .lreturn, [.long v] => some (some (.long v), True)
  | _, _, _ => none
/-- divisions -/
def mv_div (i : ClassFile.Instr) (x y : Int32) : Option Int32 := match i with
  | .idiv => some (x / y)
  | .irem => some (x - x / y * y)
  | _ => none
/-- is it a call of the kind c (0 virtual, on an object of class number d; 1 static; 2 a constructor) with these arguments -/
def mv_isCall (i : ClassFile.Instr) (c d : Nat) (S : mv_S) (as : List Value) : Bool := match i, c with
  | .invokevirtual _, 0 => match as with
    | .ref k :: _ => match S.1[k]? with
      | some (.inr ci) => Nat.beq ci d
      | _ => false
    | _ => false
  | .invokestatic _, 1 => true
  | .invokespecial _, 2 => match as with
    | .ref _ :: _ => true
    | _ => false
  | _, _ => false
/-- fewer locals are known -/
def mv_le : mv_L → mv_L → Prop
  | [], [] => True
  | none :: a, _ :: b => mv_le a b
  | some v :: a, w :: b => w = some v ∧ mv_le a b
  | _, _ => False
/-- what comes next is enough -/
def mv_Rule (prog : List mv_Me) (sta : Nat → List Int32) (cal : Nat → List Value → mv_S → (Option Value → mv_S → Prop) → Prop) (M : mv_Me) (Q : Option Value → mv_S → Prop) (P : mv_F → Prop) (F : mv_F) : Prop :=
  (∃ F', mv_one sta M F = some F' ∧ P F') ∨ (∃ lc' : mv_L, mv_le lc' F.2.1 ∧ P (F.1, lc', F.2.2)) ∨
  ∃ (pc : Nat) (lc : mv_L) (st : List Value) (vc vs : Nat) (S : mv_S) (i : ClassFile.Instr) (n a b c d : Nat), F = (pc, lc, st, vc, vs, S) ∧ mv_at (mv_tb M) pc = some (i, n, a, b, c, d) ∧
    ((∃ (cn : Prop) (off : Int) (r : List Value) (tgt : Nat), mv_cond i st = some (cn, off, r) ∧ (pc : Int) + off = (tgt : Int) ∧ (cn → P (tgt, lc, r, vc, vs, S)) ∧ (¬ cn → P (pc + 3, lc, r, vc, vs, S))) ∨
     (∃ (x : Int32) (r : List Value) (off : Int) (tgt : Nat), st = .int x :: r ∧ mv_sw i x = some off ∧ (pc : Int) + off = (tgt : Int) ∧ P (tgt, lc, r, vc, vs, S)) ∨
     (∃ (x : Int32) (k : Nat) (r : List Value) (N : Nat) (v : Value), st = .int x :: .ref k :: r ∧ mv_ald sta i S k x = some (N, v) ∧ vp_in x N ∧ P (pc + 1, lc, v :: r, vc, vs, S)) ∨
     (∃ (v : Value) (x : Int32) (k : Nat) (r : List Value) (N : Nat) (S' : mv_S), st = v :: .int x :: .ref k :: r ∧ mv_ast i S k x v = some (N, S') ∧ vp_in x N ∧ P (pc + 1, lc, r, vc, vs, S')) ∨
     (∃ (Mj : mv_Me) (as r : List Value) (Q' : Option Value → mv_S → Prop), prog[a]? = some Mj ∧ st = as.reverse ++ r ∧ as.length = b ∧ mv_isCall i c d S as = true ∧ (r.map fun v => v.category).sum ≤ 8 ∧ vc + (mv_mc Mj) ≤ (mv_mc M) ∧ vs + (mv_ms Mj) ≤ (mv_ms M) ∧ cal a as S Q' ∧ ∀ (v : Option Value) (S' : mv_S), Q' v S' → P (pc + 3, lc, v.toList ++ r, vc + (mv_mc Mj), vs + (mv_ms Mj), S')) ∨
     (∃ (v : Option Value) (ok : Prop), mv_ret (mv_rt M) i st = some (v, ok) ∧ vc = (mv_mc M) ∧ vs ≤ (mv_ms M) ∧ ok ∧ Q v S) ∨
     (∃ (x y : Int32) (r : List Value) (v : Int32), st = .int y :: .int x :: r ∧ ¬ y = 0 ∧ mv_div i x y = some v ∧ P (pc + 1, lc, .int v :: r, vc, vs, S)))
/-- from this frame the method comes to an answer with Q -/
def mv_G (prog : List mv_Me) (sta : Nat → List Int32) (cal : Nat → List Value → mv_S → (Option Value → mv_S → Prop) → Prop) (M : mv_Me) (Q : Option Value → mv_S → Prop) (F : mv_F) : Prop :=
  ∀ P : mv_F → Prop, (∀ F, mv_Rule prog sta cal M Q P F → P F) → P F
/-- the locals at a method's entry -/
def mv_ent (n : Nat) (as : List Value) : mv_L := match as with
  | [] => List.replicate n none
  | v :: r => bif mv_c1 v then some v :: mv_ent (n - 1) r else some v :: none :: mv_ent (n - 2) r
/-- method i, called with these arguments in this store, with at most d frames, ends with Q -/
def mv_C (prog : List mv_Me) (sta : Nat → List Int32) : Nat → Nat → List Value → mv_S → (Option Value → mv_S → Prop) → Prop
  | 0 => fun _ _ _ _ => False
  | d + 1 => fun i as S Q => ∃ M, prog[i]? = some M ∧ (mv_ent (mv_ml M) as).length = (mv_ml M) ∧ mv_G prog sta (mv_C prog sta d) M Q (0, mv_ent (mv_ml M) as, [], 0, 0, S)
end
section
section MVR
variable {prog : List mv_Me} {sta : Nat → List Int32} {cal : Nat → List Value → mv_S → (Option Value → mv_S → Prop) → Prop} {M : mv_Me} {Q : Option Value → mv_S → Prop}
theorem mv_Rule_mono {P P' : mv_F → Prop} (hp : ∀ F, P F → P' F) {F : mv_F} (h : mv_Rule prog sta cal M Q P F) : mv_Rule prog sta cal M Q P' F := by
  rcases h with ⟨F', h1, h2⟩ | ⟨lc', h1, h2⟩ | ⟨pc, lc, st, vc, vs, S, i, n, a, b, c, d, e, h0, h⟩
  · exact Or.inl ⟨F', h1, hp _ h2⟩
  · exact Or.inr (Or.inl ⟨lc', h1, hp _ h2⟩)
  · refine Or.inr (Or.inr ⟨pc, lc, st, vc, vs, S, i, n, a, b, c, d, e, h0, ?_⟩)
    rcases h with ⟨cn, off, r, tgt, h1, h2, h3, h4⟩ | ⟨x, r, off, tgt, h1, h2, h3, h4⟩ | ⟨x, k, r, N, v, h1, h2, h3, h4⟩ | ⟨v, x, k, r, N, S', h1, h2, h3, h4⟩ | ⟨Mj, as, r, Q', h1, h2, h3, h4, h5, h6, h7, h8, h9⟩ | h | ⟨x, y, r, v, h1, h2, h3, h4⟩
    · exact Or.inl ⟨cn, off, r, tgt, h1, h2, fun z => hp _ (h3 z), fun z => hp _ (h4 z)⟩
    · exact Or.inr (Or.inl ⟨x, r, off, tgt, h1, h2, h3, hp _ h4⟩)
    · exact Or.inr (Or.inr (Or.inl ⟨x, k, r, N, v, h1, h2, h3, hp _ h4⟩))
    · exact Or.inr (Or.inr (Or.inr (Or.inl ⟨v, x, k, r, N, S', h1, h2, h3, hp _ h4⟩)))
    · exact Or.inr (Or.inr (Or.inr (Or.inr (Or.inl ⟨Mj, as, r, Q', h1, h2, h3, h4, h5, h6, h7, h8, fun v S' z => hp _ (h9 v S' z)⟩))))
    · exact Or.inr (Or.inr (Or.inr (Or.inr (Or.inr (Or.inl h)))))
    · exact Or.inr (Or.inr (Or.inr (Or.inr (Or.inr (Or.inr ⟨x, y, r, v, h1, h2, h3, hp _ h4⟩)))))
theorem mv_G_rule {F : mv_F} (h : mv_Rule prog sta cal M Q (mv_G prog sta cal M Q) F) : mv_G prog sta cal M Q F := fun P hP => hP F (mv_Rule_mono (fun _ k => k P hP) h)
/-- n steps that are functions -/
theorem mv_G_run (n : Nat) {F F' : mv_F} (h : mv_run sta M n F = some F') (k : mv_G prog sta cal M Q F') : mv_G prog sta cal M Q F := by
  induction n generalizing F with
  | zero =>
    have e : F = F' := Option.some.inj h
    rw [e]
    exact k
  | succ n ih =>
    unfold mv_run at h
    cases h1 : mv_one sta M F with
    | none => rw [h1] at h; cases h
    | some F1 =>
      rw [h1] at h
      exact mv_G_rule (Or.inl ⟨F1, h1, ih h⟩)
/-- fewer locals -/
theorem mv_G_fg {pc : Nat} {lc lc' : mv_L} {R : List Value × Nat × Nat × mv_S} (h : mv_le lc' lc) (k : mv_G prog sta cal M Q (pc, lc', R)) : mv_G prog sta cal M Q (pc, lc, R) := mv_G_rule (Or.inr (Or.inl ⟨lc', h, k⟩))
variable {pc : Nat} {lc : mv_L} {st r : List Value} {vc vs : Nat} {S : mv_S} {i : ClassFile.Instr} {n a b c d : Nat}
theorem mv_G_br {cn : Prop} {off : Int} {tgt : Nat} (h0 : mv_at (mv_tb M) pc = some (i, n, a, b, c, d)) (h1 : mv_cond i st = some (cn, off, r)) (h2 : (pc : Int) + off = (tgt : Int)) (h3 : cn → mv_G prog sta cal M Q (tgt, lc, r, vc, vs, S)) (h4 : ¬ cn → mv_G prog sta cal M Q (pc + 3, lc, r, vc, vs, S)) : mv_G prog sta cal M Q (pc, lc, st, vc, vs, S) :=
  mv_G_rule (Or.inr (Or.inr ⟨pc, lc, st, vc, vs, S, i, n, a, b, c, d, rfl, h0, Or.inl ⟨cn, off, r, tgt, h1, h2, h3, h4⟩⟩))
theorem mv_G_sw {x : Int32} {off : Int} {tgt : Nat} (h0 : mv_at (mv_tb M) pc = some (i, n, a, b, c, d)) (h1 : mv_sw i x = some off) (h2 : (pc : Int) + off = (tgt : Int)) (h3 : mv_G prog sta cal M Q (tgt, lc, r, vc, vs, S)) : mv_G prog sta cal M Q (pc, lc, .int x :: r, vc, vs, S) :=
  mv_G_rule (Or.inr (Or.inr ⟨pc, lc, _, vc, vs, S, i, n, a, b, c, d, rfl, h0, Or.inr (Or.inl ⟨x, r, off, tgt, rfl, h1, h2, h3⟩)⟩))
theorem mv_G_ald {x : Int32} {k N : Nat} {v : Value} (h0 : mv_at (mv_tb M) pc = some (i, n, a, b, c, d)) (h1 : mv_ald sta i S k x = some (N, v)) (h2 : vp_in x N) (h3 : mv_G prog sta cal M Q (pc + 1, lc, v :: r, vc, vs, S)) : mv_G prog sta cal M Q (pc, lc, .int x :: .ref k :: r, vc, vs, S) :=
  mv_G_rule (Or.inr (Or.inr ⟨pc, lc, _, vc, vs, S, i, n, a, b, c, d, rfl, h0, Or.inr (Or.inr (Or.inl ⟨x, k, r, N, v, rfl, h1, h2, h3⟩))⟩))
theorem mv_G_ast {x : Int32} {k N : Nat} {v : Value} {S' : mv_S} (h0 : mv_at (mv_tb M) pc = some (i, n, a, b, c, d)) (h1 : mv_ast i S k x v = some (N, S')) (h2 : vp_in x N) (h3 : mv_G prog sta cal M Q (pc + 1, lc, r, vc, vs, S')) : mv_G prog sta cal M Q (pc, lc, v :: .int x :: .ref k :: r, vc, vs, S) :=
  mv_G_rule (Or.inr (Or.inr ⟨pc, lc, _, vc, vs, S, i, n, a, b, c, d, rfl, h0, Or.inr (Or.inr (Or.inr (Or.inl ⟨v, x, k, r, N, S', rfl, h1, h2, h3⟩)))⟩))
theorem mv_G_call {Mj : mv_Me} {as : List Value} {Q' : Option Value → mv_S → Prop} (hc : cal a as S Q') (h0 : mv_at (mv_tb M) pc = some (i, n, a, b, c, d)) (h1 : prog[a]? = some Mj) (h2 : st = as.reverse ++ r) (h3 : as.length = b) (h4 : mv_isCall i c d S as = true) (h5 : (r.map fun v => v.category).sum ≤ 8) (h6 : vc + (mv_mc Mj) ≤ (mv_mc M)) (h7 : vs + (mv_ms Mj) ≤ (mv_ms M))
    (h9 : ∀ (v : Option Value) (S' : mv_S), Q' v S' → mv_G prog sta cal M Q (pc + 3, lc, v.toList ++ r, vc + (mv_mc Mj), vs + (mv_ms Mj), S')) : mv_G prog sta cal M Q (pc, lc, st, vc, vs, S) :=
  mv_G_rule (Or.inr (Or.inr ⟨pc, lc, st, vc, vs, S, i, n, a, b, c, d, rfl, h0, Or.inr (Or.inr (Or.inr (Or.inr (Or.inl ⟨Mj, as, r, Q', h1, h2, h3, h4, h5, h6, h7, hc, h9⟩))))⟩))
theorem mv_G_ret {v : Option Value} {ok : Prop} (h0 : mv_at (mv_tb M) pc = some (i, n, a, b, c, d)) (h1 : mv_ret (mv_rt M) i st = some (v, ok)) (h4 : vc = (mv_mc M)) (h5 : vs ≤ (mv_ms M)) (h2 : ok) (h3 : Q v S) : mv_G prog sta cal M Q (pc, lc, st, vc, vs, S) :=
  mv_G_rule (Or.inr (Or.inr ⟨pc, lc, st, vc, vs, S, i, n, a, b, c, d, rfl, h0, Or.inr (Or.inr (Or.inr (Or.inr (Or.inr (Or.inl ⟨v, ok, h1, h4, h5, h2, h3⟩)))))⟩))
theorem mv_G_div {x y v : Int32} (h0 : mv_at (mv_tb M) pc = some (i, n, a, b, c, d)) (h1 : mv_div i x y = some v) (h2 : ¬ y = 0) (h3 : mv_G prog sta cal M Q (pc + 1, lc, .int v :: r, vc, vs, S)) : mv_G prog sta cal M Q (pc, lc, .int y :: .int x :: r, vc, vs, S) :=
  mv_G_rule (Or.inr (Or.inr ⟨pc, lc, _, vc, vs, S, i, n, a, b, c, d, rfl, h0, Or.inr (Or.inr (Or.inr (Or.inr (Or.inr (Or.inr ⟨x, y, r, v, rfl, h2, h1, h3⟩)))))⟩))
theorem mv_G_mono {Q' : Option Value → mv_S → Prop} (hq : ∀ v S, Q v S → Q' v S) {F : mv_F} (h : mv_G prog sta cal M Q F) : mv_G prog sta cal M Q' F := by
  refine h _ (fun F k => mv_G_rule ?_)
  rcases k with h | h | ⟨pc, lc, st, vc, vs, S, i, n, a, b, c, d, e, h0, k⟩
  · exact Or.inl h
  · exact Or.inr (Or.inl h)
  · refine Or.inr (Or.inr ⟨pc, lc, st, vc, vs, S, i, n, a, b, c, d, e, h0, ?_⟩)
    rcases k with k | k | k | k | k | ⟨v, ok, k1, k4, k5, k2, k3⟩ | k
    · exact Or.inl k
    · exact Or.inr (Or.inl k)
    · exact Or.inr (Or.inr (Or.inl k))
    · exact Or.inr (Or.inr (Or.inr (Or.inl k)))
    · exact Or.inr (Or.inr (Or.inr (Or.inr (Or.inl k))))
    · exact Or.inr (Or.inr (Or.inr (Or.inr (Or.inr (Or.inl ⟨v, ok, k1, k4, k5, k2, hq _ _ k3⟩)))))
    · exact Or.inr (Or.inr (Or.inr (Or.inr (Or.inr (Or.inr k)))))
end MVR
theorem mv_C_mono {prog : List mv_Me} {sta : Nat → List Int32} {d i : Nat} {as : List Value} {S : mv_S} {Q Q' : Option Value → mv_S → Prop} (hq : ∀ v S, Q v S → Q' v S) (h : mv_C prog sta d i as S Q) : mv_C prog sta d i as S Q' := by
  cases d with
  | zero => exact h
  | succ d =>
    obtain ⟨M, h1, h2, h3⟩ := h
    exact ⟨M, h1, h2, mv_G_mono hq h3⟩
/-- more frames do no harm -/
theorem mv_C_up {prog : List mv_Me} {sta : Nat → List Int32} : ∀ (d i : Nat) (as : List Value) (S : mv_S) (Q : Option Value → mv_S → Prop), mv_C prog sta d i as S Q → mv_C prog sta (d + 1) i as S Q
  | 0, _, _, _, _, h => h.elim
  | d + 1, i, as, S, Q, h => by
    obtain ⟨M, h1, h2, h3⟩ := h
    refine ⟨M, h1, h2, h3 _ (fun F k => mv_G_rule ?_)⟩
    rcases k with h | h | ⟨pc, lc, st, vc, vs, S, i, n, a, b, c, d, e, h0, k⟩
    · exact Or.inl h
    · exact Or.inr (Or.inl h)
    · refine Or.inr (Or.inr ⟨pc, lc, st, vc, vs, S, i, n, a, b, c, d, e, h0, ?_⟩)
      rcases k with k | k | k | k | ⟨Mj, as, r, Q', k1, k2, k3, k4, k5, k6, k7, k8, k9⟩ | k
      · exact Or.inl k
      · exact Or.inr (Or.inl k)
      · exact Or.inr (Or.inr (Or.inl k))
      · exact Or.inr (Or.inr (Or.inr (Or.inl k)))
      · exact Or.inr (Or.inr (Or.inr (Or.inr (Or.inl ⟨Mj, as, r, Q', k1, k2, k3, k4, k5, k6, k7, mv_C_up _ _ _ _ _ k8, k9⟩))))
      · exact Or.inr (Or.inr (Or.inr (Or.inr (Or.inr k))))
end
section
/-! The small machine's values and locals over the great one's; the instructions that touch no cell. -/
def mv_tr (ad : Nat → Nat) (v : Value) : Value := match v with
  | .ref k => .ref (ad k)
  | v => v
theorem mv_tr_cat (ad : Nat → Nat) (v : Value) : (mv_tr ad v).category = v.category := by cases v <;> rfl
theorem mv_c1_cat {v : Value} (h : mv_c1 v = true) : v.category = 1 := Nat.eq_of_beq_eq_true h
theorem mv_tr_c1 (ad : Nat → Nat) {v : Value} (h : mv_c1 v = true) : (mv_tr ad v).category = 1 := (mv_tr_cat ad v).trans (mv_c1_cat h)
theorem mv_tr_sum (ad : Nat → Nat) (r : List Value) : ((r.map (mv_tr ad)).map fun v => v.category).sum = (r.map fun v => v.category).sum := by
  rw [List.map_map]
  congr 1
  exact List.map_congr_left (fun v _ => mv_tr_cat ad v)
theorem mv_ii_inv {f : Int32 → Int32 → Int32} {st st' : List Value} (h : mv_ii f st = some st') : ∃ (x y : Int32) (r : List Value), st = .int y :: .int x :: r ∧ st' = .int (f x y) :: r := by
  unfold mv_ii at h
  split at h
  · exact ⟨_, _, _, rfl, (Option.some.inj h).symm⟩
  · cases h
theorem mv_i1_inv {f : Int32 → Value} {st st' : List Value} (h : mv_i1 f st = some st') : ∃ (x : Int32) (r : List Value), st = .int x :: r ∧ st' = f x :: r := by
  unfold mv_i1 at h
  split at h
  · exact ⟨_, _, rfl, (Option.some.inj h).symm⟩
  · cases h
theorem mv_ll_inv {f : Int64 → Int64 → Value} {st st' : List Value} (h : mv_ll f st = some st') : ∃ (x y : Int64) (r : List Value), st = .long y :: .long x :: r ∧ st' = f x y :: r := by
  unfold mv_ll at h
  split at h
  · exact ⟨_, _, _, rfl, (Option.some.inj h).symm⟩
  · cases h
theorem mv_li_inv {f : Int64 → Int32 → Int64} {st st' : List Value} (h : mv_li f st = some st') : ∃ (x : Int64) (y : Int32) (r : List Value), st = .int y :: .long x :: r ∧ st' = .long (f x y) :: r := by
  unfold mv_li at h
  split at h
  · exact ⟨_, _, _, rfl, (Option.some.inj h).symm⟩
  · cases h
theorem mv_l1_inv {f : Int64 → Value} {st st' : List Value} (h : mv_l1 f st = some st') : ∃ (x : Int64) (r : List Value), st = .long x :: r ∧ st' = f x :: r := by
  unfold mv_l1 at h
  split at h
  · exact ⟨_, _, rfl, (Option.some.inj h).symm⟩
  · cases h
theorem mv_bif {α : Type} {b : Bool} {x y : α} (h : (bif b then some x else none) = some y) : b = true ∧ x = y := by
  cases b with
  | true => exact ⟨rfl, Option.some.inj h⟩
  | false => cases h
section MVP
variable {p : Program} {l : Launch} {e : Env} {R : Room} {s : State} {m : MethodId} {args : Array Value} {below : List Frame} {meth : Method} {cod : Code} {H : Heap} {locs : List Loc} {cells slots : Nat} {Qz : State → Prop}
variable {cc : ByteArray} {pc : Nat} {ls : Array Slot} {ad : Nat → Nat}
set_option maxHeartbeats 4000000 in
theorem mv_pure_ok (hx : p.tables.exec = Jvm.exec) (hb : cod.code = cc) {i : ClassFile.Instr} {st st' : List Value} (hd : decode cc pc = .ok (i, mv_len i)) (h : mv_pure i st = some st')
    (k : W p l e R s m args below meth cod H locs cells slots Qz (F0 m (pc + mv_len i) ls (st'.map (mv_tr ad)))) : W p l e R s m args below meth cod H locs cells slots Qz (F0 m pc ls (st.map (mv_tr ad))) := by
  cases i
  case iconst n => obtain rfl := Option.some.inj h; exact lv_iconst hx hb hd rfl k
  case bipush n => obtain rfl := Option.some.inj h; exact lv_bipush hx hb hd rfl k
  case sipush n => obtain rfl := Option.some.inj h; exact lv_sipush hx hb hd rfl k
  case lconst n => obtain rfl := Option.some.inj h; exact lv_lconst hx hb hd rfl k
  case aconst_null => obtain rfl := Option.some.inj h; exact lv_null hx hb hd k
  case iadd => obtain ⟨x, y, r, rfl, rfl⟩ := mv_ii_inv h; exact lv_iadd hx hb hd k
  case isub => obtain ⟨x, y, r, rfl, rfl⟩ := mv_ii_inv h; exact lv_isub hx hb hd k
  case imul => obtain ⟨x, y, r, rfl, rfl⟩ := mv_ii_inv h; exact lv_imul hx hb hd k
  case iand => obtain ⟨x, y, r, rfl, rfl⟩ := mv_ii_inv h; exact lv_iand hx hb hd k
  case ior => obtain ⟨x, y, r, rfl, rfl⟩ := mv_ii_inv h; exact lv_ior hx hb hd k
  case ixor => obtain ⟨x, y, r, rfl, rfl⟩ := mv_ii_inv h; exact lv_ixor hx hb hd k
  case ishl => obtain ⟨x, y, r, rfl, rfl⟩ := mv_ii_inv h; exact lv_ishl hx hb hd k
  case ishr => obtain ⟨x, y, r, rfl, rfl⟩ := mv_ii_inv h; exact lv_ishr hx hb hd k
  case iushr => obtain ⟨x, y, r, rfl, rfl⟩ := mv_ii_inv h; exact lv_iushr hx hb hd rfl k
  case ineg => obtain ⟨x, r, rfl, rfl⟩ := mv_i1_inv h; exact lv_ineg hx hb hd k
  case ladd => obtain ⟨x, y, r, rfl, rfl⟩ := mv_ll_inv h; exact lv_ladd hx hb hd k
  case lsub => obtain ⟨x, y, r, rfl, rfl⟩ := mv_ll_inv h; exact lv_lsub hx hb hd k
  case land => obtain ⟨x, y, r, rfl, rfl⟩ := mv_ll_inv h; exact lv_land hx hb hd k
  case lor => obtain ⟨x, y, r, rfl, rfl⟩ := mv_ll_inv h; exact lv_lor hx hb hd k
  case lxor => obtain ⟨x, y, r, rfl, rfl⟩ := mv_ll_inv h; exact lv_lxor hx hb hd k
  case lcmp => obtain ⟨x, y, r, rfl, rfl⟩ := mv_ll_inv h; exact W.lcmp hx hb hd k
  case lshl => obtain ⟨x, y, r, rfl, rfl⟩ := mv_li_inv h; exact lv_lshl hx hb hd rfl k
  case lshr => obtain ⟨x, y, r, rfl, rfl⟩ := mv_li_inv h; exact lv_lshr hx hb hd rfl k
  case lushr => obtain ⟨x, y, r, rfl, rfl⟩ := mv_li_inv h; exact lv_lushr hx hb hd rfl k
  case i2l => obtain ⟨x, r, rfl, rfl⟩ := mv_i1_inv h; exact lv_i2l hx hb hd rfl k
  case l2i => obtain ⟨x, r, rfl, rfl⟩ := mv_l1_inv h; exact lv_l2i hx hb hd rfl k
  case i2b => obtain ⟨x, r, rfl, rfl⟩ := mv_i1_inv h; exact lv_i2b hx hb hd rfl k
  case dup =>
    rcases st with _ | ⟨v, r⟩
    · exact absurd h (by simp [mv_pure])
    · obtain ⟨h1, rfl⟩ := mv_bif h
      exact lv_dup hx hb hd (mv_tr_c1 ad h1) k
  case pop =>
    rcases st with _ | ⟨v, r⟩
    · exact absurd h (by simp [mv_pure])
    · obtain ⟨h1, rfl⟩ := mv_bif h
      exact lv_pop hx hb hd (mv_tr_c1 ad h1) k
  case dup_x1 =>
    rcases st with _ | ⟨v, _ | ⟨w, r⟩⟩
    · exact absurd h (by simp [mv_pure])
    · exact absurd h (by simp [mv_pure])
    · obtain ⟨h1, rfl⟩ := mv_bif h
      rw [Bool.and_eq_true] at h1
      exact lv_dup_x1 hx hb hd (mv_tr_c1 ad h1.1) (mv_tr_c1 ad h1.2) k
  case dup_x2 =>
    rcases st with _ | ⟨v, _ | ⟨w, _ | ⟨x, r⟩⟩⟩
    · exact absurd h (by simp [mv_pure])
    · exact absurd h (by simp [mv_pure])
    · exact absurd h (by simp [mv_pure])
    · obtain ⟨h1, rfl⟩ := mv_bif h
      rw [Bool.and_eq_true, Bool.and_eq_true] at h1
      exact lv_dup_x2 hx hb hd (mv_tr_c1 ad h1.1) (mv_tr_c1 ad h1.2.1) (mv_tr_c1 ad h1.2.2) k
  case dup2 =>
    rcases st with _ | ⟨v, _ | ⟨w, r⟩⟩
    · exact absurd h (by simp [mv_pure])
    · exact absurd h (by simp [mv_pure])
    · obtain ⟨h1, rfl⟩ := mv_bif h
      rw [Bool.and_eq_true] at h1
      exact lv_dup2_11 hx hb hd (mv_tr_c1 ad h1.1) (mv_tr_c1 ad h1.2) k
  all_goals (exact absurd h (by simp [mv_pure]))
/-- locals: those that the small machine knows are held -/
def mv_Lc (ad : Nat → Nat) (ls : Array Slot) (nL : Nat) (lc : mv_L) : Prop := lv_has ls nL [] ∧ lc.length = nL ∧ ∀ (j : Nat) (v : Value), lc[j]? = some (some v) → ls[j]? = some (.val (mv_tr ad v))
def mv_lst (ad : Nat → Nat) (lc : mv_L) : List (Nat × Value) := (List.range lc.length).filterMap (fun j => match lc[j]? with
  | some (some v) => some (j, mv_tr ad v)
  | _ => none)
theorem mv_lst_in {ad : Nat → Nat} {lc : mv_L} {j : Nat} {v : Value} (h : lc[j]? = some (some v)) : (j, mv_tr ad v) ∈ mv_lst ad lc := by
  refine List.mem_filterMap.mpr ⟨j, List.mem_range.mpr (List.getElem?_eq_some_iff.mp h).1, ?_⟩
  rw [h]
theorem mv_lst_of {ad : Nat → Nat} {lc : mv_L} {q : Nat × Value} (h : q ∈ mv_lst ad lc) : ∃ v, lc[q.1]? = some (some v) ∧ q.2 = mv_tr ad v := by
  obtain ⟨j, -, hj⟩ := List.mem_filterMap.mp h
  split at hj
  · rename_i v hv
    cases hj
    exact ⟨v, hv, rfl⟩
  · cases hj
theorem mv_Lc_has {nL : Nat} {lc : mv_L} (h : mv_Lc ad ls nL lc) : lv_has ls nL (mv_lst ad lc) := ⟨h.1.1, h.1.2.1, fun q hq => by
  obtain ⟨v, h1, h2⟩ := mv_lst_of hq
  rw [h2]
  exact h.2.2 _ _ h1⟩
theorem mv_ok1_of {lc : mv_L} {n j : Nat} {w : Value} (h : mv_ok1 lc n = true) (hj : lc[j]? = some (some w)) (e : j + 1 = n) : w.category = 1 := by
  subst e
  unfold mv_ok1 at h
  simp only [hj] at h
  exact mv_c1_cat h
theorem mv_Lc_st1 {nL n : Nat} {lc : mv_L} {v : Value} {ls' : Array Slot} (h : mv_Lc ad ls nL lc) (hok : mv_ok1 lc n = true) (h' : lv_has ls' nL ((n, mv_tr ad v) :: (mv_lst ad lc).filter (fun q => !(q.1 == n) && !(q.1 + 1 == n && q.2.category == 2)))) : mv_Lc ad ls' nL (lc.set n (some v)) := by
  refine ⟨⟨h'.1, h'.2.1, fun q hq => by cases hq⟩, by rw [List.length_set]; exact h.2.1, fun j w hj => ?_⟩
  by_cases e : n = j
  · subst e
    rw [List.getElem?_set] at hj
    rw [if_pos rfl] at hj
    split at hj
    · cases hj
      exact h'.2.2 _ List.mem_cons_self
    · cases hj
  · rw [List.getElem?_set_ne e] at hj
    refine h'.2.2 (j, mv_tr ad w) (List.mem_cons_of_mem _ (List.mem_filter.mpr ⟨mv_lst_in hj, ?_⟩))
    have h1 : (j == n) = false := by simp; exact fun q => e q.symm
    have h2 : (j + 1 == n && (mv_tr ad w).category == 2) = false := by
      by_cases e2 : j + 1 = n
      · rw [mv_tr_cat, mv_ok1_of hok hj e2]; simp
      · have : (j + 1 == n) = false := by simp; exact e2
        rw [this]; rfl
    simp only [h1, h2]; rfl
theorem mv_Lc_st2 {nL n : Nat} {lc : mv_L} {x : Int64} {ls' : Array Slot} (h : mv_Lc ad ls nL lc) (hok : mv_ok1 lc n = true) (h' : lv_has ls' nL ((n, Value.long x) :: (mv_lst ad lc).filter (fun q => !(q.1 == n) && (!(q.1 == n + 1) && !(q.1 + 1 == n && q.2.category == 2))))) : mv_Lc ad ls' nL ((lc.set n (some (.long x))).set (n + 1) none) := by
  refine ⟨⟨h'.1, h'.2.1, fun q hq => by cases hq⟩, by rw [List.length_set, List.length_set]; exact h.2.1, fun j w hj => ?_⟩
  by_cases e3 : n + 1 = j
  · subst e3
    rw [List.getElem?_set] at hj
    rw [if_pos rfl] at hj
    split at hj
    · cases hj
    · cases hj
  rw [List.getElem?_set_ne e3] at hj
  by_cases e : n = j
  · subst e
    rw [List.getElem?_set] at hj
    rw [if_pos rfl] at hj
    split at hj
    · cases hj
      exact h'.2.2 _ List.mem_cons_self
    · cases hj
  · rw [List.getElem?_set_ne e] at hj
    refine h'.2.2 (j, mv_tr ad w) (List.mem_cons_of_mem _ (List.mem_filter.mpr ⟨mv_lst_in hj, ?_⟩))
    have h1 : (j == n) = false := by simp; exact fun q => e q.symm
    have h3 : (j == n + 1) = false := by simp; exact fun q => e3 q.symm
    have h2 : (j + 1 == n && (mv_tr ad w).category == 2) = false := by
      by_cases e2 : j + 1 = n
      · rw [mv_tr_cat, mv_ok1_of hok hj e2]; simp
      · have : (j + 1 == n) = false := by simp; exact e2
        rw [this]; rfl
    simp only [h1, h2, h3]; rfl
theorem mv_sti_inv {lc lc' : mv_L} {n : Nat} {st st' : List Value} (h : mv_sti lc n st = some (lc', st')) : ∃ x, st = .int x :: st' ∧ lc' = lc.set n (some (.int x)) ∧ mv_ok1 lc n = true ∧ n < lc.length := by
  unfold mv_sti at h
  split at h
  · obtain ⟨h1, h2⟩ := mv_bif h
    rw [Bool.and_eq_true] at h1
    cases h2
    exact ⟨_, rfl, rfl, h1.1, Nat.le_of_ble_eq_true h1.2⟩
  · cases h
theorem mv_sta_inv {lc lc' : mv_L} {n : Nat} {st st' : List Value} (h : mv_sta lc n st = some (lc', st')) : ∃ x, st = .ref x :: st' ∧ lc' = lc.set n (some (.ref x)) ∧ mv_ok1 lc n = true ∧ n < lc.length := by
  unfold mv_sta at h
  split at h
  · obtain ⟨h1, h2⟩ := mv_bif h
    rw [Bool.and_eq_true] at h1
    cases h2
    exact ⟨_, rfl, rfl, h1.1, Nat.le_of_ble_eq_true h1.2⟩
  · cases h
theorem mv_stl_inv {lc lc' : mv_L} {n : Nat} {st st' : List Value} (h : mv_stl lc n st = some (lc', st')) : ∃ x, st = .long x :: st' ∧ lc' = (lc.set n (some (.long x))).set (n + 1) none ∧ mv_ok1 lc n = true ∧ n + 1 < lc.length := by
  unfold mv_stl at h
  split at h
  · obtain ⟨h1, h2⟩ := mv_bif h
    rw [Bool.and_eq_true] at h1
    cases h2
    exact ⟨_, rfl, rfl, h1.1, Nat.le_of_ble_eq_true h1.2⟩
  · cases h
theorem mv_inc_inv {lc lc' : mv_L} {n : Nat} {z : Int} {st st' : List Value} (h : mv_inc lc n z st = some (lc', st')) : ∃ x, lc[n]? = some (some (.int x)) ∧ st' = st ∧ lc' = lc.set n (some (.int (x + Int32.ofInt z))) ∧ mv_ok1 lc n = true ∧ n < lc.length := by
  unfold mv_inc at h
  split at h
  · rename_i x hx
    obtain ⟨h1, h2⟩ := mv_bif h
    rw [Bool.and_eq_true] at h1
    cases h2
    exact ⟨x, hx, rfl, rfl, h1.1, Nat.le_of_ble_eq_true h1.2⟩
  · cases h
theorem mv_ldi_inv {lc lc' : mv_L} {n : Nat} {st st' : List Value} (h : mv_ldi lc n st = some (lc', st')) : ∃ x, lc[n]? = some (some (.int x)) ∧ lc' = lc ∧ st' = .int x :: st := by
  unfold mv_ldi at h
  split at h
  · rename_i x hx
    cases h
    exact ⟨x, hx, rfl, rfl⟩
  · cases h
theorem mv_ldl_inv {lc lc' : mv_L} {n : Nat} {st st' : List Value} (h : mv_ldl lc n st = some (lc', st')) : ∃ x, lc[n]? = some (some (.long x)) ∧ lc' = lc ∧ st' = .long x :: st := by
  unfold mv_ldl at h
  split at h
  · rename_i x hx
    cases h
    exact ⟨x, hx, rfl, rfl⟩
  · cases h
theorem mv_lda_inv {lc lc' : mv_L} {n : Nat} {st st' : List Value} (h : mv_lda lc n st = some (lc', st')) : ∃ x, lc[n]? = some (some (.ref x)) ∧ lc' = lc ∧ st' = .ref x :: st := by
  unfold mv_lda at h
  split at h
  · rename_i x hx
    cases h
    exact ⟨x, hx, rfl, rfl⟩
  · cases h
set_option maxHeartbeats 4000000 in
theorem mv_loc_ok (hx : p.tables.exec = Jvm.exec) (hb : cod.code = cc) {i : ClassFile.Instr} {nL : Nat} {lc lc' : mv_L} {st st' : List Value} (hd : decode cc pc = .ok (i, mv_len i)) (h : mv_loc i lc st = some (lc', st')) (hl : mv_Lc ad ls nL lc)
    (k : ∀ ls', mv_Lc ad ls' nL lc' → W p l e R s m args below meth cod H locs cells slots Qz (F0 m (pc + mv_len i) ls' (st'.map (mv_tr ad)))) : W p l e R s m args below meth cod H locs cells slots Qz (F0 m pc ls (st.map (mv_tr ad))) := by
  have hh := mv_Lc_has hl
  cases i
  case iload n => obtain ⟨x, h1, rfl, rfl⟩ := mv_ldi_inv h; exact lv_iload hx hb hd (hl.2.2 _ _ h1) (k _ hl)
  case iload_n n => obtain ⟨x, h1, rfl, rfl⟩ := mv_ldi_inv h; exact lv_iload_n hx hb hd rfl (hl.2.2 _ _ h1) (k _ hl)
  case lload n => obtain ⟨x, h1, rfl, rfl⟩ := mv_ldl_inv h; exact lv_lload hx hb hd (hl.2.2 _ _ h1) (k _ hl)
  case lload_n n => obtain ⟨x, h1, rfl, rfl⟩ := mv_ldl_inv h; exact lv_lload_n hx hb hd rfl (hl.2.2 _ _ h1) (k _ hl)
  case aload n => obtain ⟨x, h1, rfl, rfl⟩ := mv_lda_inv h; exact lv_aload hx hb hd (hl.2.2 _ _ h1) (k _ hl)
  case aload_n n => obtain ⟨x, h1, rfl, rfl⟩ := mv_lda_inv h; exact lv_aload_n hx hb hd rfl (hl.2.2 _ _ h1) (k _ hl)
  case istore n => obtain ⟨x, rfl, rfl, h1, h2⟩ := mv_sti_inv h; exact lv_istore hx hb hd hh (by rw [← hl.2.1]; exact h2) rfl (fun ls' h' => k ls' (mv_Lc_st1 hl h1 h'))
  case istore_n n => obtain ⟨x, rfl, rfl, h1, h2⟩ := mv_sti_inv h; exact lv_istore_n hx hb hd rfl hh (by rw [← hl.2.1]; exact h2) rfl (fun ls' h' => k ls' (mv_Lc_st1 hl h1 h'))
  case lstore n => obtain ⟨x, rfl, rfl, h1, h2⟩ := mv_stl_inv h; exact lv_lstore hx hb hd hh (by rw [← hl.2.1]; exact h2) rfl (fun ls' h' => k ls' (mv_Lc_st2 hl h1 h'))
  case lstore_n n => obtain ⟨x, rfl, rfl, h1, h2⟩ := mv_stl_inv h; exact lv_lstore_n hx hb hd rfl hh (by rw [← hl.2.1]; exact h2) rfl (fun ls' h' => k ls' (mv_Lc_st2 hl h1 h'))
  case astore n => obtain ⟨x, rfl, rfl, h1, h2⟩ := mv_sta_inv h; exact lv_astore hx hb hd hh (by rw [← hl.2.1]; exact h2) rfl (fun ls' h' => k ls' (mv_Lc_st1 (v := .ref x) hl h1 h'))
  case astore_n n => obtain ⟨x, rfl, rfl, h1, h2⟩ := mv_sta_inv h; exact lv_astore_n hx hb hd rfl hh (by rw [← hl.2.1]; exact h2) rfl (fun ls' h' => k ls' (mv_Lc_st1 (v := .ref x) hl h1 h'))
  case iinc n z =>
    obtain ⟨x, h0, rfl, rfl, h1, h2⟩ := mv_inc_inv h
    obtain ⟨q, hq⟩ := List.getElem?_of_mem (mv_lst_in (ad := ad) h0)
    exact lv_iinc hx hb hd hh hq rfl (by rw [← hl.2.1]; exact h2) rfl (fun ls' h' => k ls' (mv_Lc_st1 (v := .int (x + Int32.ofInt z)) hl h1 h'))
  all_goals (exact absurd h (by simp [mv_loc]))
theorem mv_cond_ok (hx : p.tables.exec = Jvm.exec) (hb : cod.code = cc) {i : ClassFile.Instr} {st r : List Value} {cn : Prop} {off : Int} {tgt : Nat} (hd : decode cc pc = .ok (i, mv_len i)) (h : mv_cond i st = some (cn, off, r)) (ht : (pc : Int) + off = (tgt : Int))
    (kt : cn → W p l e R s m args below meth cod H locs cells slots Qz (F0 m tgt ls (r.map (mv_tr ad)))) (kf : ¬ cn → W p l e R s m args below meth cod H locs cells slots Qz (F0 m (pc + 3) ls (r.map (mv_tr ad)))) : W p l e R s m args below meth cod H locs cells slots Qz (F0 m pc ls (st.map (mv_tr ad))) := by
  unfold mv_cond at h
  split at h
  · split at h
    · split at h
      · cases h; exact lv_if_eq hx hb hd ht kt kf
      · cases h; exact lv_if_ne hx hb hd ht kt (fun z => kf (fun g => g z))
      · cases h; exact lv_if_lt hx hb hd ht kt kf
      · cases h; exact lv_if_ge hx hb hd ht kt kf
      · cases h; exact lv_if_gt hx hb hd ht kt kf
      · cases h; exact lv_if_le hx hb hd ht kt kf
    · cases h
  · split at h
    · split at h
      · cases h; exact lv_icmp_eq hx hb hd ht kt kf
      · cases h; exact lv_icmp_ne hx hb hd ht kt (fun z => kf (fun g => g z))
      · cases h; exact lv_icmp_lt hx hb hd ht kt kf
      · cases h; exact lv_icmp_ge hx hb hd ht kt kf
      · cases h; exact lv_icmp_gt hx hb hd ht kt kf
      · cases h; exact lv_icmp_le hx hb hd ht kt kf
    · cases h
  · cases h
theorem mv_sw_ok (hx : p.tables.exec = Jvm.exec) (hb : cod.code = cc) {i : ClassFile.Instr} {n : Nat} {x : Int32} {r : List Value} {off : Int} {tgt : Nat} (hd : decode cc pc = .ok (i, n)) (h : mv_sw i x = some off) (ht : (pc : Int) + off = (tgt : Int))
    (k : W p l e R s m args below meth cod H locs cells slots Qz (F0 m tgt ls (r.map (mv_tr ad)))) : W p l e R s m args below meth cod H locs cells slots Qz (F0 m pc ls ((Value.int x :: r).map (mv_tr ad))) := by
  unfold mv_sw at h
  split at h
  · obtain ⟨h1, rfl⟩ := mv_bif h
    exact lv_lookup hx hb hd h1 rfl ht k
  · split at h
    · rename_i hc
      cases h
      exact lv_tableOut hx hb hd hc ht k
    · rename_i hc
      exact lv_tableIn hx hb hd (fun z => hc (Or.inl z)) (fun z => hc (Or.inr z)) h ht k
  · cases h
end MVP
end
section
/-! The small machine's cells over the great one's; the instructions that touch cells. -/
def mv_tys (cA : Nat → ClassId) : List (ClassId × FieldType) := [(cA 0, .int), (cA 1, .boolean), (cA 2, .byte), (cA 3, .long)]
def mv_cell (kd : List (List Nat)) (cA : Nat → ClassId) (ad : Nat → Nat) (S : mv_S) (k : Nat) (sh : mv_Sh) : va_E := match sh with
  | .inl q => .inl (cA q.1, q.2, bif Nat.beq q.1 3 then .inr (.inl (S.2.2.1 k)) else .inl (S.2.1 k))
  | .inr c => .inr (c, (kd.getD c []).mapIdx (fun j q => mv_tr ad (mv_fval q S k j)))
def mv_ws (kd : List (List Nat)) (cA : Nat → ClassId) (ad : Nat → Nat) (S : mv_S) : va_W := S.1.mapIdx (fun k sh => (ad k, mv_cell kd cA ad S k sh))
theorem mv_ws_get {kd : List (List Nat)} {cA : Nat → ClassId} {ad : Nat → Nat} {S : mv_S} {k : Nat} {sh : mv_Sh} (h : S.1[k]? = some sh) : (mv_ws kd cA ad S)[k]? = some (ad k, mv_cell kd cA ad S k sh) := by
  unfold mv_ws
  rw [List.getElem?_mapIdx, h]
  rfl
theorem mv_cell_far {kd : List (List Nat)} {cA : Nat → ClassId} {ad : Nat → Nat} {S S' : mv_S} {k : Nat} (h1 : S'.2.1 k = S.2.1 k) (h2 : S'.2.2.1 k = S.2.2.1 k) (h3 : S'.2.2.2 k = S.2.2.2 k) (sh : mv_Sh) : mv_cell kd cA ad S' k sh = mv_cell kd cA ad S k sh := by
  cases sh with
  | inl q => simp only [mv_cell, h1, h2]
  | inr c => simp only [mv_cell, mv_fval, h1, h2, h3]
theorem mv_ws_set {kd : List (List Nat)} {cA : Nat → ClassId} {ad : Nat → Nat} {S S' : mv_S} {k : Nat} {sh : mv_Sh} (h0 : S'.1 = S.1) (h : ∀ a, a ≠ k → S'.2.1 a = S.2.1 a ∧ S'.2.2.1 a = S.2.2.1 a ∧ S'.2.2.2 a = S.2.2.2 a) (hk : S.1[k]? = some sh) : mv_ws kd cA ad S' = (mv_ws kd cA ad S).set k (ad k, mv_cell kd cA ad S' k sh) := by
  refine List.ext_getElem? (fun j => ?_)
  by_cases e : k = j
  · subst e
    have hl : k < (mv_ws kd cA ad S).length := by
      unfold mv_ws
      rw [List.length_mapIdx]
      exact (List.getElem?_eq_some_iff.mp hk).1
    rw [List.getElem?_set_self hl, mv_ws_get (S := S') (by rw [h0]; exact hk)]
  · rw [List.getElem?_set_ne e]
    unfold mv_ws
    rw [List.getElem?_mapIdx, List.getElem?_mapIdx, h0]
    cases hj : S.1[j]? with
    | none => rfl
    | some x =>
      obtain ⟨a1, a2, a3⟩ := h j (fun q => e q.symm)
      simp only [Option.map_some, mv_cell_far a1 a2 a3]
theorem mv_up_far {α : Type} {f : Nat → Nat → α} {k j a : Nat} {x : α} (h : a ≠ k) : mv_up f k j x a = f a := by
  funext b
  simp [mv_up, h]
theorem mv_up_near {α : Type} {f : Nat → Nat → α} {k j b : Nat} {x : α} (h : b ≠ j) : mv_up f k j x k b = f k b := by
  simp [mv_up, h]
theorem mv_up_at {α : Type} {f : Nat → Nat → α} {k j : Nat} {x : α} : mv_up f k j x k j = x := by
  simp [mv_up]
theorem mv_flds_set {L : List Nat} {g g' : Nat → Nat → Value} {j c : Nat} (hj : L[j]? = some c) (h : ∀ b q, b ≠ j → g' b q = g b q) : L.mapIdx g' = (L.mapIdx g).set j (g' j c) := by
  refine List.ext_getElem? (fun b => ?_)
  by_cases e : j = b
  · subst e
    have hl : j < (L.mapIdx g).length := by
      rw [List.length_mapIdx]
      exact (List.getElem?_eq_some_iff.mp hj).1
    rw [List.getElem?_set_self hl, List.getElem?_mapIdx, hj]
    rfl
  · rw [List.getElem?_set_ne e, List.getElem?_mapIdx, List.getElem?_mapIdx]
    cases hb : L[b]? with
    | none => rfl
    | some x => simp only [Option.map_some, h b x (fun q => e q.symm)]
theorem mv_S_self {A : Nat → Prop} {H0 H : Heap} {locs : List Loc} (h : va_S A H0 H locs) : va_S A H H locs := ⟨Nat.le_refl _, fun _ _ _ => rfl, h.2.2⟩
theorem mv_S_trans {A : Nat → Prop} {H0 H H1 : Heap} {locs locs1 : List Loc} (h : va_S A H0 H locs) (k : va_S A H H1 locs1) : va_S A H0 H1 locs1 :=
  ⟨Nat.le_trans h.1 k.1, fun q h1 h2 => (k.2.1 q (Nat.lt_of_lt_of_le h1 h.1) h2).trans (h.2.1 q h1 h2), k.2.2⟩
/-- the kinds of a class's fields and their types -/
def mv_Kt (kc : Nat) (t : FieldType) : Prop := match kc with
  | 0 => t = .int
  | 1 => t = .boolean
  | 3 => t = .long
  | 4 => (∃ n, t = .object n) ∨ ∃ u, t = .array u
  | _ => False
def mv_Cl (cl : List vw_C) (kd : List (List Nat)) (Ts : List Jvm.Cond) : Prop := ∀ (ci : Nat) (C : String) (T : u_T) (N : Nat), cl[ci]? = some (C, T, N) → (∀ w ∈ u_ws C T N, w ∈ Ts) ∧ (kd.getD ci []).length = N ∧ (∃ ty : Nat → FieldType, ∀ k, k < N → parseFieldDescriptor (T k).2.2.1 = some (ty k) ∧ ∀ kc, (kd.getD ci [])[k]? = some kc → mv_Kt kc (ty k)) ∧ ∀ a, a < N → ∀ b, b < N → a ≠ b → (T a).2.1 ≠ (T b).2.1
/-- what stands while a method runs -/
def mv_Sts (A : Nat → Prop) (ad : Nat → Nat) (sta : Nat → List Int32) (stn : List (String × String × String)) (U : State) : Prop := ∀ (t : Nat) (q : String × String × String), stn[t]? = some q → va_Z q.1 q.2.1 q.2.2 (.ref (ad (100000 + t))) A U U.heap ∧ va_T .int (ad (100000 + t)) (sta t).length (fun j => .int ((sta t).getD j 0)) A U U.heap
def mv_Cx (p : Program) (s : State) (m : MethodId) (args : Array Value) (meth : Method) (cod : Code) (A : Nat → Prop) (D : va_G) (cl : List vw_C) (cA : Nat → ClassId) (ad : Nat → Nat) (Ts Nw : List Jvm.Cond) (sta : Nat → List Int32) (stn : List (String × String × String)) (M : mv_Me) : Prop :=
  p.tables.exec = Jvm.exec ∧ cod.code = (mv_cc M) ∧ cod.maxLocals = (mv_ml M) ∧ s.vm.findClass (mv_ow M) = some m.cls ∧ (∀ w ∈ Ts, w.before args s = true) ∧ (∀ w ∈ Nw, va_Nw w s) ∧ va_K D cl (mv_tys cA) s ∧ (∀ q, s.heap.size ≤ q → A q) ∧ meth.locks = false ∧ meth.sig.returnType = (mv_rt M) ∧ meth.name = M.1.name ∧ mv_Sts A ad sta stn s
/-- the cells at hand -/
def mv_Hc (A : Nat → Prop) (D : va_G) (cl : List vw_C) (kd : List (List Nat)) (cA : Nat → ClassId) (ad : Nat → Nat) (s : State) (S : mv_S) (vc : Nat) (H : Heap) (locs : List Loc) : Prop :=
  va_P D cl (mv_ws kd cA ad S) H ∧ va_D A (mv_ws kd cA ad S) ∧ va_S A s.heap H locs ∧ H.size = s.heap.size + vc ∧ ∀ k, S.1.length ≤ k → k < 100000 → ad k + S.1.length = H.size + k
def mv_lnk (Ts Nw : List Jvm.Cond) (own : String) (idx : Nat) (r n d : String) : Prop := Jvm.Cond.fieldLink own idx r n d ∈ Ts ∨ ∃ h, Jvm.Cond.fieldLinkNest own idx r n d h ∈ Nw
theorem mv_nb {x : Int32} (h : (x == 0 || x == 1) = true) : narrow .boolean (.int x) = .int x := by
  simp only [Bool.or_eq_true, beq_iff_eq] at h
  rcases h with rfl | rfl
  · rfl
  · rfl
section MVH
variable {p : Program} {l : Launch} {e : Env} {R : Room} {s : State} {m : MethodId} {args : Array Value} {below : List Frame} {meth : Method} {cod : Code} {H : Heap} {locs : List Loc} {cells slots : Nat} {Qz : State → Prop}
variable {pc : Nat} {ls : Array Slot} {ad : Nat → Nat} {A : Nat → Prop} {D : va_G} {cl : List vw_C} {kd : List (List Nat)} {cA : Nat → ClassId} {Ts Nw : List Jvm.Cond} {sta : Nat → List Int32} {stn : List (String × String × String)} {M : mv_Me} {S S' : mv_S} {st r : List Value}
theorem mv_Wsz {g : JFrame} (h : H.size ≤ s.heap.size + cells → W p l e R s m args below meth cod H locs cells slots Qz g) : W p l e R s m args below meth cod H locs cells slots Qz g := fun T hT X => h (by rw [← hT]; exact X.same.2.2.1) T hT X
theorem mv_get_ok (X : mv_Cx p s m args meth cod A D cl cA ad Ts Nw sta stn M) (hC : mv_Cl cl kd Ts) (hH : mv_Hc A D cl kd cA ad s S cells H locs) {idx a b c k : Nat} {C : String} {T : u_T} {N : Nat} (hd : decode (mv_cc M) pc = .ok (.getfield idx, 3)) (h1 : cl[a]? = some (C, T, N)) (h2 : (kd.getD a [])[b]? = some c) (h3 : mv_lnk Ts Nw (mv_ow M) idx (T b).1 (T b).2.1 (T b).2.2.1) (hk : S.1[k]? = some (.inr a))
    (kk : W p l e R s m args below meth cod H locs cells slots Qz (F0 m (pc + 3) ls ((mv_fval c S k b :: r).map (mv_tr ad)))) : W p l e R s m args below meth cod H locs cells slots Qz (F0 m pc ls ((Value.ref k :: r).map (mv_tr ad))) := by
  obtain ⟨hx, hb, -, hown, hts, hnw, hK, -⟩ := X
  obtain ⟨c1, c2, -, -⟩ := hC a C T N h1
  have hbN : b < N := by rw [← c2]; exact (List.getElem?_eq_some_iff.mp h2).1
  have hv : ((kd.getD a []).mapIdx (fun j q => mv_tr ad (mv_fval q S k j)))[b]? = some (mv_tr ad (mv_fval c S k b)) := by
    rw [List.getElem?_mapIdx, h2]; rfl
  rcases h3 with h3 | ⟨h, h3⟩
  · exact va_get hx hb hts c1 hown hK hH.1 k (mv_ws_get hk) h1 b hbN (hts _ h3) (fun _ h9 => h9) hv hd kk
  · exact va_getN hx hb hts c1 hown hK hH.1 k (mv_ws_get hk) h1 b hbN (va_Nw.use rfl (hnw _ h3)) (fun _ h9 => h9) hv hd kk
theorem mv_put_inv {c : Nat} {v : Value} {k j : Nat} {t : FieldType} (h : mv_put c v S k j = some S') (ht : mv_Kt c t) : S'.1 = S.1 ∧ (∀ a, a ≠ k → S'.2.1 a = S.2.1 a ∧ S'.2.2.1 a = S.2.2.1 a ∧ S'.2.2.2 a = S.2.2.2 a) ∧ (∀ b q, b ≠ j → mv_fval q S' k b = mv_fval q S k b) ∧ mv_fval c S' k j = v ∧ narrow t (mv_tr ad v) = mv_tr ad v ∧ fits t (mv_tr ad v) = true := by
  unfold mv_put at h
  split at h
  · cases h
    have ht : t = .int := ht
    subst ht
    exact ⟨rfl, fun a q => ⟨mv_up_far q, rfl, rfl⟩, fun b q hb => by simp only [mv_fval, mv_up_near hb], by show Value.int (mv_up S.2.1 k j _ k j) = _; rw [mv_up_at], rfl, rfl⟩
  · obtain ⟨h1, h2⟩ := mv_bif h
    cases h2
    have ht : t = .boolean := ht
    subst ht
    exact ⟨rfl, fun a q => ⟨mv_up_far q, rfl, rfl⟩, fun b q hb => by simp only [mv_fval, mv_up_near hb], by show Value.int (mv_up S.2.1 k j _ k j) = _; rw [mv_up_at], mv_nb h1, h1⟩
  · cases h
    have ht : t = .long := ht
    subst ht
    exact ⟨rfl, fun a q => ⟨rfl, mv_up_far q, rfl⟩, fun b q hb => by simp only [mv_fval, mv_up_near hb], by show Value.long (mv_up S.2.2.1 k j _ k j) = _; rw [mv_up_at], rfl, rfl⟩
  · cases h
    have ht : (∃ n, t = .object n) ∨ ∃ u, t = .array u := ht
    refine ⟨rfl, fun a q => ⟨rfl, rfl, mv_up_far q⟩, fun b q hb => by simp only [mv_fval, mv_up_near hb], by show (match mv_up S.2.2.2 k j (some _) k j with | none => Value.null | some q => .ref q) = _; rw [mv_up_at], ?_⟩
    rcases ht with ⟨n, rfl⟩ | ⟨u, rfl⟩
    · exact ⟨rfl, rfl⟩
    · exact ⟨rfl, rfl⟩
  · cases h
theorem mv_put_ok (X : mv_Cx p s m args meth cod A D cl cA ad Ts Nw sta stn M) (hC : mv_Cl cl kd Ts) (hH : mv_Hc A D cl kd cA ad s S cells H locs) {idx a b c k : Nat} {C : String} {T : u_T} {N : Nat} {v : Value} (hd : decode (mv_cc M) pc = .ok (.putfield idx, 3)) (h1 : cl[a]? = some (C, T, N)) (h2 : (kd.getD a [])[b]? = some c)
    (h3 : ((T b).2.2.2 = false ∧ mv_lnk Ts Nw (mv_ow M) idx (T b).1 (T b).2.1 (T b).2.2.1) ∨ ((T b).2.2.2 = true ∧ M.1.name = "<init>" ∧ (T b).1 = (mv_ow M) ∧ Jvm.Cond.fieldLink (mv_ow M) idx (T b).1 (T b).2.1 (T b).2.2.1 ∈ Ts)) (hk : S.1[k]? = some (.inr a)) (hp : mv_put c v S k b = some S')
    (kk : ∀ (H1 : Heap) (locs1 : List Loc), mv_Hc A D cl kd cA ad s S' cells H1 locs1 → W p l e R s m args below meth cod H1 locs1 cells slots Qz (F0 m (pc + 3) ls (r.map (mv_tr ad)))) : W p l e R s m args below meth cod H locs cells slots Qz (F0 m pc ls ((v :: Value.ref k :: r).map (mv_tr ad))) := by
  obtain ⟨hx, hb, -, hown, hts, hnw, hK, -, -, -, hnm, -⟩ := X
  obtain ⟨c1, c2, ⟨ty, c3⟩, c4⟩ := hC a C T N h1
  have hbN : b < N := by rw [← c2]; exact (List.getElem?_eq_some_iff.mp h2).1
  obtain ⟨hH1, hH2, hH3, hH4, hH5⟩ := hH
  obtain ⟨p0, p1, p2, p3, p4, p5⟩ := mv_put_inv (ad := ad) hp ((c3 b hbN).2 c h2)
  have hws : mv_ws kd cA ad S' = (mv_ws kd cA ad S).set k (ad k, .inr (a, ((kd.getD a []).mapIdx (fun j q => mv_tr ad (mv_fval q S k j))).set b (mv_tr ad v))) := by
    have hf := mv_flds_set (L := kd.getD a []) (g := fun j q => mv_tr ad (mv_fval q S k j)) (g' := fun j q => mv_tr ad (mv_fval q S' k j)) h2 (fun b' q hb' => by simp only [p2 b' q hb'])
    simp only [p3] at hf
    have hcell : mv_cell kd cA ad S' k (.inr a) = .inr (a, ((kd.getD a []).mapIdx (fun j q => mv_tr ad (mv_fval q S k j))).set b (mv_tr ad v)) := by
      show (Sum.inr (a, (kd.getD a []).mapIdx (fun j q => mv_tr ad (mv_fval q S' k j))) : va_E) = _
      rw [hf]
    rw [mv_ws_set p0 p1 hk, hcell]
  have hl : b < ((kd.getD a []).mapIdx (fun j q => mv_tr ad (mv_fval q S k j))).length := by
    rw [List.length_mapIdx, c2]; exact hbN
  have fin : ∀ (H1 : Heap) (locs1 : List Loc), va_P D cl ((mv_ws kd cA ad S).set k (ad k, .inr (a, ((kd.getD a []).mapIdx (fun j q => mv_tr ad (mv_fval q S k j))).set b (mv_tr ad v)))) H1 → va_D A ((mv_ws kd cA ad S).set k (ad k, .inr (a, ((kd.getD a []).mapIdx (fun j q => mv_tr ad (mv_fval q S k j))).set b (mv_tr ad v)))) → va_S A H H1 locs1 → W p l e R s m args below meth cod H1 locs1 cells slots Qz (F0 m (pc + 3) ls (r.map (mv_tr ad))) := by
    intro H1 locs1 q1 q2 q3
    refine mv_Wsz (fun hz => ?_)
    have hsz : H1.size = H.size := by have := q3.1; omega
    exact kk H1 locs1 ⟨by rw [hws]; exact q1, by rw [hws]; exact q2, mv_S_trans hH3 q3, by rw [hsz]; exact hH4, by rw [p0, hsz]; exact hH5⟩
  rcases h3 with ⟨f1, f2⟩ | ⟨f1, f2, f3, f4⟩
  · rcases f2 with f2 | ⟨h, f2⟩
    · exact va_put hx hb hts c1 ty (fun k hk => (c3 k hk).1) c4 hown hK hH1 hH2 (mv_S_self hH3) k (mv_ws_get hk) h1 b hbN (hts _ f2) (fun _ h9 => h9) f1 (c3 b hbN).1 p4 p5 hl hd fin
    · exact va_putN hx hb hts c1 ty (fun k hk => (c3 k hk).1) c4 hown hK hH1 hH2 (mv_S_self hH3) k (mv_ws_get hk) h1 b hbN (va_Nw.use rfl (hnw _ f2)) (fun _ h9 => h9) f1 (c3 b hbN).1 p4 p5 hl hd fin
  · exact va_putF hx hb hts c1 ty (fun k hk => (c3 k hk).1) c4 hown hK hH1 hH2 (mv_S_self hH3) k (mv_ws_get hk) h1 b hbN (hts _ f4) (fun _ h9 => h9) f1 (hnm.trans f2) f3 (c3 b hbN).1 p4 p5 hl hd fin
theorem mv_alen_ok (X : mv_Cx p s m args meth cod A D cl cA ad Ts Nw sta stn M) (hH : mv_Hc A D cl kd cA ad s S cells H locs) {k t n : Nat} (hd : decode (mv_cc M) pc = .ok (.arraylength, 1)) (ht : t ≤ 3) (hk : S.1[k]? = some (.inl (t, n)))
    (kk : W p l e R s m args below meth cod H locs cells slots Qz (F0 m (pc + 1) ls ((Value.int (Int32.ofNat n) :: r).map (mv_tr ad)))) : W p l e R s m args below meth cod H locs cells slots Qz (F0 m pc ls ((Value.ref k :: r).map (mv_tr ad))) := by
  obtain ⟨hx, hb, -, hown, hts, hnw, hK, -⟩ := X
  have hg := mv_ws_get (kd := kd) (cA := cA) (ad := ad) hk
  have hty : (mv_tys cA)[t]? = some (cA t, mv_ty t) := by
    rcases (show t = 0 ∨ t = 1 ∨ t = 2 ∨ t = 3 by omega) with rfl | rfl | rfl | rfl <;> rfl
  exact va_alen hx hb hK hH.1 k t hg hty rfl hd kk
end MVH
end
section
/-! The small machine: arrays, what is made. -/
section MVA
variable {p : Program} {l : Launch} {e : Env} {R : Room} {s : State} {m : MethodId} {args : Array Value} {below : List Frame} {meth : Method} {cod : Code} {H : Heap} {locs : List Loc} {cells slots : Nat} {Qz : State → Prop}
variable {pc : Nat} {ls : Array Slot} {ad : Nat → Nat} {A : Nat → Prop} {D : va_G} {cl : List vw_C} {kd : List (List Nat)} {cA : Nat → ClassId} {Ts Nw : List Jvm.Cond} {sta : Nat → List Int32} {stn : List (String × String × String)} {M : mv_Me} {S S' : mv_S} {st r : List Value}
theorem mv_ald_ok (X : mv_Cx p s m args meth cod A D cl cA ad Ts Nw sta stn M) (hH : mv_Hc A D cl kd cA ad s S cells H locs) (hst : ∀ k, 100000 ≤ k → (sta (k - 100000)).length = 0 ∨ ∃ q, stn[k - 100000]? = some q) {i : ClassFile.Instr} {x : Int32} {k N n : Nat} {v : Value} (hd : decode (mv_cc M) pc = .ok (i, n)) (hn : n = 1) (h : mv_ald sta i S k x = some (N, v)) (hin : vp_in x N)
    (kk : W p l e R s m args below meth cod H locs cells slots Qz (F0 m (pc + 1) ls ((v :: r).map (mv_tr ad)))) : W p l e R s m args below meth cod H locs cells slots Qz (F0 m pc ls ((Value.int x :: Value.ref k :: r).map (mv_tr ad))) := by
  subst hn
  obtain ⟨hx, hb, -, hown, hts, hnw, hK, -, -, -, -, hsts⟩ := X
  unfold mv_ald at h
  split at h
  · rename_i t n hk
    have hg := mv_ws_get (kd := kd) (cA := cA) (ad := ad) hk
    split at h
    · cases h; exact va_iald hx hb hK hH.1 k 0 hg rfl hin hd kk
    · cases h; exact va_zald hx hb hK hH.1 k 1 hg rfl hin hd kk
    · cases h; exact va_bald hx hb hK hH.1 k 2 hg rfl hin hd kk
    · cases h; exact va_lald hx hb hK hH.1 k 3 hg rfl hin hd kk
    · cases h
  · cases h
  · split at h
    · obtain ⟨h1, h2⟩ := mv_bif h
      cases h2
      have h1 : 100000 ≤ k := Nat.le_of_ble_eq_true h1
      rcases hst k h1 with h3 | ⟨q, h3⟩
      · rw [h3] at hin
        exact (hin (Or.inr (Nat.zero_le _))).elim
      · have hT := (hsts _ _ h3).2
        have ek : 100000 + (k - 100000) = k := by omega
        rw [ek] at hT
        exact va_ti hx hb hT hH.2.2.1 hin rfl hd kk
    · cases h
theorem mv_ast_inv {i : ClassFile.Instr} {k : Nat} {x : Int32} {v : Value} {N : Nat} (h : mv_ast i S k x v = some (N, S')) : S'.1 = S.1 ∧ (∀ a, a ≠ k → S'.2.1 a = S.2.1 a ∧ S'.2.2.1 a = S.2.2.1 a ∧ S'.2.2.2 a = S.2.2.2 a) := by
  unfold mv_ast at h
  split at h
  · split at h
    · cases h; exact ⟨rfl, fun a q => ⟨mv_up_far q, rfl, rfl⟩⟩
    · cases h; exact ⟨rfl, fun a q => ⟨mv_up_far q, rfl, rfl⟩⟩
    · cases h; exact ⟨rfl, fun a q => ⟨mv_up_far q, rfl, rfl⟩⟩
    · cases h; exact ⟨rfl, fun a q => ⟨rfl, mv_up_far q, rfl⟩⟩
    · cases h
  · cases h
theorem mv_up_row (f : Nat → Nat → Int32) (k j : Nat) (x : Int32) : mv_up f k j x k = upd (f k) j x := by
  funext b
  simp [mv_up, upd]
theorem mv_up_rowL (f : Nat → Nat → Int64) (k j : Nat) (x : Int64) : mv_up f k j x k = vp_updL (f k) j x := by
  funext b
  simp [mv_up, vp_updL]
theorem mv_ast_ok (X : mv_Cx p s m args meth cod A D cl cA ad Ts Nw sta stn M) (hH : mv_Hc A D cl kd cA ad s S cells H locs) {i : ClassFile.Instr} {x : Int32} {k N n : Nat} {v : Value} (hd : decode (mv_cc M) pc = .ok (i, n)) (hn : n = 1) (h : mv_ast i S k x v = some (N, S')) (hin : vp_in x N)
    (kk : ∀ (H1 : Heap) (locs1 : List Loc), mv_Hc A D cl kd cA ad s S' cells H1 locs1 → W p l e R s m args below meth cod H1 locs1 cells slots Qz (F0 m (pc + 1) ls (r.map (mv_tr ad)))) : W p l e R s m args below meth cod H locs cells slots Qz (F0 m pc ls ((v :: Value.int x :: Value.ref k :: r).map (mv_tr ad))) := by
  subst hn
  obtain ⟨p0, p1⟩ := mv_ast_inv h
  obtain ⟨hx, hb, -, hown, hts, hnw, hK, -⟩ := X
  obtain ⟨hH1, hH2, hH3, hH4, hH5⟩ := hH
  have fin : ∀ (E : Nat × va_E), mv_ws kd cA ad S' = (mv_ws kd cA ad S).set k E → ∀ (H1 : Heap) (locs1 : List Loc), va_P D cl ((mv_ws kd cA ad S).set k E) H1 → va_D A ((mv_ws kd cA ad S).set k E) → va_S A H H1 locs1 → W p l e R s m args below meth cod H1 locs1 cells slots Qz (F0 m (pc + 1) ls (r.map (mv_tr ad))) := by
    intro E hws H1 locs1 q1 q2 q3
    refine mv_Wsz (fun hz => ?_)
    have hsz : H1.size = H.size := by have := q3.1; omega
    exact kk H1 locs1 ⟨by rw [hws]; exact q1, by rw [hws]; exact q2, mv_S_trans hH3 q3, by rw [hsz]; exact hH4, by rw [p0, hsz]; exact hH5⟩
  unfold mv_ast at h
  split at h
  · rename_i t n hk
    have hg := mv_ws_get (kd := kd) (cA := cA) (ad := ad) hk
    have hw := mv_ws_set (kd := kd) (cA := cA) (ad := ad) p0 p1 hk
    split at h
    · cases h
      exact va_iast hx hb hK hH1 hH2 (mv_S_self hH3) k 0 hg rfl hin hd (fin _ (by rw [hw]; simp only [mv_cell, mv_up_row]; rfl))
    · cases h
      exact va_zast hx hb hK hH1 hH2 (mv_S_self hH3) k 1 hg rfl hin hd (fin _ (by rw [hw]; simp only [mv_cell, mv_up_row]; rfl))
    · cases h
      exact va_bast hx hb hK hH1 hH2 (mv_S_self hH3) k 2 hg rfl hin hd (fin _ (by rw [hw]; simp only [mv_cell, mv_up_row]; rfl))
    · cases h
      exact va_last hx hb hK hH1 hH2 (mv_S_self hH3) k 3 hg rfl hin hd (fin _ (by rw [hw]; simp only [mv_cell, mv_up_rowL]; rfl))
    · cases h
  · cases h
theorem mv_clr_far {α : Type} {f : Nat → Nat → α} {k a : Nat} {x : α} (h : a ≠ k) : mv_clr f k x a = f a := by
  funext b
  simp [mv_clr, h]
theorem mv_clr_at {α : Type} {f : Nat → Nat → α} {k : Nat} {x : α} : mv_clr f k x k = fun _ => x := by
  funext b
  simp [mv_clr]
theorem mv_ws_new (sh : mv_Sh) : mv_ws kd cA ad (mv_new S sh) = mv_ws kd cA ad S ++ [(ad S.1.length, mv_cell kd cA ad (mv_new S sh) S.1.length sh)] := by
  refine List.ext_getElem? (fun j => ?_)
  have hl : (mv_ws kd cA ad S).length = S.1.length := by unfold mv_ws; rw [List.length_mapIdx]
  rcases Nat.lt_trichotomy j S.1.length with h | h | h
  · rw [List.getElem?_append_left (by omega)]
    unfold mv_ws
    rw [List.getElem?_mapIdx, List.getElem?_mapIdx, show (mv_new S sh).1 = S.1 ++ [sh] from rfl, List.getElem?_append_left h]
    have e : j ≠ S.1.length := by omega
    cases hj : S.1[j]? with
    | none => rfl
    | some x => simp only [Option.map_some, mv_cell_far (S' := mv_new S sh) (S := S) (mv_clr_far e) (mv_clr_far e) (mv_clr_far e)]
  · subst h
    rw [List.getElem?_append_right (by omega), hl, Nat.sub_self]
    rw [mv_ws_get (S := mv_new S sh) (sh := sh) (by show (S.1 ++ [sh])[S.1.length]? = some sh; rw [List.getElem?_append_right (Nat.le_refl _), Nat.sub_self]; rfl)]
    rfl
  · rw [List.getElem?_eq_none (by show (mv_ws kd cA ad (mv_new S sh)).length ≤ j; unfold mv_ws; rw [List.length_mapIdx]; show (S.1 ++ [sh]).length ≤ j; rw [List.length_append]; simp; omega), List.getElem?_eq_none (by rw [List.length_append, hl]; simp; omega)]
/-- a new cell at the end of the heap -/
theorem mv_Hc_new {sh : mv_Sh} (hA : ∀ q, s.heap.size ≤ q → A q) (hH : mv_Hc A D cl kd cA ad s S cells H locs) (hn : S.1.length < 100000) {H1 : Heap} (z : H1.size = H.size + 1) (o : ∀ q, q < H.size → H1[q]? = H[q]?) (hc : va_at D cl (H.size, mv_cell kd cA ad (mv_new S sh) S.1.length sh) H1) : mv_Hc A D cl kd cA ad s (mv_new S sh) (cells + 1) H1 locs := by
  obtain ⟨hP, hD, hS, hz, ht⟩ := hH
  have ha : ad S.1.length = H.size := by have := ht S.1.length (Nat.le_refl _) hn; omega
  refine ⟨?_, ?_, ⟨Nat.le_trans hS.1 (by omega), fun x h1 h2 => (o x (Nat.lt_of_lt_of_le h1 hS.1)).trans (hS.2.1 x h1 h2), hS.2.2⟩, by omega, ?_⟩
  · rw [mv_ws_new, ha]
    refine (hP.kept (fun k x hx => o x.1 ((hP k x hx).lt))).app (fun k x hx => ?_)
    have hz : k < 1 := (List.getElem?_eq_some_iff.mp hx).1
    rw [show k = 0 by omega] at hx
    cases hx
    exact hc
  · rw [mv_ws_new, ha]
    exact hD.push hP rfl (hA _ hS.1)
  · intro k h1 h2
    have e : (mv_new S sh).1.length = S.1.length + 1 := by show (S.1 ++ [sh]).length = _; rw [List.length_append]; rfl
    rw [e] at h1 ⊢
    have := ht k (by omega) h2
    omega
theorem mv_new_ok (X : mv_Cx p s m args meth cod A D cl cA ad Ts Nw sta stn M) (hC : mv_Cl cl kd Ts) (hH : mv_Hc A D cl kd cA ad s S cells H locs) {idx a b : Nat} {C : String} {T : u_T} (hd : decode (mv_cc M) pc = .ok (.new idx, 3)) (h1 : cl[a]? = some (C, T, b)) (h2 : Jvm.Cond.classLink (mv_ow M) idx C ∈ Ts) (h3 : Jvm.Cond.instantiable C b ∈ Ts) (h4 : Jvm.Cond.initialized C ∈ Ts) (hn : S.1.length < 100000) (hcells : cells + 1 ≤ R.cells) (hslots : slots + b ≤ R.slots)
    (kk : ∀ (H1 : Heap), mv_Hc A D cl kd cA ad s (mv_new S (.inr a)) (cells + 1) H1 locs → W p l e R s m args below meth cod H1 locs (cells + 1) (slots + b) Qz (F0 m (pc + 3) ls ((Value.ref S.1.length :: r).map (mv_tr ad)))) : W p l e R s m args below meth cod H locs cells slots Qz (F0 m pc ls (r.map (mv_tr ad))) := by
  obtain ⟨hx, hb, -, hown, hts, hnw, hK, hA, -⟩ := X
  obtain ⟨c1, c2, ⟨ty, c3⟩, c4⟩ := hC a C T b h1
  have hKn := hK.1 a _ h1
  have ha : ad S.1.length = H.size := by have := hH.2.2.2.2 S.1.length (Nat.le_refl _) hn; omega
  refine W.newcK hx hb hown (hts _ h2) (hts _ h3) (hts _ h4) rfl hd hcells hslots hKn.2.1 rfl fun H1 kC hkC e1 z1 o1 => ?_
  have := kk H1 (mv_Hc_new hA hH hn z1 o1 ⟨_, h1, (u_born ty hts c1 hKn hkC e1 (fun k hk => (c3 k hk).1)).to (fun j hj => ?_)⟩)
  · rw [← ha]; exact this
  · have hlt : j < (kd.getD a []).length := by rw [c2]; exact hj
    obtain ⟨kc, hkc⟩ : ∃ kc, (kd.getD a [])[j]? = some kc := ⟨_, List.getElem?_eq_getElem hlt⟩
    have hkt := (c3 j hj).2 kc hkc
    have hv : vp_V ((kd.getD a []).mapIdx (fun j q => mv_tr ad (mv_fval q (mv_new S (.inr a)) S.1.length j))) j = mv_tr ad (mv_fval kc (mv_new S (.inr a)) S.1.length j) := by
      unfold vp_V
      rw [List.getD_eq_getElem?_getD, List.getElem?_mapIdx, hkc]
      rfl
    show defaultValue (ty j) = vp_V _ j
    rw [hv]
    have e1 : (mv_new S (.inr a)).2.1 S.1.length = fun _ => 0 := mv_clr_at
    have e2 : (mv_new S (.inr a)).2.2.1 S.1.length = fun _ => 0 := mv_clr_at
    have e3 : (mv_new S (.inr a)).2.2.2 S.1.length = fun _ => none := mv_clr_at
    unfold mv_Kt at hkt
    split at hkt
    · rw [hkt]; simp only [mv_fval, e1]; rfl
    · rw [hkt]; simp only [mv_fval, e1]; rfl
    · rw [hkt]; simp only [mv_fval, e2]; rfl
    · rcases hkt with ⟨n, hkt⟩ | ⟨u, hkt⟩
      · rw [hkt]; simp only [mv_fval, e3]; rfl
      · rw [hkt]; simp only [mv_fval, e3]; rfl
    · exact hkt.elim
theorem mv_newa_ok (X : mv_Cx p s m args meth cod A D cl cA ad Ts Nw sta stn M) (hH : mv_Hc A D cl kd cA ad s S cells H locs) {t : ClassFile.ArrayType} {c : Nat} {x : Int32} (hd : decode (mv_cc M) pc = .ok (.newarray t, 2)) (h1 : c ≤ 3) (h2 : Op.newarray.typeOf t = mv_ty c) (h3 : Jvm.Cond.arrayClass (mv_ty c) ∈ Ts) (hn : S.1.length < 100000) (hx0 : ¬ x < 0) (hx1 : x.toNatClampNeg ≤ 1000000) (hcells : cells + 1 ≤ R.cells) (hslots : slots + x.toNatClampNeg ≤ R.slots)
    (kk : ∀ (H1 : Heap), mv_Hc A D cl kd cA ad s (mv_new S (.inl (c, x.toNatClampNeg))) (cells + 1) H1 locs → W p l e R s m args below meth cod H1 locs (cells + 1) (slots + x.toNatClampNeg) Qz (F0 m (pc + 2) ls ((Value.ref S.1.length :: r).map (mv_tr ad)))) : W p l e R s m args below meth cod H locs cells slots Qz (F0 m pc ls ((Value.int x :: r).map (mv_tr ad))) := by
  obtain ⟨hx, hb, -, hown, hts, hnw, hK, hA, -⟩ := X
  have ha : ad S.1.length = H.size := by have := hH.2.2.2.2 S.1.length (Nat.le_refl _) hn; omega
  have hty : (mv_tys cA)[c]? = some (cA c, mv_ty c) := by
    rcases (show c = 0 ∨ c = 1 ∨ c = 2 ∨ c = 3 by omega) with rfl | rfl | rfl | rfl <;> rfl
  have hRA := (hK.2 c _ hty).2
  have hby : x.toNatClampNeg * componentBytes (Op.newarray.typeOf t) ≤ 536870912 := by
    have : componentBytes (Op.newarray.typeOf t) ≤ 8 := by cases t <;> decide
    calc x.toNatClampNeg * componentBytes (Op.newarray.typeOf t) ≤ 1000000 * 8 := Nat.mul_le_mul hx1 this
      _ ≤ 536870912 := by decide
  refine va_newaK hx hb (by rw [h2]; exact hts _ h3) rfl hd rfl hx0 rfl hby hcells hslots rfl fun H1 cB e1 z1 o1 hAr hNm => ?_
  have hcB : cB = cA c := by
    rw [h2] at hNm
    rcases (show c = 0 ∨ c = 1 ∨ c = 2 ∨ c = 3 by omega) with rfl | rfl | rfl | rfl
    · exact Option.some.inj (hNm.symm.trans hRA)
    · exact Option.some.inj (hNm.symm.trans hRA)
    · exact Option.some.inj (hNm.symm.trans hRA)
    · exact Option.some.inj (hNm.symm.trans hRA)
  have := kk H1 (mv_Hc_new hA hH hn z1 o1 ?_)
  · show W p l e R s m args below meth cod H1 locs (cells + 1) (slots + x.toNatClampNeg) Qz (F0 m (pc + 2) ls (Value.ref H.size :: r.map (mv_tr ad)))
    rw [← ha]; exact this
  · show H1[H.size]? = some (vp_cell _ _)
    rw [e1, h2, hcB]
    have f1 : (mv_new S (.inl (c, x.toNatClampNeg))).2.1 S.1.length = fun _ => 0 := mv_clr_at
    have f2 : (mv_new S (.inl (c, x.toNatClampNeg))).2.2.1 S.1.length = fun _ => 0 := mv_clr_at
    rw [f1, f2]
    rcases (show c = 0 ∨ c = 1 ∨ c = 2 ∨ c = 3 by omega) with rfl | rfl | rfl | rfl <;> rfl
end MVA
end
section
/-! The small machine's answers are the great one's. -/
def mv_mlk (Ts Nw : List Jvm.Cond) (own : String) (idx : Nat) (y : MethodName) : Prop := Jvm.Cond.methodLink own idx y ∈ Ts ∨ ∃ h, Jvm.Cond.methodLinkNest own idx y h ∈ Nw
def mv_np (y : MethodName) (n : Nat) : Prop := (parseMethodDescriptor y.desc).map (fun d => d.parameters.length) = some n
/-- a callee's room in its caller's -/
def mv_rm (M Mj : mv_Me) : Prop := mv_fr Mj + 1 ≤ mv_fr M ∧ 8 + (mv_ml Mj + 11) + mv_lo Mj ≤ mv_lo M
/-- what a row of a method's table must keep to -/
def mv_Rw (cl : List vw_C) (kd : List (List Nat)) (Ts Nw : List Jvm.Cond) (prog : List mv_Me) (stn : List (String × String × String)) (M : mv_Me) (i : ClassFile.Instr) (n a b c d : Nat) : Prop := match i with
  | .getfield idx => n = 3 ∧ ∃ (C : String) (T : u_T) (N : Nat), cl[a]? = some (C, T, N) ∧ (kd.getD a [])[b]? = some c ∧ mv_lnk Ts Nw (mv_ow M) idx (T b).1 (T b).2.1 (T b).2.2.1
  | .putfield idx => n = 3 ∧ ∃ (C : String) (T : u_T) (N : Nat), cl[a]? = some (C, T, N) ∧ (kd.getD a [])[b]? = some c ∧ (((T b).2.2.2 = false ∧ mv_lnk Ts Nw (mv_ow M) idx (T b).1 (T b).2.1 (T b).2.2.1) ∨ ((T b).2.2.2 = true ∧ M.1.name = "<init>" ∧ (T b).1 = (mv_ow M) ∧ Jvm.Cond.fieldLink (mv_ow M) idx (T b).1 (T b).2.1 (T b).2.2.1 ∈ Ts))
  | .new idx => n = 3 ∧ ∃ (C : String) (T : u_T), cl[a]? = some (C, T, b) ∧ Jvm.Cond.classLink (mv_ow M) idx C ∈ Ts ∧ Jvm.Cond.instantiable C b ∈ Ts ∧ Jvm.Cond.initialized C ∈ Ts
  | .newarray t => n = 2 ∧ c ≤ 3 ∧ Op.newarray.typeOf t = mv_ty c ∧ Jvm.Cond.arrayClass (mv_ty c) ∈ Ts
  | .ldc idx => n = 2 ∧ Jvm.Cond.constant (mv_ow M) idx (Int32.ofNat a) ∈ Ts
  | .ldc_w idx => n = 3 ∧ Jvm.Cond.constant (mv_ow M) idx (Int32.ofNat a) ∈ Ts
  | .ldc2_w idx => n = 3 ∧ Jvm.Cond.constantLong (mv_ow M) idx (Int64.ofNat a) ∈ Ts
  | .getstatic idx => n = 3 ∧ ∃ q, stn[a]? = some q ∧ Jvm.Cond.fieldLink (mv_ow M) idx q.1 q.2.1 q.2.2 ∈ Ts
  | .invokespecial idx => n = 3 ∧ (c = 3 → 1 ≤ mv_fr M ∧ 20 ≤ mv_lo M ∧ Jvm.Cond.methodLink (mv_ow M) idx Lib.objectInit ∈ Ts ∧ Jvm.Cond.instanceMethod Lib.objectInit ∈ Ts ∧ Jvm.Cond.code Lib.objectInit ⟨#[0xb1]⟩ 1 none ∈ Ts) ∧ (c = 2 → ∃ (Mj : mv_Me) (np : Nat), prog[a]? = some Mj ∧ mv_rm M Mj ∧ (mv_rt Mj) = none ∧ b = np + 1 ∧ mv_np Mj.1 np ∧ mv_mlk Ts Nw (mv_ow M) idx Mj.1 ∧ Mj.1.name = "<init>" ∧ Jvm.Cond.instanceMethod Mj.1 ∈ Ts)
  | .invokestatic idx => n = 3 ∧ (c = 4 → 1 ≤ mv_fr M ∧ 21 ≤ mv_lo M ∧ Jvm.Cond.methodLink (mv_ow M) idx Lib.Math.max.name ∈ Ts ∧ Jvm.Cond.static Lib.Math.max.name ∈ Ts ∧ Jvm.Cond.initialized "java/lang/Math" ∈ Ts ∧ Jvm.Cond.code Lib.Math.max.name Lib.Math.max.code 2 (some .int) ∈ Ts) ∧ (c = 5 → 1 ≤ mv_fr M ∧ 21 ≤ mv_lo M ∧ Jvm.Cond.methodLink (mv_ow M) idx Lib.Math.min.name ∈ Ts ∧ Jvm.Cond.static Lib.Math.min.name ∈ Ts ∧ Jvm.Cond.initialized "java/lang/Math" ∈ Ts ∧ Jvm.Cond.code Lib.Math.min.name Lib.Math.min.code 2 (some .int) ∈ Ts) ∧ (c = 1 → ∃ (Mj : mv_Me), prog[a]? = some Mj ∧ mv_rm M Mj ∧ mv_np Mj.1 b ∧ mv_mlk Ts Nw (mv_ow M) idx Mj.1 ∧ Jvm.Cond.static Mj.1 ∈ Ts)
  | .invokevirtual idx => n = 3 ∧ (c = 0 → ∃ (Mj : mv_Me) (np : Nat) (T : u_T) (N : Nat), prog[a]? = some Mj ∧ mv_rm M Mj ∧ b = np + 1 ∧ mv_np Mj.1 np ∧ cl[d]? = some (Mj.1.cls, T, N) ∧ mv_mlk Ts Nw (mv_ow M) idx Mj.1 ∧ Jvm.Cond.instanceMethod Mj.1 ∈ Ts ∧ Jvm.Cond.selects Mj.1.cls Mj.1 Mj.1 ∈ Ts)
  | .lookupswitch _ _ => True
  | .tableswitch _ _ _ _ => True
  | i => n = mv_len i
/-- what a method must keep to -/
def mv_Mk (cl : List vw_C) (kd : List (List Nat)) (Ts Nw : List Jvm.Cond) (prog : List mv_Me) (stn : List (String × String × String)) (M : mv_Me) : Prop :=
  Jvm.plainName M.1.cls = true ∧ M.1.cls = (mv_ow M) ∧ Jvm.Cond.code M.1 (mv_cc M) (mv_ml M) (mv_rt M) ∈ Ts ∧ Jvm.Cond.initialized M.1.cls ∈ Ts ∧ M.1.cls ≠ "java/lang/invoke/MethodHandle" ∧ M.1.cls ≠ "java/lang/invoke/VarHandle" ∧ ∀ e ∈ (mv_tb M), decode (mv_cc M) e.1 = .ok (e.2.1, e.2.2.1) ∧ mv_Rw cl kd Ts Nw prog stn M e.2.1 e.2.2.1 e.2.2.2.1 e.2.2.2.2.1 e.2.2.2.2.2.1 e.2.2.2.2.2.2
/-- the rows of a method's table keep to it -/
def mv_Ro (cl : List vw_C) (kd : List (List Nat)) (Ts Nw : List Jvm.Cond) (prog : List mv_Me) (stn : List (String × String × String)) (M : mv_Me) : Prop :=
  ∀ e ∈ (mv_tb M), decode (mv_cc M) e.1 = .ok (e.2.1, e.2.2.1) ∧ mv_Rw cl kd Ts Nw prog stn M e.2.1 e.2.2.1 e.2.2.2.1 e.2.2.2.2.1 e.2.2.2.2.2.1 e.2.2.2.2.2.2
/-- the system: its classes, words, methods, tables -/
def mv_Sy (cl : List vw_C) (kd : List (List Nat)) (Ts Nw : List Jvm.Cond) (prog : List mv_Me) (sta : Nat → List Int32) (stn : List (String × String × String)) : Prop :=
  mv_Cl cl kd Ts ∧ (∀ w ∈ Ts, (w.onTables && w.keeps) = true ∨ ∃ ty, w = .arrayClass ty) ∧ (∀ w ∈ Nw, (∃ a i b n d h, w = Jvm.Cond.fieldLinkNest a i b n d h) ∨ ∃ a i x h, w = Jvm.Cond.methodLinkNest a i x h) ∧ (∀ (i : Nat) (M : mv_Me), prog[i]? = some M → mv_Mk cl kd Ts Nw prog stn M) ∧ ∀ k, 100000 ≤ k → (sta (k - 100000)).length = 0 ∨ ∃ q, stn[k - 100000]? = some q
theorem mv_at_mem : ∀ {t : List mv_E} {pc : Nat} {x : ClassFile.Instr × Nat × Nat × Nat × Nat × Nat}, mv_at t pc = some x → (pc, x) ∈ t
  | [], _, _, h => by cases h
  | e :: r, pc, x, h => by
    unfold mv_at at h
    cases hb : Nat.beq e.1 pc with
    | true =>
      rw [hb] at h
      have e1 : e.2 = x := Option.some.inj h
      have e2 : e.1 = pc := Nat.eq_of_beq_eq_true hb
      rw [← e1, ← e2]
      exact List.mem_cons_self
    | false =>
      rw [hb] at h
      exact List.mem_cons_of_mem _ (mv_at_mem h)
def mv_Pre (A : Nat → Prop) (D : va_G) (cl : List vw_C) (kd : List (List Nat)) (cA : Nat → ClassId) (ad : Nat → Nat) (Nw : List Jvm.Cond) (sta : Nat → List Int32) (stn : List (String × String × String)) (as : List Value) (S : mv_S) : Array Value → State → Prop :=
  va_Pc (as.map (mv_tr ad)) (fun U => (∀ w ∈ Nw, va_Nw w U) ∧ va_K D cl (mv_tys cA) U ∧ mv_Sts A ad sta stn U ∧ (∀ q, U.heap.size ≤ q → A q) ∧ va_P D cl (mv_ws kd cA ad S) U.heap ∧ va_D A (mv_ws kd cA ad S) ∧ ∀ k, S.1.length ≤ k → k < 100000 → ad k + S.1.length = U.heap.size + k)
def mv_Pst (A : Nat → Prop) (D : va_G) (cl : List vw_C) (kd : List (List Nat)) (cA : Nat → ClassId) (ad : Nat → Nat) (mc : Nat) (Q : Option Value → mv_S → Prop) : Array Value → State → Outcome → State → Prop :=
  fun _ st oc t => ∃ (v : Option Value) (S' : mv_S), Q v S' ∧ oc = .returned (v.map (mv_tr ad)) ∧ va_P D cl (mv_ws kd cA ad S') t.heap ∧ va_D A (mv_ws kd cA ad S') ∧ va_F A st t ∧ t.heap.size = st.heap.size + mc ∧ ∀ k, S'.1.length ≤ k → k < 100000 → ad k + S'.1.length = t.heap.size + k
def mv_Rm (M : mv_Me) : Room := { frames := mv_fr M, cells := mv_mc M, slots := mv_ms M, locals := mv_lo M }
section MVT
variable {p : Program} {l : Launch} {e : Env} {R : Room} {s : State} {m : MethodId} {args : Array Value} {below : List Frame} {meth : Method} {cod : Code} {H : Heap} {locs : List Loc} {cells slots : Nat} {Qz : State → Prop}
variable {pc : Nat} {ls : Array Slot} {ad : Nat → Nat} {A : Nat → Prop} {D : va_G} {cl : List vw_C} {kd : List (List Nat)} {cA : Nat → ClassId} {Ts Nw : List Jvm.Cond} {sta : Nat → List Int32} {stn : List (String × String × String)} {prog : List mv_Me} {M : mv_Me} {S S' : mv_S} {st r : List Value}
theorem mv_callx {mc ms : Nat} {g0 : List Value} {rest : List Value} {Qa : State → Outcome → State → Prop} {free : Addr → Prop} (hr : va_Run p l e R s m args below meth cod H locs cells slots mc ms (F0 m pc ls g0) rest Qa free)
    (kk : ∀ (v : Option Value) (st0 t : State) (H1 : Heap) (L : List Loc), st0.heap = H → t.heap = H1 → Qa st0 (.returned v) t → (∀ q ∈ L, free q.base) → W p l e R s m args below meth cod H1 (locs ++ L) (cells + mc) (slots + ms) Qz (F0 m (pc + 3) ls (v.toList ++ rest))) : W p l e R s m args below meth cod H locs cells slots Qz (F0 m pc ls g0) := by
  intro T hT X
  obtain ⟨v, st0, t, T', L, h0, X', hL, e1, e2, hq, sts⟩ := hr T hT X
  obtain ⟨t2, a1, b1⟩ := kk v st0 t T'.heap L h0 e1.symm hq hL T' rfl X'
  exact ⟨t2, sts t2 a1, b1⟩
theorem mv_Nw_warm (hN : ∀ w ∈ Nw, (∃ a i b n d h, w = Jvm.Cond.fieldLinkNest a i b n d h) ∨ ∃ a i x h, w = Jvm.Cond.methodLinkNest a i x h) {U : State} (hW : s.WarmedH U.vm) (h : ∀ w ∈ Nw, va_Nw w s) : ∀ w ∈ Nw, va_Nw w U := by
  intro w hw
  rcases hN w hw with ⟨a, i, b, n, d, h', rfl⟩ | ⟨a, i, x, h', rfl⟩
  · exact va_Nw.warmF hW (h _ hw)
  · exact va_Nw.warmM hW (h _ hw)
theorem mv_Sts_go {U : State} (hvm : s.vm.Alike U.vm) (hS : va_S A s.heap H locs) (hU : U.heap = H) (h : mv_Sts A ad sta stn s) : mv_Sts A ad sta stn U := by
  intro t q hq
  obtain ⟨h1, h2⟩ := h t q hq
  rw [hU]
  exact ⟨(h1.moved hvm).kept (fun a ha hn => hS.2.1 a ha hn), (h2.moved hvm).kept (fun a ha hn => hS.2.1 a ha hn)⟩
theorem mv_Pre_blind (hN : ∀ w ∈ Nw, (∃ a i b n d h, w = Jvm.Cond.fieldLinkNest a i b n d h) ∨ ∃ a i x h, w = Jvm.Cond.methodLinkNest a i x h) (as : List Value) : FrameBlind (mv_Pre A D cl kd cA ad Nw sta stn as S) := by
  intro a U g mk h
  obtain ⟨h0, h1, h2, h3, h4, h5, h6, h7⟩ := h
  refine ⟨h0, fun w hw => ?_, va_K.moved (u := U) (U := U.calling g mk a) (Vm.Alike.refl U.vm) h2, fun t q hq => ?_, h4, h5, h6, h7⟩
  · rcases hN w hw with ⟨a, i, b, n, d, h', rfl⟩ | ⟨a, i, x, h', rfl⟩
    · exact va_Nw.same rfl rfl (h1 _ hw)
    · exact va_Nw.same rfl rfl (h1 _ hw)
  · obtain ⟨g1, g2⟩ := h3 t q hq
    exact ⟨va_Z.moved (u := U) (U := U.calling g mk a) (Vm.Alike.refl U.vm) g1, va_T.moved (u := U) (U := U.calling g mk a) (Vm.Alike.refl U.vm) g2⟩
/-- a call -/
theorem mv_call_ok (Y : mv_Sy cl kd Ts Nw prog sta stn) (X : mv_Cx p s m args meth cod A D cl cA ad Ts Nw sta stn M) (hH1 : va_P D cl (mv_ws kd cA ad S) H) (hH2 : va_D A (mv_ws kd cA ad S)) (hH3 : va_S A s.heap H locs) (hH5 : ∀ k, S.1.length ≤ k → k < 100000 → ad k + S.1.length = H.size + k) (hl : ls.size = (mv_ml M)) (hR : mv_fr M ≤ R.frames ∧ mv_lo M ≤ R.locals) {i : ClassFile.Instr} {n a b c d : Nat} {Mj : mv_Me} {as : List Value} {Q' : Option Value → mv_S → Prop}
    (hd : decode (mv_cc M) pc = .ok (i, n)) (hrw : mv_Rw cl kd Ts Nw prog stn M i n a b c d) (hj : prog[a]? = some Mj) (hb : as.length = b) (hc : mv_isCall i c d S as = true) (hcat : (r.map fun v => v.category).sum ≤ 8) (hc1 : cells + (mv_mc Mj) ≤ R.cells) (hc2 : slots + (mv_ms Mj) ≤ R.slots)
    (hM : Met l Mj.1 (Jvm.Cond.code Mj.1 (mv_cc Mj) (mv_ml Mj) (mv_rt Mj) :: Ts) (mv_Rm Mj) (mv_Pre A D cl kd cA ad Nw sta stn as S) (mv_Pst A D cl kd cA ad (mv_mc Mj) Q') (mv_mc Mj) (mv_ms Mj) A)
    (kk : ∀ (v : Option Value) (S' : mv_S) (H1 : Heap) (locs1 : List Loc), Q' v S' → va_P D cl (mv_ws kd cA ad S') H1 → va_D A (mv_ws kd cA ad S') → va_S A s.heap H1 locs1 → H1.size = H.size + mv_mc Mj → (∀ k, S'.1.length ≤ k → k < 100000 → ad k + S'.1.length = H1.size + k) → W p l e R s m args below meth cod H1 locs1 (cells + (mv_mc Mj)) (slots + (mv_ms Mj)) Qz (F0 m (pc + 3) ls ((v.toList ++ r).map (mv_tr ad)))) :
    W p l e R s m args below meth cod H locs cells slots Qz (F0 m pc ls ((as.reverse ++ r).map (mv_tr ad))) := by
  obtain ⟨hx, hcb, hml, hown, hts, hnw, hK, hA, -, -, -, hsts⟩ := id X
  obtain ⟨Y1, Y2, Y3, Y4, -⟩ := Y
  obtain ⟨j1, j2, j3, j4, j5, j6, -⟩ := Y4 a Mj hj
  have hG : GoodIn Ts (Jvm.Cond.code Mj.1 (mv_cc Mj) (mv_ml Mj) (mv_rt Mj) :: Ts) := fun w hw => by
    rcases List.mem_cons.mp hw with rfl | hw
    · exact ⟨j3, Y2 _ j3⟩
    · exact ⟨hw, Y2 _ hw⟩
  have hfit : mv_rm M Mj → (mv_Rm Mj).frames + 1 ≤ R.frames ∧ 8 + ((mv_ml Mj) + 11) + (mv_Rm Mj).locals ≤ R.locals := fun h => ⟨Nat.le_trans h.1 hR.1, Nat.le_trans h.2 hR.2⟩
  have hpre : ∀ U : State, U.heap = H → s.WarmedH U.vm → mv_Pre A D cl kd cA ad Nw sta stn as S (as.map (mv_tr ad)).toArray U := fun U hU hW =>
    ⟨rfl, mv_Nw_warm Y3 hW hnw, va_K.moved hW.alike hK, mv_Sts_go hW.alike hH3 hU hsts, fun q hq => hA q (Nat.le_trans hH3.1 (by rw [← hU]; exact hq)), by rw [hU]; exact hH1, hH2, by rw [hU]; exact hH5⟩
  have hroom : (((r.map (mv_tr ad))).map fun v => v.category).sum ≤ 8 := by rw [mv_tr_sum]; exact hcat
  have fin : ∀ (v : Option Value) (st0 t : State) (H1 : Heap) (L : List Loc), st0.heap = H → t.heap = H1 → mv_Pst A D cl kd cA ad (mv_mc Mj) Q' (as.map (mv_tr ad)).toArray st0 (.returned v) t → (∀ q ∈ L, A q.base) → W p l e R s m args below meth cod H1 (locs ++ L) (cells + (mv_mc Mj)) (slots + (mv_ms Mj)) Qz (F0 m (pc + 3) ls (v.toList ++ r.map (mv_tr ad))) := by
    intro v st0 t H1 L h0 h1 hq hL
    obtain ⟨v', S', g1, g2, g3, g4, g5, g6, g7⟩ := hq
    cases g2
    rw [h1] at g3 g6 g7
    rw [h0] at g6
    have hF : va_S A H H1 (locs ++ L) := by
      obtain ⟨f1, f2⟩ := g5
      rw [h0, h1] at f1
      refine ⟨f1, fun q q1 q2 => ?_, fun q hq => ?_⟩
      · have := f2 q (by rw [h0]; exact q1) q2
        rw [h0, h1] at this
        exact this
      · rcases List.mem_append.mp hq with h | h
        · exact hH3.2.2 q h
        · exact hL q h
    have key := kk v' S' H1 (locs ++ L) g1 g3 g4 (mv_S_trans hH3 hF) g6 g7
    have e9 : ((v'.toList ++ r).map (mv_tr ad)) = (v'.map (mv_tr ad)).toList ++ r.map (mv_tr ad) := by
      cases v' <;> simp
    rw [e9] at key
    exact key
  rw [List.map_append, List.map_reverse]
  cases i
  case invokevirtual idx =>
    obtain ⟨rfl, hrw⟩ := hrw
    match c, as, hc with
    | 0, .ref k :: As, hc =>
      obtain ⟨Mk, np, T, N, g1, g9, g2, g3, g4, g5, g6, g7⟩ := hrw rfl
      cases Option.some.inj (g1.symm.trans hj)
      have hk : S.1[k]? = some (.inr d) := by
        unfold mv_isCall at hc
        simp only at hc
        split at hc
        · rename_i ci hci
          rw [hci, Nat.eq_of_beq_eq_true hc]
        · cases hc
      have hn : (As.map (mv_tr ad)).length = np := by
        rw [List.length_map]
        simp only [List.length_cons] at hb
        omega
      have hrec := va_recv hK hH1 g4 (mv_ws_get hk)
      have hst : (F0 m pc ls ((Value.ref k :: As).map (mv_tr ad)).reverse).stack = _ := rfl
      rcases g5 with g5 | ⟨h, g5⟩
      · refine mv_callx (va_runV (As := As.map (mv_tr ad)) (rest := r.map (mv_tr ad)) (b := ad k) ⟨hx, hcb, hml, hown, hts⟩ hM ⟨callB_of np hts hG rfl rfl rfl (hts _ j4) (hts _ g5) ⟨j5, j6, g3⟩ (hfit g9), hts _ g6, hts _ g7⟩ ⟨mv_Pre_blind Y3 _, hrec, hpre⟩ rfl hn hl (by simp [mv_tr]) (lv_room hroom) hd ⟨hc1, hc2⟩) fin
      · refine mv_callx (va_runVN (As := As.map (mv_tr ad)) (rest := r.map (mv_tr ad)) (b := ad k) ⟨hx, hcb, hml, hown, hts⟩ hM ⟨va_cnB np hts hG rfl rfl rfl (hnw _ g5) (hts _ j4) ⟨j5, j6, g3⟩ (hfit g9), hts _ g6, hts _ g7⟩ ⟨mv_Pre_blind Y3 _, hrec, hpre⟩ rfl hn hl (by simp [mv_tr]) (lv_room hroom) hd ⟨hc1, hc2⟩) fin
  case invokestatic idx =>
    obtain ⟨rfl, -, -, hrw⟩ := hrw
    match c, hc with
    | 1, hc =>
      obtain ⟨Mk, g1, g9, g3, g5, g6⟩ := hrw rfl
      cases Option.some.inj (g1.symm.trans hj)
      have hn : (as.map (mv_tr ad)).length = b := by rw [List.length_map]; exact hb
      rcases g5 with g5 | ⟨h, g5⟩
      · exact mv_callx (va_runS (As := as.map (mv_tr ad)) (rest := r.map (mv_tr ad)) ⟨hx, hcb, hml, hown, hts⟩ hM ⟨callB_of b hts hG rfl rfl rfl (hts _ j4) (hts _ g5) ⟨j5, j6, g3⟩ (hfit g9), hts _ g6⟩ ⟨mv_Pre_blind Y3 _, hpre⟩ rfl hn hl rfl (lv_room hroom) hd ⟨hc1, hc2⟩) fin
      · exact mv_callx (va_runSN (As := as.map (mv_tr ad)) (rest := r.map (mv_tr ad)) ⟨hx, hcb, hml, hown, hts⟩ hM ⟨va_cnB b hts hG rfl rfl rfl (hnw _ g5) (hts _ j4) ⟨j5, j6, g3⟩ (hfit g9), hts _ g6, trivial⟩ ⟨mv_Pre_blind Y3 _, hpre⟩ rfl hn hl rfl (lv_room hroom) hd ⟨hc1, hc2⟩) fin
  case invokespecial idx =>
    obtain ⟨rfl, -, hrw⟩ := hrw
    match c, as, hc with
    | 2, .ref k :: As, hc =>
      obtain ⟨Mk, np, g1, g9, g0, g2, g3, g5, g6, g7⟩ := hrw rfl
      cases Option.some.inj (g1.symm.trans hj)
      have hn : (As.map (mv_tr ad)).length = np := by
        rw [List.length_map]
        simp only [List.length_cons] at hb
        omega
      rw [g0] at hM hG
      rcases g5 with g5 | ⟨h, g5⟩
      · exact mv_callx (va_runI (As := As.map (mv_tr ad)) (rest := r.map (mv_tr ad)) (b := ad k) ⟨hx, hcb, hml, hown, hts⟩ hM ⟨callB_of np hts hG rfl rfl rfl (hts _ j4) (hts _ g5) ⟨j5, j6, g3⟩ (hfit g9), g6, hts _ g7⟩ ⟨mv_Pre_blind Y3 _, hpre⟩ rfl hn hl (by simp [mv_tr]) (lv_room hroom) hd ⟨hc1, hc2⟩) fin
      · exact mv_callx (va_runIN (As := As.map (mv_tr ad)) (rest := r.map (mv_tr ad)) (b := ad k) ⟨hx, hcb, hml, hown, hts⟩ hM ⟨va_cnB np hts hG rfl rfl rfl (hnw _ g5) (hts _ j4) ⟨j5, j6, g3⟩ (hfit g9), g6, hts _ g7⟩ ⟨mv_Pre_blind Y3 _, hpre⟩ rfl hn hl (by simp [mv_tr]) (lv_room hroom) hd ⟨hc1, hc2⟩) fin
  all_goals (exact absurd hc (by simp [mv_isCall]))
end MVT
end
section
/-! One step, and a method from its entry to its answer. -/
def mv_W (p : Program) (l : Launch) (e : Env) (R : Room) (s : State) (m : MethodId) (args : Array Value) (below : List Frame) (meth : Method) (cod : Code) (A : Nat → Prop) (D : va_G) (cl : List vw_C) (kd : List (List Nat)) (cA : Nat → ClassId) (ad : Nat → Nat) (nL : Nat) (Qz : State → Prop) (F : mv_F) : Prop :=
  ∀ (H : Heap) (locs : List Loc) (ls : Array Slot), mv_Hc A D cl kd cA ad s F.2.2.2.2.2 F.2.2.2.1 H locs → mv_Lc ad ls nL F.2.1 → F.2.2.2.1 ≤ R.cells ∧ F.2.2.2.2.1 ≤ R.slots → W p l e R s m args below meth cod H locs F.2.2.2.1 F.2.2.2.2.1 Qz (F0 m F.1 ls (F.2.2.1.map (mv_tr ad)))
section MVU
variable {p : Program} {l : Launch} {e : Env} {R : Room} {s : State} {m : MethodId} {args : Array Value} {below : List Frame} {meth : Method} {cod : Code} {H : Heap} {locs : List Loc} {cells slots : Nat} {Qz : State → Prop}
variable {pc : Nat} {ls : Array Slot} {ad : Nat → Nat} {A : Nat → Prop} {D : va_G} {cl : List vw_C} {kd : List (List Nat)} {cA : Nat → ClassId} {Ts Nw : List Jvm.Cond} {sta : Nat → List Int32} {stn : List (String × String × String)} {prog : List mv_Me} {M : mv_Me} {S S' : mv_S} {st st' r : List Value}
set_option maxHeartbeats 4000000 in
theorem mv_pure_len {i : ClassFile.Instr} {n a b c d : Nat} (h : mv_pure i st = some st') (hr : mv_Rw cl kd Ts Nw prog stn M i n a b c d) : n = mv_len i := by
  cases i
  all_goals first
    | exact hr
    | exact absurd h (by simp [mv_pure])
set_option maxHeartbeats 4000000 in
theorem mv_loc_len {i : ClassFile.Instr} {lc lc' : mv_L} {n a b c d : Nat} (h : mv_loc i lc st = some (lc', st')) (hr : mv_Rw cl kd Ts Nw prog stn M i n a b c d) : n = mv_len i := by
  cases i
  all_goals first
    | exact hr
    | exact absurd h (by simp [mv_loc])
set_option maxHeartbeats 4000000 in
theorem mv_heap_ok (Y : mv_Sy cl kd Ts Nw prog sta stn) (X : mv_Cx p s m args meth cod A D cl cA ad Ts Nw sta stn M) (hH : mv_Hc A D cl kd cA ad s S cells H locs) (hl : ls.size = (mv_ml M)) (hR : mv_fr M ≤ R.frames ∧ mv_lo M ≤ R.locals) (hRc : mv_mc M ≤ R.cells ∧ mv_ms M ≤ R.slots) (hcs : cells ≤ R.cells ∧ slots ≤ R.slots) {i : ClassFile.Instr} {n a b c d : Nat} {vc' vs' : Nat}
    (hd : decode (mv_cc M) pc = .ok (i, n)) (hrw : mv_Rw cl kd Ts Nw prog stn M i n a b c d) (h : mv_heap sta (mv_mc M) (mv_ms M) i a b c st cells slots S = some (st', vc', vs', S'))
    (kk : ∀ (H1 : Heap) (locs1 : List Loc), mv_Hc A D cl kd cA ad s S' vc' H1 locs1 → vc' ≤ R.cells ∧ vs' ≤ R.slots → W p l e R s m args below meth cod H1 locs1 vc' vs' Qz (F0 m (pc + mv_len i) ls (st'.map (mv_tr ad)))) : W p l e R s m args below meth cod H locs cells slots Qz (F0 m pc ls (st.map (mv_tr ad))) := by
  obtain ⟨hx, hb, hml, hown, hts, hnw, hK, hA, -, -, -, hsts⟩ := id X
  obtain ⟨Y1, -, -, -, Yst⟩ := Y
  cases i
  case getfield idx =>
    obtain ⟨rfl, C, T, N, h1, h2, h3⟩ := hrw
    unfold mv_heap at h
    simp only at h
    split at h
    · split at h
      · rename_i k r ci hk
        obtain ⟨h4, h5⟩ := mv_bif h
        cases h5
        rw [Nat.eq_of_beq_eq_true h4] at hk
        exact mv_get_ok X Y1 hH hd h1 h2 h3 hk (kk H locs hH hcs)
      · cases h
    · cases h
  case putfield idx =>
    obtain ⟨rfl, C, T, N, h1, h2, h3⟩ := hrw
    unfold mv_heap at h
    simp only at h
    split at h
    · split at h
      · rename_i v k r ci hk
        cases hb4 : Nat.beq ci a with
        | false => rw [hb4] at h; cases h
        | true =>
          rw [hb4] at h
          simp only [cond_true] at h
          split at h
          · rename_i S1 hp
            cases h
            rw [Nat.eq_of_beq_eq_true hb4] at hk
            exact mv_put_ok X Y1 hH hd h1 h2 h3 hk hp (fun H1 l1 q => kk H1 l1 q hcs)
          · cases h
      · cases h
    · cases h
  case arraylength =>
    have hn : n = 1 := hrw
    subst hn
    unfold mv_heap at h
    simp only at h
    split at h
    · split at h
      · rename_i k r t q hk
        obtain ⟨h4, h5⟩ := mv_bif h
        cases h5
        exact mv_alen_ok X hH hd (Nat.le_of_ble_eq_true h4) hk (kk H locs hH hcs)
      · cases h
      · rename_i k r x hk
        obtain ⟨h4, h5⟩ := mv_bif h
        cases h5
        rw [Bool.and_eq_true] at h4
        have h1 : 100000 ≤ k := Nat.le_of_ble_eq_true h4.1
        have h2 : 1 ≤ (sta (k - 100000)).length := Nat.le_of_ble_eq_true h4.2
        rcases Yst k h1 with h3 | ⟨q, h3⟩
        · omega
        · have hT := (hsts _ _ h3).2
          have ek : 100000 + (k - 100000) = k := Nat.add_sub_of_le h1
          rw [ek] at hT
          exact va_tlen hx hb hT hH.2.2.1 rfl hd (kk H locs hH hcs)
    · cases h
  case new idx =>
    obtain ⟨rfl, C, T, h1, h2, h3, h4⟩ := hrw
    unfold mv_heap at h
    simp only at h
    obtain ⟨h5, h6⟩ := mv_bif h
    cases h6
    simp only [Bool.and_eq_true] at h5
    exact mv_new_ok X Y1 hH hd h1 h2 h3 h4 (Nat.le_of_ble_eq_true h5.2.2) (Nat.le_trans (Nat.le_of_ble_eq_true h5.1) hRc.1) (Nat.le_trans (Nat.le_of_ble_eq_true h5.2.1) hRc.2) (fun H1 q => kk H1 locs q ⟨Nat.le_trans (Nat.le_of_ble_eq_true h5.1) hRc.1, Nat.le_trans (Nat.le_of_ble_eq_true h5.2.1) hRc.2⟩)
  case newarray t =>
    obtain ⟨rfl, h1, h2, h3⟩ := hrw
    unfold mv_heap at h
    simp only at h
    split at h
    · obtain ⟨h5, h6⟩ := mv_bif h
      cases h6
      simp only [Bool.and_eq_true, decide_eq_true_eq] at h5
      exact mv_newa_ok X hH hd h1 h2 h3 (Nat.le_of_ble_eq_true h5.2.2.1) h5.2.2.2.2 (Nat.le_of_ble_eq_true h5.2.2.2.1) (Nat.le_trans (Nat.le_of_ble_eq_true h5.1) hRc.1) (Nat.le_trans (Nat.le_of_ble_eq_true h5.2.1) hRc.2) (fun H1 q => kk H1 locs q ⟨Nat.le_trans (Nat.le_of_ble_eq_true h5.1) hRc.1, Nat.le_trans (Nat.le_of_ble_eq_true h5.2.1) hRc.2⟩)
    · cases h
  case ldc idx =>
    obtain ⟨rfl, h1⟩ := hrw
    cases h
    exact lv_ldc hx hb hown (hts _ h1) hd (kk H locs hH hcs)
  case ldc_w idx =>
    obtain ⟨rfl, h1⟩ := hrw
    cases h
    exact lv_ldcw hx hb hown (hts _ h1) hd (kk H locs hH hcs)
  case ldc2_w idx =>
    obtain ⟨rfl, h1⟩ := hrw
    cases h
    exact lv_ldc2 hx hb hown (hts _ h1) hd (kk H locs hH hcs)
  case getstatic idx =>
    obtain ⟨rfl, q, h1, h2⟩ := hrw
    cases h
    exact va_gets hx hb (hsts a q h1).1 hH.2.2.1 hown (hts _ h2) (fun _ h9 => h9) hd (kk H locs hH hcs)
  case invokespecial idx =>
    obtain ⟨rfl, h1, -⟩ := hrw
    unfold mv_heap at h
    simp only at h
    split at h
    · split at h
      · rename_i k r
        obtain ⟨h4, h5⟩ := mv_bif h
        cases h5
        obtain ⟨r1, r2, g1, g2, g3⟩ := h1 rfl
        have h4 : (st'.map fun v => v.category).sum ≤ 8 := Nat.le_of_ble_eq_true h4
        exact W.objInit hx hb hown (hts _ g1) (hts _ g2) (hts _ g3) rfl (by rw [hml]; exact hl) rfl hd (Nat.le_trans r1 hR.1) (by show 2 * 0 + ((st'.map (mv_tr ad)).map fun v => v.category).sum + 12 ≤ R.locals; rw [mv_tr_sum]; have := hR.2; omega) (kk H locs hH hcs)
      · cases h
    · cases h
  case invokestatic idx =>
    obtain ⟨rfl, h1, h2, -⟩ := hrw
    unfold mv_heap at h
    simp only at h
    split at h
    · rename_i y x r
      obtain ⟨h4, h5⟩ := mv_bif h
      cases h5
      obtain ⟨r1, r2, g1, g2, g3, g4⟩ := h1 rfl
      have h4 : (r.map fun v => v.category).sum ≤ 8 := Nat.le_of_ble_eq_true h4
      exact va_mmax hx hb (by rw [hml, hl]) hown (hts _ g1) (hts _ g2) (hts _ g3) (hts _ g4) (Nat.le_trans r1 hR.1) (by rw [mv_tr_sum]; have := hR.2; omega) hcs.1 hcs.2 hd (kk H locs hH hcs)
    · rename_i y x r
      obtain ⟨h4, h5⟩ := mv_bif h
      cases h5
      obtain ⟨r1, r2, g1, g2, g3, g4⟩ := h2 rfl
      have h4 : (r.map fun v => v.category).sum ≤ 8 := Nat.le_of_ble_eq_true h4
      exact va_mmin hx hb (by rw [hml, hl]) hown (hts _ g1) (hts _ g2) (hts _ g3) (hts _ g4) (Nat.le_trans r1 hR.1) (by rw [mv_tr_sum]; have := hR.2; omega) hcs.1 hcs.2 hd (kk H locs hH hcs)
    · cases h
  all_goals (exact absurd h (by simp [mv_heap]))
set_option maxHeartbeats 4000000 in
theorem mv_one_ok (Y : mv_Sy cl kd Ts Nw prog sta stn) (X : mv_Cx p s m args meth cod A D cl cA ad Ts Nw sta stn M) (hMk : mv_Ro cl kd Ts Nw prog stn M) (hR : mv_fr M ≤ R.frames ∧ mv_lo M ≤ R.locals) (hRc : mv_mc M ≤ R.cells ∧ mv_ms M ≤ R.slots) {F F' : mv_F} (h : mv_one sta M F = some F') (k : mv_W p l e R s m args below meth cod A D cl kd cA ad (mv_ml M) Qz F') : mv_W p l e R s m args below meth cod A D cl kd cA ad (mv_ml M) Qz F := by
  obtain ⟨pc, lc, st, vc, vs, S⟩ := F
  intro H locs ls hH hL hcs
  obtain ⟨hx, hb, hml, -⟩ := id X
  unfold mv_one at h
  simp only at h
  split at h
  · cases h
  · rename_i i n a b c d hat
    obtain ⟨hd, hrw⟩ := hMk _ (mv_at_mem hat)
    simp only at hd hrw
    split at h
    · rename_i st1 hp
      cases h
      rw [mv_pure_len hp hrw] at hd
      exact mv_pure_ok hx hb hd hp (k H locs ls hH hL hcs)
    · split at h
      · rename_i lc1 st1 hp
        cases h
        rw [mv_loc_len hp hrw] at hd
        exact mv_loc_ok hx hb hd hp hL (fun ls' hL' => k H locs ls' hH hL' hcs)
      · split at h
        · rename_i st1 vc1 vs1 S1 hp
          cases h
          exact mv_heap_ok Y X hH hL.1.1 hR hRc hcs hd hrw hp (fun H1 locs1 q hq => k H1 locs1 ls q hL hq)
        · split at h
          · rename_i off
            have hn : n = 3 := hrw
            subst hn
            split at h
            · rename_i t ht
              cases h
              exact lv_goto hx hb hd ht (k H locs ls hH hL hcs)
            · cases h
          · cases h
set_option maxHeartbeats 4000000 in
theorem mv_len_ald {i : ClassFile.Instr} {x : Int32} {k N : Nat} {v : Value} {n a b c d : Nat} (h : mv_ald sta i S k x = some (N, v)) (hr : mv_Rw cl kd Ts Nw prog stn M i n a b c d) : n = 1 := by
  unfold mv_ald at h
  split at h
  · split at h
    · exact hr
    · exact hr
    · exact hr
    · exact hr
    · cases h
  · cases h
  · split at h
    · exact hr
    · cases h
theorem mv_len_ast {i : ClassFile.Instr} {x : Int32} {k N : Nat} {v : Value} {n a b c d : Nat} (h : mv_ast i S k x v = some (N, S')) (hr : mv_Rw cl kd Ts Nw prog stn M i n a b c d) : n = 1 := by
  unfold mv_ast at h
  split at h
  · split at h
    · exact hr
    · exact hr
    · exact hr
    · exact hr
    · cases h
  · cases h
theorem mv_len_cond {i : ClassFile.Instr} {cn : Prop} {off : Int} {n a b c d : Nat} (h : mv_cond i st = some (cn, off, r)) (hr : mv_Rw cl kd Ts Nw prog stn M i n a b c d) : n = mv_len i := by
  unfold mv_cond at h
  split at h
  · exact hr
  · exact hr
  · cases h
theorem mv_div_ok {cc : ByteArray} (hx : p.tables.exec = Jvm.exec) (hb : cod.code = cc) {i : ClassFile.Instr} {n a b c d : Nat} {x y v : Int32} (hd : decode cc pc = .ok (i, n)) (hrw : mv_Rw cl kd Ts Nw prog stn M i n a b c d) (h : mv_div i x y = some v) (hy : ¬ y = 0)
    (k : W p l e R s m args below meth cod H locs cells slots Qz (F0 m (pc + 1) ls ((Value.int v :: r).map (mv_tr ad)))) : W p l e R s m args below meth cod H locs cells slots Qz (F0 m pc ls ((Value.int y :: Value.int x :: r).map (mv_tr ad))) := by
  unfold mv_div at h
  split at h
  · have hn : n = 1 := hrw
    subst hn
    cases h
    exact lv_idiv hx hb hd hy k
  · have hn : n = 1 := hrw
    subst hn
    cases h
    exact lv_irem hx hb hd hy k
  · cases h
/-- the end -/
theorem mv_ret_ok (X : mv_Cx p s m args meth cod A D cl cA ad Ts Nw sta stn M) (hH : mv_Hc A D cl kd cA ad s S (mv_mc M) H locs) {i : ClassFile.Instr} {n a b c d : Nat} {v : Option Value} {ok : Prop} {Q : Option Value → mv_S → Prop} (hd : decode (mv_cc M) pc = .ok (i, n)) (hrw : mv_Rw cl kd Ts Nw prog stn M i n a b c d) (h : mv_ret (mv_rt M) i st = some (v, ok)) (hok : ok) (hQ : Q v S) :
    W p l e R s m args below meth cod H locs (mv_mc M) (mv_ms M) (MQ below (mv_Pst A D cl kd cA ad (mv_mc M) Q) args s (mv_mc M) (mv_ms M) A) (F0 m pc ls (st.map (mv_tr ad))) := by
  obtain ⟨hx, hb, hml, hown, hts, hnw, hK, hA, hlk, hr, -⟩ := X
  obtain ⟨h1, h2, h3, h4, h5⟩ := hH
  have post : ∀ t : State, t.heap = H → mv_Pst A D cl kd cA ad (mv_mc M) Q args s (.returned (v.map (mv_tr ad))) t := fun t ht => ⟨v, S, hQ, rfl, by rw [ht]; exact h1, h2, va_S.F h3 ht, by rw [ht]; exact h4, by rw [ht]; exact h5⟩
  generalize hret : (mv_rt M) = rt at h hr
  unfold mv_ret at h
  split at h
  · have hn : n = 1 := hrw
    subst hn
    cases h
    exact W.vret hx hb hr (fun t ht _ => post t ht) h3.2.2 hd hlk
  · have hn : n = 1 := hrw
    subst hn
    cases h
    exact W.iret hx hb hr (fun t ht _ => post t ht) h3.2.2 hd hlk
  · have hn : n = 1 := hrw
    subst hn
    rename_i z
    cases h
    have hnar : narrow .boolean (.int z) = .int z := by
      rcases hok with rfl | rfl <;> rfl
    exact W.zret hx hb hr hnar (fun t ht _ => post t ht) h3.2.2 hd hlk
  · have hn : n = 1 := hrw
    subst hn
    cases h
    exact W.lret hx hb hr (fun t ht _ => post t ht) h3.2.2 hd hlk
  · cases h
end MVU
theorem mv_le_get : ∀ {a b : mv_L}, mv_le a b → a.length = b.length ∧ ∀ (j : Nat) (v : Value), a[j]? = some (some v) → b[j]? = some (some v)
  | [], [], _ => ⟨rfl, fun _ _ h => h⟩
  | none :: a, w :: b, h => by
    obtain ⟨h1, h2⟩ := mv_le_get (a := a) (b := b) h
    refine ⟨by simp [h1], fun j v hj => ?_⟩
    cases j with
    | zero => simp at hj
    | succ j => simpa using h2 j v (by simpa using hj)
  | some u :: a, w :: b, h => by
    obtain ⟨h1, h2⟩ := mv_le_get (a := a) (b := b) h.2
    refine ⟨by simp [h1], fun j v hj => ?_⟩
    cases j with
    | zero =>
      rw [h.1]
      exact hj
    | succ j => simpa using h2 j v (by simpa using hj)
  | [], _ :: _, h => h.elim
  | none :: _, [], h => h.elim
  | some _ :: _, [], h => h.elim
theorem mv_le_Lc {ad : Nat → Nat} {ls : Array Slot} {nL : Nat} {a b : mv_L} (h : mv_le a b) (hL : mv_Lc ad ls nL b) : mv_Lc ad ls nL a :=
  ⟨hL.1, (mv_le_get h).1.trans hL.2.1, fun j v hj => hL.2.2 j v ((mv_le_get h).2 j v hj)⟩
theorem mv_c1_not {w : Value} (hc : mv_c1 w = false) : w.category = 2 := by
  rcases lv_cat w with h2 | h2
  · have : mv_c1 w = true := by unfold mv_c1; rw [h2]; rfl
    rw [this] at hc; cases hc
  · exact h2
theorem mv_ent_has : ∀ (as : List Value) (n : Nat) (j : Nat) (v : Value), (mv_ent n as)[j]? = some (some v) → (j, v) ∈ lv_args 0 as := by
  have key : ∀ (as : List Value) (o n j : Nat) (v : Value), (mv_ent n as)[j]? = some (some v) → (o + j, v) ∈ lv_args o as := by
    intro as
    induction as with
    | nil =>
      intro o n j v h
      unfold mv_ent at h
      rw [List.getElem?_replicate] at h
      split at h <;> cases h
    | cons w as ih =>
      intro o n j v h
      unfold mv_ent at h
      unfold lv_args
      cases hc : mv_c1 w with
      | true =>
        rw [hc] at h
        have hcat : ¬ w.category = 2 := by rw [mv_c1_cat hc]; decide
        rw [if_neg hcat]
        cases j with
        | zero =>
          have e : w = v := by simpa using h
          rw [e]
          exact List.mem_cons_self
        | succ j =>
          have h' : (mv_ent (n - 1) as)[j]? = some (some v) := by simpa using h
          have := ih (o + 1) (n - 1) j v h'
          rw [show o + (j + 1) = o + 1 + j by omega]
          exact List.mem_cons_of_mem _ this
      | false =>
        rw [hc] at h
        have hcat : w.category = 2 := mv_c1_not hc
        rw [if_pos hcat]
        match j, h with
        | 0, h =>
          have e : w = v := by simpa using h
          rw [e]
          exact List.mem_cons_self
        | 1, h => simp at h
        | j + 2, h =>
          have h' : (mv_ent (n - 2) as)[j]? = some (some v) := by simpa using h
          have := ih (o + 2) (n - 2) j v h'
          rw [show o + (j + 2) = o + 2 + j by omega]
          exact List.mem_cons_of_mem _ this
  intro as n j v h
  have := key as 0 n j v h
  rwa [Nat.zero_add] at this
theorem mv_args_tr (ad : Nat → Nat) : ∀ (as : List Value) (o : Nat) (j : Nat) (v : Value), (j, v) ∈ lv_args o as → (j, mv_tr ad v) ∈ lv_args o (as.map (mv_tr ad)) := by
  intro as
  induction as with
  | nil => intro o j v h; cases h
  | cons w as ih =>
    intro o j v h
    unfold lv_args at h
    rw [List.map_cons]
    unfold lv_args
    rw [mv_tr_cat]
    rcases List.mem_cons.mp h with h | h
    · cases h
      exact List.mem_cons_self
    · exact List.mem_cons_of_mem _ (ih _ j v h)
theorem mv_sl_len (ad : Nat → Nat) : ∀ (as : List Value) (n : Nat), (lg_sl (as.map (mv_tr ad))).length ≤ (mv_ent n as).length := by
  intro as
  induction as with
  | nil => intro n; simp [lg_sl]
  | cons w as ih =>
    intro n
    have e : lg_sl ((w :: as).map (mv_tr ad)) = (if (mv_tr ad w).category = 2 then [Slot.val (mv_tr ad w), .second] else [.val (mv_tr ad w)]) ++ lg_sl (as.map (mv_tr ad)) := rfl
    rw [e, mv_tr_cat]
    unfold mv_ent
    cases hc : mv_c1 w with
    | true =>
      have hcat : ¬ w.category = 2 := by rw [mv_c1_cat hc]; decide
      rw [if_neg hcat]
      have := ih (n - 1)
      simp only [cond_true, List.length_append, List.length_cons, List.length_nil]
      omega
    | false =>
      rw [if_pos (mv_c1_not hc)]
      have := ih (n - 2)
      simp only [cond_false, List.length_append, List.length_cons, List.length_nil]
      omega
set_option maxHeartbeats 4000000 in
/-- THE SMALL MACHINE IS SOUND: a method that ends with Q there meets its contract -/
theorem mv_sound {cl : List vw_C} {kd : List (List Nat)} {Ts Nw : List Jvm.Cond} {prog : List mv_Me} {sta : Nat → List Int32} {stn : List (String × String × String)} (Y : mv_Sy cl kd Ts Nw prog sta stn) (l : Launch) (A : Nat → Prop) (D : va_G) (cA : Nat → ClassId) (ad : Nat → Nat) :
    ∀ (d i : Nat) (as : List Value) (S : mv_S) (Q : Option Value → mv_S → Prop), mv_C prog sta d i as S Q → ∀ M, prog[i]? = some M → Met l M.1 (Jvm.Cond.code M.1 (mv_cc M) (mv_ml M) (mv_rt M) :: Ts) (mv_Rm M) (mv_Pre A D cl kd cA ad Nw sta stn as S) (mv_Pst A D cl kd cA ad (mv_mc M) Q) (mv_mc M) (mv_ms M) A := by
  intro d
  induction d with
  | zero => intro i as S Q h; exact h.elim
  | succ d ih =>
    intro i as S Q h M hM
    obtain ⟨M', h1, h2, h3⟩ := h
    cases Option.some.inj (hM.symm.trans h1)
    have hMk := Y.2.2.2.1 i M hM
    refine Met.ofW (cc := (mv_cc M)) (maxL := (mv_ml M)) (ret := (mv_rt M)) hMk.1 rfl ?_
    intro p e s m args below meth c s₁ B hml hv
    obtain ⟨rfl, v1, v2, v3, v4, v5, v6, v7⟩ := hv
    have hts : ∀ w ∈ (Jvm.Cond.code M.1 (mv_cc M) (mv_ml M) (mv_rt M) :: Ts), w.before _ s = true := atoms_spec (ws := Jvm.Cond.code M.1 (mv_cc M) (mv_ml M) (mv_rt M) :: Ts) B.pre
    have hown : s.vm.findClass (mv_ow M) = some m.cls := by rw [← hMk.2.1]; exact findClass_of_methodNamed B.named
    have X : mv_Cx p s m (as.map (mv_tr ad)).toArray meth c A D cl cA ad Ts Nw sta stn M := ⟨B.exec, B.bytes, hml, hown, fun w hw => hts w (List.mem_cons_of_mem _ hw), v1, v2, v4, B.notSynchronized, B.returns, (name_of_methodNamed B.named B.method).1, v3⟩
    have hcl : mv_W p l e (mv_Rm M) s m (as.map (mv_tr ad)).toArray below meth c A D cl kd cA ad (mv_ml M) (MQ below (mv_Pst A D cl kd cA ad (mv_mc M) Q) (as.map (mv_tr ad)).toArray s (mv_mc M) (mv_ms M) A) (0, mv_ent (mv_ml M) as, [], 0, 0, S) := by
      refine h3 _ (fun F hF => ?_)
      rcases hF with ⟨F', g1, g2⟩ | ⟨lc', g1, g2⟩ | ⟨pc, lc, st, vc, vs, S, i, n, a, b, c, d', rfl, h0, hF⟩
      · exact mv_one_ok Y X hMk.2.2.2.2.2.2 ⟨Nat.le_refl _, Nat.le_refl _⟩ ⟨Nat.le_refl _, Nat.le_refl _⟩ g1 g2
      · intro H locs ls hH hL hcs
        exact g2 H locs ls hH (mv_le_Lc g1 hL) hcs
      · intro H locs ls hH hL hcs
        obtain ⟨hd, hrw⟩ := hMk.2.2.2.2.2.2 _ (mv_at_mem h0)
        simp only at hd hrw
        rcases hF with ⟨cn, off, r, tgt, g1, g2, g3, g4⟩ | ⟨x, r, off, tgt, rfl, g1, g2, g3⟩ | ⟨x, k, r, N, v, rfl, g1, g2, g3⟩ | ⟨v, x, k, r, N, S', rfl, g1, g2, g3⟩ | ⟨Mj, as', r, Q', g1, rfl, g3, g4, g5, g6, g7, g8, g9⟩ | ⟨v, ok, g1, g2, g3, g4, g5⟩ | ⟨x, y, r, v, rfl, g1, g2, g3⟩
        · rw [mv_len_cond g1 hrw] at hd
          exact mv_cond_ok X.1 X.2.1 hd g1 g2 (fun z => g3 z H locs ls hH hL hcs) (fun z => g4 z H locs ls hH hL hcs)
        · exact mv_sw_ok X.1 X.2.1 hd g1 g2 (g3 H locs ls hH hL hcs)
        · exact mv_ald_ok X hH Y.2.2.2.2 hd (mv_len_ald g1 hrw) g1 g2 (g3 H locs ls hH hL hcs)
        · exact mv_ast_ok X hH hd (mv_len_ast g1 hrw) g1 g2 (fun H1 locs1 q => g3 H1 locs1 ls q hL hcs)
        · exact mv_call_ok Y X hH.1 hH.2.1 hH.2.2.1 hH.2.2.2.2 hL.1.1 ⟨Nat.le_refl _, Nat.le_refl _⟩ hd hrw g1 g3 g4 g5 g6 g7 (ih a as' S Q' g8 Mj g1) (fun v S' H1 locs1 q1 q2 q3 q4 q5 q6 => g9 v S' q1 H1 locs1 ls ⟨q2, q3, q4, by have h8 : H.size = s.heap.size + vc := hH.2.2.2.1; show H1.size = s.heap.size + (vc + mv_mc Mj); omega, q6⟩ hL ⟨g6, g7⟩)
        · have g2 : vc = (mv_mc M) := g2
          subst g2
          refine W.widen (Nat.le_refl _) g3 ?_
          exact mv_ret_ok X hH hd hrw g1 g4 g5
        · exact mv_div_ok X.1 X.2.1 hd hrw g2 g1 (g3 H locs ls hH hL hcs)
    have hl := lv_entry (as.map (mv_tr ad)) (n := (mv_ml M)) (by have := mv_sl_len ad as (mv_ml M); rw [h2] at this; exact this)
    rw [lg_entry_eq]
    refine hcl s.heap [] _ ⟨v5, v6, va_S.rf, rfl, v7⟩ ⟨⟨hl.1, hl.2.1, fun q hq => by cases hq⟩, h2, fun j v hj => ?_⟩ ⟨Nat.zero_le _, Nat.zero_le _⟩
    exact hl.2.2 _ (mv_args_tr ad as 0 j v (mv_ent_has as (mv_ml M) j v hj))
end
section
/-! A 'throw new' of a class whose constructor passes the message on by any of its links (IllegalArgumentException by 7, NoSuchElementException by 13), without stack traces. -/
/-- the words of the thrown class itself -/
def mv_Xtl (own : String) (ic : Nat) (X : String) : List Jvm.Cond :=
  [.methodLink own ic (Bundle.initS X), .instantiable X 6, .castable X X, .selects X Bundle.tFill0 Bundle.tFill0, .selects X Bundle.tFill Bundle.tFill,
   .lays X "java/lang/Throwable" "cause" "Ljava/lang/Throwable;", .lays X "java/lang/Throwable" "stackTrace" "[Ljava/lang/StackTraceElement;", .lays X "java/lang/Throwable" "suppressedExceptions" "Ljava/util/List;", .lays X "java/lang/Throwable" "detailMessage" "Ljava/lang/String;", .lays X "java/lang/Throwable" "backtrace" "Ljava/lang/Object;",
   .isRef (.static "java/lang/Throwable" "UNASSIGNED_STACK" "[Ljava/lang/StackTraceElement;"), .isRef (.static "java/lang/Throwable" "SUPPRESSED_SENTINEL" "Ljava/util/List;"),
   .fieldLink "java/lang/Throwable" 198 "java/lang/Throwable" "backtrace" "Ljava/lang/Object;", .lays "java/lang/Throwable" "java/lang/Throwable" "backtrace" "Ljava/lang/Object;"]
/-- all words of such a throw: Throwable's, the first link's, the further links', the class's own -/
def mv_Xat (own : String) (ic : Nat) (X : String) (ix : Nat) (rx : ByteArray) (Y : String) (r : List String) : List Jvm.Cond :=
  Bundle.throwableAtoms ++ (Bundle.throwableSAtoms ++ (Bundle.passSAtoms X Y ix rx ++ (Bundle.chainSAtoms Y r ++ mv_Xtl own ic X)))
section MVC
variable {p : Program} {l : Launch} {e : Env} {R : Room} {s : State} {m : MethodId} {args : Array Value} {below : List Frame} {meth : Method} {cod : Code} {T : State} {cells slots : Nat}
set_option maxHeartbeats 2000000 in
theorem mv_ctor (X : Stand p l e R s m args below meth cod T [] cells slots) (hx : p.tables.exec = Jvm.exec) (htr : e.platform.stackTraces = false) {own cls Y : String} {r : List String} {ic ix : Nat} {rx : ByteArray}
    (hown : s.vm.findClass own = some m.cls) (hcls : Bundle.fit cls = true) (hY : Bundle.fit Y = true) (hr : ∀ n ∈ r, Bundle.fit n = true)
    (x0 : decode rx 0 = .ok (.aload_n 0, 1)) (x1 : decode rx 1 = .ok (.aload_n 1, 1)) (x2 : decode rx 2 = .ok (.invokespecial ix, 3)) (x5 : decode rx 5 = .ok (.return_, 1))
    (h : ∀ w ∈ mv_Xat own ic cls ix rx Y r, w.before args s = true)
    {a : Addr} {cX : ClassId} {kX : Class} (hfX : s.vm.findClass cls = some cX) (hkX : s.vm.classes[cX]? = some kX) (hcell : T.heap[a]? = some (freshCell cX kX)) (hnew : s.heap.size ≤ a) {msg : Value} (hmsg : msg.isRef = true)
    {pc : Nat} {ls : Array Slot} (hsize : ls.size = cod.maxLocals) (d6 : decode cod.code pc = .ok (.invokespecial ic, 3)) (d9 : decode cod.code (pc + 3) = .ok (.athrow, 1)) (hout : ∀ q ∈ cod.exceptionTable.toList, covers q (pc + 3) = false)
    (hRf : r.length + 4 < R.frames) (hRl : 13 * (r.length + 2) + 43 ≤ R.locals) (hlocks : meth.locks = false) :
    ∃ (U : State) (ce : Cell), Steps p.tables e below (T.setTop (F0 m pc ls [msg, .ref a, .ref a])) U ∧ U.status = .running ∧ Ended U below (.threw a) ∧ s.WarmedH U.vm ∧ s.sameButNew ({ U with vm := s.vm } : State) [] cells slots ∧
      U.heap[a]? = some ce ∧ s.vm.findClass cls = some ce.cls ∧ s.vm.assignable ce.cls ce.cls = true ∧ ce.vm = .none := by
  have hpl : e.platform.magicAccessors = ({} : Platform).magicAccessors := by rw [X.admits.platform]
  have m1 : ∀ w ∈ Bundle.throwableAtoms, w.before args s = true := fun w hw => h w (List.mem_append_left _ hw)
  have m2 : ∀ w ∈ Bundle.throwableSAtoms, w.before args s = true := fun w hw => h w (List.mem_append_right _ (List.mem_append_left _ hw))
  have m3 : ∀ w ∈ Bundle.passSAtoms cls Y ix rx, w.before args s = true := fun w hw => h w (List.mem_append_right _ (List.mem_append_right _ (List.mem_append_left _ hw)))
  have m4 : ∀ w ∈ Bundle.chainSAtoms Y r, w.before args s = true := fun w hw => h w (List.mem_append_right _ (List.mem_append_right _ (List.mem_append_right _ (List.mem_append_left _ hw))))
  have m5 : ∀ w ∈ mv_Xtl own ic cls, w.before args s = true := fun w hw => h w (List.mem_append_right _ (List.mem_append_right _ (List.mem_append_right _ (List.mem_append_right _ hw))))
  obtain ⟨TC, Z0, L, -, Ti⟩ := ThrowableC.of_atoms (args := args) (pl := e.platform) (by rw [X.admits.platform]) (by rw [X.admits.platform]) hpl m1
  obtain ⟨Z, M, LZ, LM, hnZ⟩ := Init0T.ofS_atoms (args := args) hpl L Ti m2
  obtain ⟨P1, L1, hP1, hsup⟩ := PassC.ofS_atoms (args := args) (s := s) hpl (X := cls) (Y := Y) (Bundle.fit_spec hcls).1 (Bundle.fit_spec hY).2 x0 x1 x2 x5 m3
  obtain ⟨P2, Ps, hlen, L2, hLs, hP2, hk2, hpass⟩ := Bundle.chainS (args := args) hpl hnZ r Y hY hr m4
  have e12 : P1.sup = P2.m := Option.some.inj (hsup.symm.trans hP2)
  have hfd : s.vm.findClass cls = some P1.m.cls := findClass_of_methodNamed hP1
  cases Option.some.inj (hfX.symm.trans hfd)
  obtain ⟨c1, k1, hc1, hk, hord, -, -, -⟩ := Cond.instantiable_spec (m5 (.instantiable cls 6) (by simp [mv_Xtl]))
  cases Option.some.inj (hc1.symm.trans hfd)
  cases Option.some.inj (hkX.symm.trans hk)
  have sel : ∀ (y : MethodName) (f : MethodId), s.methodNamed? y = some f → (y.cls ≠ "java/lang/invoke/MethodHandle" ∧ y.cls ≠ "java/lang/invoke/VarHandle") → (Jvm.Cond.selects cls y y).before args s = true → selectMethod e.platform s.vm P1.m.cls f = .method f := by
    intro y f hf hy hs
    obtain ⟨c2, r2, f2, q1, q2, q3, q4, -⟩ := Cond.selects_spec hs
    cases Option.some.inj (q1.symm.trans hfd)
    cases Option.some.inj (q2.symm.trans (State.methodFound?_of_named hf hy))
    cases Option.some.inj (q3.symm.trans hf)
    rw [Launch.admits_selectMethod X.admits]
    exact q4
  have sel0 := sel Bundle.tFill0 TC.fill0 Ti.fill0 (by decide) (m5 _ (by simp [mv_Xtl]))
  have selF := sel Bundle.tFill TC.fill Ti.fill (by decide) (m5 _ (by simp [mv_Xtl]))
  obtain ⟨cS, hcS, hisS⟩ := Ti.statics
  obtain ⟨u0, hu0⟩ := Cond.staticRefV Ti.unassigned L.unassignedStatic L.statics hcS hisS (m5 (.isRef (.static "java/lang/Throwable" "UNASSIGNED_STACK" "[Ljava/lang/StackTraceElement;")) (by simp [mv_Xtl]))
  obtain ⟨u1, hu1⟩ := Cond.staticRefV Ti.sentinel L.sentinelStatic L.statics hcS hisS (m5 (.isRef (.static "java/lang/Throwable" "SUPPRESSED_SENTINEL" "Ljava/util/List;")) (by simp [mv_Xtl]))
  obtain ⟨ci, ii, fB, b1, b2, b3, b4, -, hnB, htB, hfB⟩ := Cond.ownField (t := .object "java/lang/Object") Ti.found L.cls (by decide +kernel) (m5 (.fieldLink "java/lang/Throwable" 198 "java/lang/Throwable" "backtrace" "Ljava/lang/Object;") (by simp [mv_Xtl])) (m5 (.lays "java/lang/Throwable" "java/lang/Throwable" "backtrace" "Ljava/lang/Object;") (by simp [mv_Xtl])) e.platform hpl
  obtain ⟨cW, hcW, heW, -, hkeep⟩ := X.same.2.2.2.2.2 TC.aS cS hcS
  have hcW' : T.heap[TC.aS]? = some cW := hcW
  have hkp : ∀ i : Nat, cW.slots[i]? = cS.slots[i]? := fun i => hkeep i (by simp)
  have hknW : cW.vm ≠ .unknown := by
    rw [heW]
    intro hu
    have hu' : cS.vm = .unknown := hu
    rw [hu'] at hisS
    cases hisS
  have hneS : TC.aS ≠ a := Nat.ne_of_lt (Nat.lt_of_lt_of_le (Array.getElem?_eq_some_iff.mp hcS).1 hnew)
  obtain ⟨iM, hfM⟩ := Ti.msg
  obtain ⟨tC, dC, gC, nC⟩ := Cond.laysAt hfd hk Ti.cause (m5 (.lays cls "java/lang/Throwable" "cause" "Ljava/lang/Throwable;") (by simp [mv_Xtl]))
  obtain ⟨tS, dS, gS, nS⟩ := Cond.laysAt hfd hk Ti.stack (m5 (.lays cls "java/lang/Throwable" "stackTrace" "[Ljava/lang/StackTraceElement;") (by simp [mv_Xtl]))
  obtain ⟨tP, dP, gP, nP⟩ := Cond.laysAt hfd hk Ti.supp (m5 (.lays cls "java/lang/Throwable" "suppressedExceptions" "Ljava/util/List;") (by simp [mv_Xtl]))
  obtain ⟨tM, dM, gM, nM⟩ := Cond.laysAt hfd hk hfM (m5 (.lays cls "java/lang/Throwable" "detailMessage" "Ljava/lang/String;") (by simp [mv_Xtl]))
  obtain ⟨tB, dB, gB, nB⟩ := Cond.laysAt hfd hk hfB (m5 (.lays cls "java/lang/Throwable" "backtrace" "Ljava/lang/Object;") (by simp [mv_Xtl]))
  have sBC := Cond.laysApart gB gC nB nC (by rw [hnB, Ti.causeName]; decide)
  have sBS := Cond.laysApart gB gS nB nS (by rw [hnB, Ti.stackName]; decide)
  have sBP := Cond.laysApart gB gP nB nP (by rw [hnB, Ti.suppName]; decide)
  have hskip : SkipFacts TC e.platform s (fun u => u) u0 ((preparedCellV TC.toThrowableT (freshCell P1.m.cls kX) a u0 u1).withEntry T.cur) := by
    refine ⟨{ ci198 := ci, i198 := ii, fBack := fB }, ⟨b1, b2, b3, b4⟩, ?_, fun _ _ => rfl⟩
    have hd := fresh_default (c := P1.m.cls) tB
    rw [htB] at hd
    simpa [preparedCellV, Cell.setSlot, Cell.withEntry, Array.getElem?_setIfInBounds, sBC, sBS, sBP, sBC.symm, sBS.symm, sBP.symm, defaultValue] using hd
  obtain ⟨tm, methC, cdC, kC, vm₁, hnC, -, -, -, -, -, -, -, hW₁, st1⟩ := Steps.initColdS (tb := p.tables) (e := e) (below := below) (s := s) (U := T) X.here hx X.warmed hpl hown (t := Bundle.initS cls) rfl rfl (Bundle.fit_spec hcls).2
    (m5 (.methodLink own ic (Bundle.initS cls)) (by simp [mv_Xtl])) (m3 (.instanceMethod (Bundle.initS cls)) (by simp [Bundle.passSAtoms])) (bytes := rx) (maxL := 2) (m3 (.code (Bundle.initS cls) rx 2 none) (by simp [Bundle.passSAtoms]))
    (f := F0 m pc ls [msg, .ref a, .ref a]) rfl (a := a) (msg := msg) (rest := [.ref a]) rfl d6
  cases Option.some.inj (hnC.symm.trans hP1)
  have X₁ := X.noted hW₁
  obtain ⟨vm₂, X₂, st2⟩ := X₁.ctorMessageOffV hx (g := F0 m pc ls [.ref a]) rfl hsize TC L Z LZ M LM (P1 :: P2 :: Ps)
    (fun P hP => by
      rcases List.mem_cons.mp hP with rfl | hP
      · exact L1
      · rcases List.mem_cons.mp hP with rfl | hP
        · exact L2
        · exact hLs P hP) ⟨e12, hk2, hpass⟩ (u0 := u0) (sen := u1) (self := a) hmsg (cell := freshCell P1.m.cls kX) (cellS := cW)
    hcell (fun _ => by simp) (by simp) rfl rfl sel0 selF hcW' hneS hknW (by rw [hkp]; exact hu0) (by rw [hkp]; exact hu1)
    (Takes.of_laid hk hord tC (by rw [Ti.causeType]; rfl)) (Takes.of_laid hk hord tS (by rw [Ti.stackType]; exact fits_refV_array _ u0)) (Takes.of_laid hk hord tP (by rw [Ti.suppType]; exact fits_refV_object _ u1))
    (Takes.of_laid hk hord tM (by rw [Ti.msgType]; exact fits_refV_object _ ⟨msg, hmsg⟩)) Ti.objLocals hskip htr [] d6
    (by simp only [List.length_cons, hlen]; omega) (by
      simp only [List.length_cons, hlen]
      show 2 * 0 + 1 + _ ≤ _
      omega)
  obtain ⟨hwalk, hrun, hended, hWU, hsame⟩ := X₂.athrowLeaves hx (g := F0 m (pc + 3) ls [.ref a]) rfl rfl rfl hout (a := a) (rest := []) rfl d9 hlocks
  obtain ⟨c3, c4, hc3, hc4, hasg⟩ := Cond.castable_spec (m5 (.castable cls cls) (by simp [mv_Xtl]))
  cases Option.some.inj (hc3.symm.trans hfd)
  cases Option.some.inj (hc4.symm.trans hfd)
  have hlt : a < ((T.setVm vm₁).setVm vm₂).heap.size := (Array.getElem?_eq_some_iff.mp hcell).1
  have hU := heapAt_setCell_self (s := (T.setVm vm₁).setVm vm₂) (plainBareV TC.toThrowableT (freshCell P1.m.cls kX) a u0 u1 msg) hlt
  refine ⟨_, _, st1 _ (fun acts => ?_), hrun, hended, hWU, hsame.weaken (fun q hq hlq => ?_) (Nat.le_refl _) (Nat.le_refl _), hU, hfd, hasg, rfl⟩
  · rw [doInvoke_state]
    exact st2 _ hwalk
  · exfalso
    have hb : q.base = a := by
      simp only [List.nil_append, List.mem_cons, List.not_mem_nil, or_false] at hq
      rcases hq with rfl | rfl | rfl | rfl | rfl <;> rfl
    rw [hb] at hlq
    exact Nat.not_lt.mpr hnew hlq
end MVC
end
section
/-! A start anew: what stands now is taken as the method's start. Then a 'throw new' of a message that is a known constant, without stack traces. -/
section MVX
variable {p : Program} {l : Launch} {e : Env} {R : Room} {s : State} {m : MethodId} {args : Array Value} {below : List Frame} {meth : Method} {cod : Code} {T : State} {locs : List Loc} {cells slots : Nat}
def mv_now (s T : State) : State := ({ s with heap := T.heap, slotsUsed := T.slotsUsed } : State).setVm T.vm
def mv_less (R : Room) (cells slots : Nat) : Room := { R with cells := R.cells - cells, slots := R.slots - slots }
theorem mv_rebase (X : Stand p l e R s m args below meth cod T locs cells slots) (hc : cells ≤ R.cells) (hs : slots ≤ R.slots) : Stand p l e (mv_less R cells slots) (mv_now s T) m args below meth cod T [] 0 0 := by
  have hal := X.warmed.alike
  have hloc : (mv_now s T).localsInUse = s.localsInUse := by
    have h1 : (mv_now s T).frames = s.frames := rfl
    unfold State.localsInUse
    rw [h1, X.frames]
    simp only
    rw [show (mv_now s T).vm.method? m = s.vm.method? m from hal.method? m]
  have hsame := X.same
  refine ⟨X.admits, X.cas, X.clock, X.frames, ?_, ?_, ?_, X.code, X.here, X.tail, State.WarmedH.refl (mv_now s T), X.limits, X.bytes, ?_⟩
  · have h := X.room
    simp only [State.hasRoom, Bool.and_eq_true, decide_eq_true_eq] at h ⊢
    obtain ⟨⟨⟨⟨h1, h2⟩, h3⟩, h4⟩, h5⟩ := h
    have q3 : T.heap.size ≤ s.heap.size + cells := hsame.2.2.1
    have q4 : T.slotsUsed = s.slotsUsed + ((T.heap.toList.drop s.heap.size).map (·.slots.size)).sum := hsame.2.2.2.1
    have q5 : ((T.heap.toList.drop s.heap.size).map (·.slots.size)).sum ≤ slots := hsame.2.2.2.2.1
    rw [hloc]
    refine ⟨⟨⟨⟨h1, h2⟩, ?_⟩, ?_⟩, X.book⟩
    · show T.heap.size + (R.cells - cells) ≤ _
      omega
    · show T.slotsUsed + (R.slots - slots) ≤ _
      omega
  · have h := X.hears
    unfold State.hears at h ⊢
    split at h
    · simp only [State.code?_eq] at h ⊢
      rw [show ∀ q, (mv_now s T).vm.method? q = s.vm.method? q from hal.method?]
      exact h
    · rfl
    · rfl
    · rw [show (mv_now s T).vm.method? m = s.vm.method? m from hal.method? m]
      exact h
  · rw [show (mv_now s T).vm.method? m = s.vm.method? m from hal.method? m]
    exact X.method
  · have e1 : T.setVm (mv_now s T).vm = T := State.setVm_self T
    rw [e1]
    refine ⟨?_, Nat.le_refl _, Nat.le_refl _, ?_, ?_, ?_⟩
    · have h := congrArg (fun z : State => z.setVm T.vm) hsame.1
      exact h
    · show T.slotsUsed = T.slotsUsed + _
      rw [show (mv_now s T).heap = T.heap from rfl, List.drop_eq_nil_of_le (by simp)]
      rfl
    · rw [show (mv_now s T).heap = T.heap from rfl, List.drop_eq_nil_of_le (by simp)]
      exact Nat.le_refl _
    · intro a c hac
      exact ⟨c, hac, rfl, rfl, fun _ _ => rfl⟩
theorem mv_cells_same {s U : State} {cells slots : Nat} (h : s.sameButNew U [] cells slots) {q : Nat} (hq : q < s.heap.size) : U.heap[q]? = s.heap[q]? := by
  obtain ⟨c, hc⟩ : ∃ c, s.heap[q]? = some c := ⟨_, Array.getElem?_eq_getElem hq⟩
  obtain ⟨c', h1, h2, h3, h4⟩ := h.2.2.2.2.2 q c hc
  rw [h1, hc]
  have e : c'.slots = c.slots := by
    refine Array.ext_getElem? (fun i => ?_)
    exact h4 i (by simp)
  rw [h2, e]
set_option maxHeartbeats 2000000 in
theorem mv_throw (X : Stand p l e R s m args below meth cod T locs cells slots) (hx : p.tables.exec = Jvm.exec) (htr : e.platform.stackTraces = false) {cc : ByteArray} (hb : cod.code = cc) (hc : cells + 1 ≤ R.cells) (hs : slots + 6 ≤ R.slots)
    {own cls text Y : String} {r : List String} {ik is ic ix pc sa : Nat} {rx : ByteArray} {ls : Array Slot}
    (hown : (mv_now s T).vm.findClass own = some m.cls) (hcls : Bundle.fit cls = true) (hY : Bundle.fit Y = true) (hr : ∀ n ∈ r, Bundle.fit n = true)
    (x0 : decode rx 0 = .ok (.aload_n 0, 1)) (x1 : decode rx 1 = .ok (.aload_n 1, 1)) (x2 : decode rx 2 = .ok (.invokespecial ix, 3)) (x5 : decode rx 5 = .ok (.return_, 1))
    (w1 : (Cond.classLink own ik cls).before args (mv_now s T) = true) (w2 : (Cond.instantiable cls 6).before args (mv_now s T) = true) (w3 : (Cond.initialized cls).before args (mv_now s T) = true)
    (hZ : vk_R own is text sa (mv_now s T)) (hat : ∀ a ∈ mv_Xat own ic cls ix rx Y r, a.before args (mv_now s T) = true) (hsize : ls.size = cod.maxLocals)
    (d0 : decode cc pc = .ok (.new ik, 3)) (d3 : decode cc (pc + 3) = .ok (.dup, 1)) (d4 : decode cc (pc + 4) = .ok (.ldc is, 2)) (d6 : decode cc (pc + 6) = .ok (.invokespecial ic, 3)) (d9 : decode cc (pc + 9) = .ok (.athrow, 1))
    (hout : ∀ x ∈ cod.exceptionTable.toList, covers x (pc + 9) = false) (hRf : r.length + 4 < R.frames) (hRl : 13 * (r.length + 2) + 43 ≤ R.locals) (hlocks : meth.locks = false) :
    ∃ (U : State) (ce : Cell), Steps p.tables e below (T.setTop (F0 m pc ls [])) U ∧ U.status = .running ∧ Ended U below (.threw T.heap.size) ∧ (mv_now s T).WarmedH U.vm ∧ (mv_now s T).sameButNew ({ U with vm := (mv_now s T).vm } : State) [] 1 6 ∧ (∀ q, q < T.heap.size → U.heap[q]? = T.heap[q]?) ∧ U.heap.size = T.heap.size + 1 ∧ U.heap[T.heap.size]? = some ce ∧ (mv_now s T).vm.findClass cls = some ce.cls ∧ (mv_now s T).vm.assignable ce.cls ce.cls = true ∧ ce.vm = .none := by
  have X' := mv_rebase X (by omega) (by omega)
  obtain ⟨cC, kC0, hfc, hk0, -⟩ := Cond.instantiable_spec w2
  have key : W p l e (mv_less R cells slots) (mv_now s T) m args below meth cod T.heap [] 0 0 (fun U => U.status = .running ∧ Ended U below (.threw T.heap.size) ∧ (mv_now s T).WarmedH U.vm ∧ (mv_now s T).sameButNew ({ U with vm := (mv_now s T).vm } : State) [] 1 6 ∧ ∃ ce, U.heap[T.heap.size]? = some ce ∧ (mv_now s T).vm.findClass cls = some ce.cls ∧ (mv_now s T).vm.assignable ce.cls ce.cls = true ∧ ce.vm = .none) (F0 m pc ls []) := by
    refine W.newcK (n := 6) hx hb hown w1 w2 w3 rfl d0 (by show 0 + 1 ≤ R.cells - cells; omega) (by show 0 + 6 ≤ R.slots - slots; omega) hfc rfl fun H1 kC hkC e1 z1 o1 => ?_
    refine lv_dup hx hb d3 rfl ?_
    refine va_ldcS hx hb hown hZ d4 ?_
    intro T1 hT1 X1
    obtain ⟨U, ce, st, run, en, wm, sm, hce, k1, k2, k3⟩ := mv_ctor X1 hx htr (own := own) (cls := cls) (ic := ic) hown hcls hY hr x0 x1 x2 x5 hat hfc hkC (by rw [hT1]; exact e1) (Nat.le_refl _) (msg := .ref sa) rfl (pc := pc + 6) (ls := ls) hsize (by rw [hb]; exact d6) (by rw [hb]; exact d9) hout hRf hRl hlocks
    exact ⟨U, st, run, en, wm, sm, ce, hce, k1, k2, k3⟩
  obtain ⟨U, st, run, en, wm, sm, ce, hce, k1, k2, k3⟩ := key T rfl X'
  have hcs : ∀ q, q < T.heap.size → U.heap[q]? = T.heap[q]? := fun q hq => mv_cells_same sm hq
  have hz : U.heap.size = T.heap.size + 1 := by
    have h1 : U.heap.size ≤ T.heap.size + 1 := sm.2.2.1
    have h2 : T.heap.size < U.heap.size := (Array.getElem?_eq_some_iff.mp hce).1
    omega
  exact ⟨U, ce, st, run, en, wm, sm, hcs, hz, hce, k1, k2, k3⟩
end MVX
end
section
/-! A method that comes to a 'throw new': its contract. -/
def mv_Gs (prog : List mv_Me) (sta : Nat → List Int32) (cal : Nat → List Value → mv_S → (Option Value → mv_S → Prop) → Prop) (M : mv_Me) (Z : mv_F → Prop) (F : mv_F) : Prop :=
  ∀ P : mv_F → Prop, (∀ F, Z F → P F) → (∀ F, mv_Rule prog sta cal M (fun _ _ => False) P F → P F) → P F
section MVY
variable {prog : List mv_Me} {sta : Nat → List Int32} {cal : Nat → List Value → mv_S → (Option Value → mv_S → Prop) → Prop} {M : mv_Me} {Z : mv_F → Prop}
theorem mv_Gs_stop {F : mv_F} (h : Z F) : mv_Gs prog sta cal M Z F := fun _ h1 _ => h1 F h
theorem mv_Gs_rule {F : mv_F} (h : mv_Rule prog sta cal M (fun _ _ => False) (mv_Gs prog sta cal M Z) F) : mv_Gs prog sta cal M Z F := fun P h1 h2 => h2 F (mv_Rule_mono (fun _ k => k P h1 h2) h)
theorem mv_Gs_run (n : Nat) {F F' : mv_F} (h : mv_run sta M n F = some F') (k : mv_Gs prog sta cal M Z F') : mv_Gs prog sta cal M Z F := by
  induction n generalizing F with
  | zero =>
    have e : F = F' := Option.some.inj h
    rw [e]
    exact k
  | succ n ih =>
    unfold mv_run at h
    cases h1 : mv_one sta M F with
    | none => rw [h1] at h; cases h
    | some F1 =>
      rw [h1] at h
      exact mv_Gs_rule (Or.inl ⟨F1, h1, ih h⟩)
variable {pc : Nat} {lc : mv_L} {st r : List Value} {vc vs : Nat} {S : mv_S} {i : ClassFile.Instr} {n a b c d : Nat}
theorem mv_Gs_br {cn : Prop} {off : Int} {tgt : Nat} (h0 : mv_at (mv_tb M) pc = some (i, n, a, b, c, d)) (h1 : mv_cond i st = some (cn, off, r)) (h2 : (pc : Int) + off = (tgt : Int)) (h3 : cn → mv_Gs prog sta cal M Z (tgt, lc, r, vc, vs, S)) (h4 : ¬ cn → mv_Gs prog sta cal M Z (pc + 3, lc, r, vc, vs, S)) : mv_Gs prog sta cal M Z (pc, lc, st, vc, vs, S) :=
  mv_Gs_rule (Or.inr (Or.inr ⟨pc, lc, st, vc, vs, S, i, n, a, b, c, d, rfl, h0, Or.inl ⟨cn, off, r, tgt, h1, h2, h3, h4⟩⟩))
theorem mv_Gs_call {Mj : mv_Me} {as : List Value} {Q' : Option Value → mv_S → Prop} (hc : cal a as S Q') (h0 : mv_at (mv_tb M) pc = some (i, n, a, b, c, d)) (h1 : prog[a]? = some Mj) (h2 : st = as.reverse ++ r) (h3 : as.length = b) (h4 : mv_isCall i c d S as = true) (h5 : (r.map fun v => v.category).sum ≤ 8) (h6 : vc + (mv_mc Mj) ≤ (mv_mc M)) (h7 : vs + (mv_ms Mj) ≤ (mv_ms M))
    (h9 : ∀ (v : Option Value) (S' : mv_S), Q' v S' → mv_Gs prog sta cal M Z (pc + 3, lc, v.toList ++ r, vc + (mv_mc Mj), vs + (mv_ms Mj), S')) : mv_Gs prog sta cal M Z (pc, lc, st, vc, vs, S) :=
  mv_Gs_rule (Or.inr (Or.inr ⟨pc, lc, st, vc, vs, S, i, n, a, b, c, d, rfl, h0, Or.inr (Or.inr (Or.inr (Or.inr (Or.inl ⟨Mj, as, r, Q', h1, h2, h3, h4, h5, h6, h7, hc, h9⟩))))⟩))
end MVY
section MVZ
variable {p : Program} {l : Launch} {e : Env} {R : Room} {s : State} {m : MethodId} {args : Array Value} {below : List Frame} {meth : Method} {cod : Code}
variable {ad : Nat → Nat} {A : Nat → Prop} {D : va_G} {cl : List vw_C} {kd : List (List Nat)} {cA : Nat → ClassId} {Ts Nw : List Jvm.Cond} {sta : Nat → List Int32} {stn : List (String × String × String)} {prog : List mv_Me} {M : mv_Me}
/-- every rule leads from what holds behind it to what holds ahead of it, whatever the end is -/
theorem mv_close (Y : mv_Sy cl kd Ts Nw prog sta stn) (X : mv_Cx p s m args meth cod A D cl cA ad Ts Nw sta stn M) (hMk : mv_Ro cl kd Ts Nw prog stn M) (hR : mv_fr M ≤ R.frames ∧ mv_lo M ≤ R.locals) (hRc : mv_mc M ≤ R.cells ∧ mv_ms M ≤ R.slots) {Qz : State → Prop} {d : Nat} {Q : Option Value → mv_S → Prop}
    (hret : ∀ (pc : Nat) (lc : mv_L) (st : List Value) (vc vs : Nat) (S : mv_S), (∃ (i : ClassFile.Instr) (n a b c d : Nat) (v : Option Value) (ok : Prop), mv_at (mv_tb M) pc = some (i, n, a, b, c, d) ∧ mv_ret (mv_rt M) i st = some (v, ok) ∧ vc = mv_mc M ∧ vs ≤ mv_ms M ∧ ok ∧ Q v S) → mv_W p l e R s m args below meth cod A D cl kd cA ad (mv_ml M) Qz (pc, lc, st, vc, vs, S))
    {F : mv_F} (hF : mv_Rule prog sta (mv_C prog sta d) M Q (mv_W p l e R s m args below meth cod A D cl kd cA ad (mv_ml M) Qz) F) : mv_W p l e R s m args below meth cod A D cl kd cA ad (mv_ml M) Qz F := by
  rcases hF with ⟨F', g1, g2⟩ | ⟨lc', g1, g2⟩ | ⟨pc, lc, st, vc, vs, S, i, n, a, b, c, d', rfl, h0, hF⟩
  · exact mv_one_ok Y X hMk hR hRc g1 g2
  · intro H locs ls hH hL hcs
    exact g2 H locs ls hH (mv_le_Lc g1 hL) hcs
  · rcases hF with ⟨cn, off, r, tgt, g1, g2, g3, g4⟩ | ⟨x, r, off, tgt, rfl, g1, g2, g3⟩ | ⟨x, k, r, N, v, rfl, g1, g2, g3⟩ | ⟨v, x, k, r, N, S', rfl, g1, g2, g3⟩ | ⟨Mj, as', r, Q', g1, rfl, g3, g4, g5, g6, g7, g8, g9⟩ | ⟨v, ok, g1, g2, g3, g4, g5⟩ | ⟨x, y, r, v, rfl, g1, g2, g3⟩
    · intro H locs ls hH hL hcs
      obtain ⟨hd, hrw⟩ := hMk _ (mv_at_mem h0)
      simp only at hd hrw
      rw [mv_len_cond g1 hrw] at hd
      exact mv_cond_ok X.1 X.2.1 hd g1 g2 (fun z => g3 z H locs ls hH hL hcs) (fun z => g4 z H locs ls hH hL hcs)
    · intro H locs ls hH hL hcs
      obtain ⟨hd, hrw⟩ := hMk _ (mv_at_mem h0)
      simp only at hd hrw
      exact mv_sw_ok X.1 X.2.1 hd g1 g2 (g3 H locs ls hH hL hcs)
    · intro H locs ls hH hL hcs
      obtain ⟨hd, hrw⟩ := hMk _ (mv_at_mem h0)
      simp only at hd hrw
      exact mv_ald_ok X hH Y.2.2.2.2 hd (mv_len_ald g1 hrw) g1 g2 (g3 H locs ls hH hL hcs)
    · intro H locs ls hH hL hcs
      obtain ⟨hd, hrw⟩ := hMk _ (mv_at_mem h0)
      simp only at hd hrw
      exact mv_ast_ok X hH hd (mv_len_ast g1 hrw) g1 g2 (fun H1 locs1 q => g3 H1 locs1 ls q hL hcs)
    · intro H locs ls hH hL hcs
      obtain ⟨hd, hrw⟩ := hMk _ (mv_at_mem h0)
      simp only at hd hrw
      have k6 : vc + mv_mc Mj ≤ R.cells := Nat.le_trans g6 hRc.1
      have k7 : vs + mv_ms Mj ≤ R.slots := Nat.le_trans g7 hRc.2
      exact mv_call_ok Y X hH.1 hH.2.1 hH.2.2.1 hH.2.2.2.2 hL.1.1 hR hd hrw g1 g3 g4 g5 k6 k7 (mv_sound Y l A D cA ad d a as' S Q' g8 Mj g1) (fun v S' H1 locs1 q1 q2 q3 q4 q5 q6 => g9 v S' q1 H1 locs1 ls ⟨q2, q3, q4, by have h8 : H.size = s.heap.size + vc := hH.2.2.2.1; show H1.size = s.heap.size + (vc + mv_mc Mj); omega, q6⟩ hL ⟨k6, k7⟩)
    · exact hret pc lc st vc vs S ⟨i, n, a, b, c, d', v, ok, h0, g1, g2, g3, g4, g5⟩
    · intro H locs ls hH hL hcs
      obtain ⟨hd, hrw⟩ := hMk _ (mv_at_mem h0)
      simp only at hd hrw
      exact mv_div_ok X.1 X.2.1 hd hrw g2 g1 (g3 H locs ls hH hL hcs)
/-- a static field's place, outside of A -/
def mv_Ls (C n d : String) (A : Nat → Prop) (U : State) (H : Heap) : Prop := ∃ (c : ClassId) (k : Class) (i : Nat) (f : Field) (a : Nat) (cell : Cell), U.vm.findClass C = some c ∧ U.fieldFound? C n d = some (c, k, i, f) ∧ f.isStatic = true ∧ k.statics = some a ∧ H[a]? = some cell ∧ cell.vm.isStatics = true ∧ cell.cls = c ∧ f.slot < cell.slots.size ∧ k.staticTypes[f.slot]? = some f.type ∧ ¬ A a
theorem mv_Ls.of {C n d : String} {A : Nat → Prop} {U : State} {args : Array Value} (h : (Jvm.Cond.laysStatic C n d).before args U = true) (hA : ∀ a : Nat, a < U.heap.size → ¬ A a) : mv_Ls C n d A U U.heap := by
  obtain ⟨c, k, i, f, a, cell, h1, h2, h3, h4, h5, h6, h7, h8, h9⟩ := Cond.laysStatic_spec h
  exact ⟨c, k, i, f, a, cell, h1, h2, h3, h4, h5, h6, h7, h8, h9, hA a (Array.getElem?_eq_some_iff.mp h5).1⟩
theorem mv_Ls.use {C n d : String} {A : Nat → Prop} {U : State} {args : Array Value} (h : mv_Ls C n d A U U.heap) : (Jvm.Cond.laysStatic C n d).before args U = true := by
  obtain ⟨c, k, i, f, a, cell, h1, h2, h3, h4, h5, h6, h7, h8, h9, -⟩ := h
  simp [Cond.before, Cond.holds, Cond.value, h1, h2, h3, h4, h5, h6, h7, h8, h9]
theorem mv_Ls.moved {C n d : String} {A : Nat → Prop} {u U : State} {H : Heap} (hvm : u.vm.Alike U.vm) (h : mv_Ls C n d A u H) : mv_Ls C n d A U H := by
  obtain ⟨c, k, i, f, a, cell, h1, h2, h3, h4, h5⟩ := h
  obtain ⟨k', hi', he⟩ := State.fieldFound?_setVm hvm h2
  exact ⟨c, k', i, f, a, cell, by rw [hvm.findClass]; exact h1, hi', h3, by rw [he]; exact h4, h5.1, h5.2.1, h5.2.2.1, h5.2.2.2.1, by rw [he]; exact h5.2.2.2.2.1, h5.2.2.2.2.2⟩
theorem mv_Ls.kept {C n d : String} {A : Nat → Prop} {U : State} {H H1 : Heap} (h : mv_Ls C n d A U H) (hq : ∀ a : Nat, a < H.size → ¬ A a → H1[a]? = H[a]?) : mv_Ls C n d A U H1 := by
  obtain ⟨c, k, i, f, a, cell, h1, h2, h3, h4, h5, h6, h7, h8, h9, h10⟩ := h
  exact ⟨c, k, i, f, a, cell, h1, h2, h3, h4, by rw [hq a (Array.getElem?_eq_some_iff.mp h5).1 h10]; exact h5, h6, h7, h8, h9, h10⟩
/-- what else a throw wants: the message, two statics of Throwable, and words Fw on what fits where -/
def mv_Ex (Fw : List Jvm.Cond) (own : String) (is : Nat) (text : String) (sa : Nat) (A : Nat → Prop) (U : State) : Prop := (∀ w ∈ Fw, va_Nw w U) ∧ vk_R own is text sa U ∧ va_Zq "java/lang/Throwable" "UNASSIGNED_STACK" "[Ljava/lang/StackTraceElement;" A U U.heap ∧ va_Zq "java/lang/Throwable" "SUPPRESSED_SENTINEL" "Ljava/util/List;" A U U.heap ∧ mv_Ls "java/lang/Throwable" "UNASSIGNED_STACK" "[Ljava/lang/StackTraceElement;" A U U.heap ∧ mv_Ls "java/lang/Throwable" "SUPPRESSED_SENTINEL" "Ljava/util/List;" A U U.heap
theorem mv_isRef {C n d : String} {A : Nat → Prop} {U : State} {a : Array Value} (h : va_Zq C n d A U U.heap) : (Jvm.Cond.isRef (.static C n d)).before a U = true := by
  have key : ∀ v : Value, va_Z C n d v A U U.heap → (Term.static C n d).eval a U none [] U = some v := by
    intro v hv
    obtain ⟨cf, kf, fi, f, ax, cell, h1, h2, h3, h4, h5, h6, h7, h8⟩ := hv
    simp only [Term.eval, State.fieldNamed?, h1, Option.bind_eq_bind, Option.bind_some, h2, beq_self_eq_true, if_true, Option.pure_def, h4, h5]
    rw [if_pos h6]
    exact h7
  rcases h with h | ⟨t, h⟩
  · simp [Cond.before, Cond.holds, Cond.value, key _ h]
  · simp [Cond.before, Cond.holds, Cond.value, key _ h]
end MVZ
end
section
/-! The contract of a method that throws. -/
theorem mv_notrace {l : Launch} {e : Env} (h : l.admits e) (hl : l.flags.contains noTraceFlag = true) : e.platform.stackTraces = false := by
  rw [h.platform]
  simp only [Launch.stackTraces, hl]
  rfl
def mv_PT (A : Nat → Prop) (D : va_G) (cl : List vw_C) (kd : List (List Nat)) (cA : Nat → ClassId) (ad : Nat → Nat) (cls : String) (Qt : mv_S → Prop) : Array Value → State → Outcome → State → Prop :=
  fun _ st o t => ∃ (S' : mv_S) (ax : Addr) (ce : Cell) (L : List Loc), Qt S' ∧ o = .threw ax ∧ st.WarmedH t.vm ∧ st.sameButNew ({ t with vm := st.vm } : State) L 1 6 ∧ (∀ q ∈ L, A q.base) ∧ va_P D cl (mv_ws kd cA ad S') t.heap ∧ va_D A (mv_ws kd cA ad S') ∧ va_F A st t ∧ t.heap.size = st.heap.size + 1 ∧ t.heap[ax]? = some ce ∧ st.vm.findClass cls = some ce.cls ∧ st.vm.assignable ce.cls ce.cls = true ∧ ce.vm = .none
def mv_PreT (A : Nat → Prop) (D : va_G) (cl : List vw_C) (kd : List (List Nat)) (cA : Nat → ClassId) (ad : Nat → Nat) (Nw : List Jvm.Cond) (sta : Nat → List Int32) (stn : List (String × String × String)) (as : List Value) (S : mv_S) (Fw : List Jvm.Cond) (own : String) (is : Nat) (text : String) (sa : Nat) : Array Value → State → Prop := fun v U => mv_Pre A D cl kd cA ad Nw sta stn as S v U ∧ mv_Ex Fw own is text sa A U
/-- the rows of a 'throw new X("text")' at tp, and the words that it wants -/
def mv_Thr (Ts Fw : List Jvm.Cond) (M : mv_Me) (tp : Nat) (cls Y : String) (r : List String) (ik is ic ix : Nat) (rx : ByteArray) : Prop :=
  decode (mv_cc M) tp = .ok (.new ik, 3) ∧ decode (mv_cc M) (tp + 3) = .ok (.dup, 1) ∧ decode (mv_cc M) (tp + 4) = .ok (.ldc is, 2) ∧ decode (mv_cc M) (tp + 6) = .ok (.invokespecial ic, 3) ∧ decode (mv_cc M) (tp + 9) = .ok (.athrow, 1) ∧
  Bundle.fit cls = true ∧ Bundle.fit Y = true ∧ (∀ n ∈ r, Bundle.fit n = true) ∧ (decode rx 0 = .ok (.aload_n 0, 1) ∧ decode rx 1 = .ok (.aload_n 1, 1) ∧ decode rx 2 = .ok (.invokespecial ix, 3) ∧ decode rx 5 = .ok (.return_, 1)) ∧ Jvm.Cond.classLink (mv_ow M) ik cls ∈ Ts ∧ Jvm.Cond.instantiable cls 6 ∈ Ts ∧ Jvm.Cond.initialized cls ∈ Ts ∧
  (∀ a ∈ mv_Xat (mv_ow M) ic cls ix rx Y r, a ∈ Ts ∨ a ∈ Fw ∨ a = Jvm.Cond.isRef (.static "java/lang/Throwable" "UNASSIGNED_STACK" "[Ljava/lang/StackTraceElement;") ∨ a = Jvm.Cond.isRef (.static "java/lang/Throwable" "SUPPRESSED_SENTINEL" "Ljava/util/List;") ∨ a = Jvm.Cond.laysStatic "java/lang/Throwable" "UNASSIGNED_STACK" "[Ljava/lang/StackTraceElement;" ∨ a = Jvm.Cond.laysStatic "java/lang/Throwable" "SUPPRESSED_SENTINEL" "Ljava/util/List;")
/-- words on what fits where: of a cast, of a declaration -/
def mv_Fo (Fw : List Jvm.Cond) : Prop := ∀ w ∈ Fw, (∃ C D, w = Jvm.Cond.castable C D) ∨ ∃ y, w = Jvm.Cond.declares y
theorem mv_Fo_warm {Fw : List Jvm.Cond} (hF : mv_Fo Fw) {s U : State} (hW : s.WarmedH U.vm) (h : ∀ w ∈ Fw, va_Nw w s) : ∀ w ∈ Fw, va_Nw w U := by
  intro w hw
  rcases hF w hw with ⟨C, D, rfl⟩ | ⟨y, rfl⟩
  · exact va_Nw.warmC hW (h _ hw)
  · exact va_Nw.warmD hW (h _ hw)
theorem mv_Fo_tab {Fw : List Jvm.Cond} (hF : mv_Fo Fw) {w : Jvm.Cond} (hw : w ∈ Fw) : w.onTables = true := by
  rcases hF w hw with ⟨C, D, rfl⟩ | ⟨y, rfl⟩
  · rfl
  · rfl
set_option maxHeartbeats 4000000 in
theorem mv_soundT {cl : List vw_C} {kd : List (List Nat)} {Ts Nw : List Jvm.Cond} {prog : List mv_Me} {sta : Nat → List Int32} {stn : List (String × String × String)} (Y : mv_Sy cl kd Ts Nw prog sta stn) (l : Launch) (hfl : l.flags.contains noTraceFlag = true) (A : Nat → Prop) (D : va_G) (cA : Nat → ClassId) (ad : Nat → Nat)
    {d i : Nat} {as : List Value} {S : mv_S} {M : mv_Me} (hM : prog[i]? = some M) (h2 : (mv_ent (mv_ml M) as).length = mv_ml M) (hmc : mv_mc M = 0 ∧ mv_ms M = 0) {tp : Nat} {cls text Y' : String} {r : List String} {ik is ic ix sa fr lo : Nat} {rx : ByteArray} {Fw : List Jvm.Cond} (hFw : mv_Fo Fw) (hT : mv_Thr Ts Fw M tp cls Y' r ik is ic ix rx) (hfr : mv_fr M ≤ fr ∧ r.length + 4 < fr) (hlo : mv_lo M ≤ lo ∧ 13 * (r.length + 2) + 43 ≤ lo) {Qt : mv_S → Prop}
    (h3 : mv_Gs prog sta (mv_C prog sta d) M (fun F => ∃ (lc : mv_L) (S' : mv_S), F = (tp, lc, [], 0, 0, S') ∧ Qt S') (0, mv_ent (mv_ml M) as, [], 0, 0, S)) :
    MetFree l M.1 (headSpec (Jvm.Cond.code M.1 (mv_cc M) (mv_ml M) (mv_rt M) :: Ts) { frames := fr, cells := 1, slots := 6, locals := lo }) (mv_PreT A D cl kd cA ad Nw sta stn as S Fw (mv_ow M) is text sa) (fun _ _ _ _ _ => True) (mv_PT A D cl kd cA ad cls Qt) := by
  have hMk := Y.2.2.2.1 i M hM
  obtain ⟨t0, t3, t4, t6, t9, hcls, hYf, hnames, ⟨y0, y1', y2, y5⟩, c1, c2, c3, hat⟩ := hT
  refine MetFree.of_bodyS (code := mv_cc M) (maxLocals := mv_ml M) (ret := mv_rt M) hMk.1 ?_ ?_
  · intro args s m h hn
    obtain ⟨meth, c, h1, h2, h3, h4, h5, h6, -, -⟩ := Cond.code_spec hn (atoms_spec (ws := Jvm.Cond.code M.1 (mv_cc M) (mv_ml M) (mv_rt M) :: Ts) h _ List.mem_cons_self)
    exact ⟨meth, c, h1, h2, h3, h4, h5, h6⟩
  · intro p e s m args below meth c s₁ B hml hv _
    obtain ⟨⟨rfl, v1, v2, v3, v4, v5, v6, v7⟩, hex⟩ := hv
    have hts : ∀ w ∈ (Jvm.Cond.code M.1 (mv_cc M) (mv_ml M) (mv_rt M) :: Ts), w.before _ s = true := atoms_spec (ws := Jvm.Cond.code M.1 (mv_cc M) (mv_ml M) (mv_rt M) :: Ts) B.pre
    have hown : s.vm.findClass (mv_ow M) = some m.cls := by rw [← hMk.2.1]; exact findClass_of_methodNamed B.named
    have X : mv_Cx p s m (as.map (mv_tr ad)).toArray meth c A D cl cA ad Ts Nw sta stn M := ⟨B.exec, B.bytes, hml, hown, fun w hw => hts w (List.mem_cons_of_mem _ hw), v1, v2, v4, B.notSynchronized, B.returns, (name_of_methodNamed B.named B.method).1, v3⟩
    have hno : c.exceptionTable.isEmpty = true := BodyLoose.noHandlers B (hts _ List.mem_cons_self)
    have hout : ∀ x ∈ c.exceptionTable.toList, covers x (tp + 9) = false := by
      intro x hx
      have h0 : c.exceptionTable.size = 0 := by simpa [Array.isEmpty] using hno
      have h1 : c.exceptionTable.toList = [] := List.eq_nil_of_length_eq_zero (by simpa using h0)
      rw [h1] at hx
      cases hx
    have hcl : mv_W p l e { frames := fr, cells := 1, slots := 6, locals := lo } s m (as.map (mv_tr ad)).toArray below meth c A D cl kd cA ad (mv_ml M) (fun t => ∃ o, t.status = .running ∧ Ended t below o ∧ mv_PT A D cl kd cA ad cls Qt (as.map (mv_tr ad)).toArray s o t) (0, mv_ent (mv_ml M) as, [], 0, 0, S) := by
      refine h3 _ ?_ (fun F hF => mv_close Y X hMk.2.2.2.2.2.2 ⟨hfr.1, hlo.1⟩ ⟨by rw [hmc.1]; exact Nat.zero_le _, by rw [hmc.2]; exact Nat.zero_le _⟩ (fun pc lc st vc vs S hq => ?_) hF)
      · rintro F ⟨lc, S', rfl, hQt⟩
        intro H locs ls hH hL hcs T hT0 XT
        have hTH : T.heap = H := hT0
        have hWn : s.WarmedH (mv_now s T).vm := XT.warmed
        have hSn : va_S A s.heap T.heap locs := by rw [hTH]; exact hH.2.2.1
        have hwd : ∀ w ∈ Ts, w.before (as.map (mv_tr ad)).toArray (mv_now s T) = true := fun w hw => word_at (U := mv_now s T) hWn (Y.2.1 w hw) (hts w (List.mem_cons_of_mem _ hw))
        obtain ⟨x0, x1, x2, x3, x4, x5⟩ := hex
        have y1 : vk_R (mv_ow M) is text sa (mv_now s T) := vk_R.warm hWn x1
        have zq : ∀ {C n d : String}, va_Zq C n d A s s.heap → va_Zq C n d A (mv_now s T) (mv_now s T).heap := fun h => (h.moved (U := mv_now s T) hWn.alike).kept (fun a ha hn => hSn.2.1 a ha hn)
        have hatn : ∀ a ∈ mv_Xat (mv_ow M) ic cls ix rx Y' r, a.before (as.map (mv_tr ad)).toArray (mv_now s T) = true := by
          intro a ha
          rcases hat a ha with h | h | rfl | rfl | rfl | rfl
          · exact hwd _ h
          · exact va_Nw.use (mv_Fo_tab hFw h) (mv_Fo_warm hFw hWn x0 _ h)
          · exact mv_isRef (zq x2)
          · exact mv_isRef (zq x3)
          · exact mv_Ls.use ((x4.moved (U := mv_now s T) hWn.alike).kept (fun a ha hn => hSn.2.1 a ha hn))
          · exact mv_Ls.use ((x5.moved (U := mv_now s T) hWn.alike).kept (fun a ha hn => hSn.2.1 a ha hn))
        have hownn : (mv_now s T).vm.findClass (mv_ow M) = some m.cls := by
          rw [show (mv_now s T).vm.findClass (mv_ow M) = s.vm.findClass (mv_ow M) from hWn.alike.findClass _ _]
          exact hown
        obtain ⟨U, ce, st, run, en, wm, sm, hcs2, hz, hce, o1, o2, o3⟩ := mv_throw (XT : Stand p l e _ s m _ below meth c T locs 0 0) X.1 (mv_notrace XT.admits hfl) X.2.1 (Nat.le_refl 1) (Nat.le_refl 6) hownn hcls hYf hnames y0 y1' y2 y5 (hwd _ c1) (hwd _ c2) (hwd _ c3) y1 hatn (hL.1.1.trans hml.symm) t0 t3 t4 t6 t9 hout hfr.2 hlo.2 B.notSynchronized
        refine ⟨U, st, .threw T.heap.size, run, en, S', T.heap.size, ce, locs, hQt, rfl, State.WarmedH.trans (t := mv_now s T) hWn wm, ?_, hH.2.2.1.2.2, ?_, hH.2.1, ?_, ?_, hce, ?_, ?_, o3⟩
        · have hTs : T.heap.size = s.heap.size := by rw [hTH]; exact hH.2.2.2.1
          have k4 : T.slotsUsed = s.slotsUsed + ((T.heap.toList.drop s.heap.size).map (·.slots.size)).sum := XT.same.2.2.2.1
          rw [List.drop_eq_nil_of_le (by simp [hTs])] at k4
          have k4 : T.slotsUsed = s.slotsUsed := k4
          have m4 : U.slotsUsed = T.slotsUsed + ((U.heap.toList.drop T.heap.size).map (·.slots.size)).sum := sm.2.2.2.1
          have m5 : ((U.heap.toList.drop T.heap.size).map (·.slots.size)).sum ≤ 6 := sm.2.2.2.2.1
          rw [hTs] at m4 m5
          refine ⟨congrArg (fun z : State => z.setVm s.vm) sm.1, ?_, ?_, ?_, m5, fun a c hac => ?_⟩
          · show s.heap.size ≤ U.heap.size
            omega
          · show U.heap.size ≤ s.heap.size + 1
            omega
          · show U.slotsUsed = _
            rw [m4, k4]
          · have hlt : a < s.heap.size := (Array.getElem?_eq_some_iff.mp hac).1
            obtain ⟨c', q1, q2⟩ := XT.same.2.2.2.2.2 a c hac
            exact ⟨c', by show U.heap[a]? = _; rw [hcs2 a (by rw [hTs]; exact hlt)]; exact q1, q2⟩
        · refine va_P.kept hH.1 (fun k q hk => ?_)
          have hlt := (hH.1 k q hk).lt
          rw [hcs2 q.1 (by rw [hTH]; exact hlt), hTH]
        · refine ⟨Nat.le_trans hSn.1 (by omega), fun q q1 q2 => ?_⟩
          rw [hcs2 q (Nat.lt_of_lt_of_le q1 hSn.1)]
          exact hSn.2.1 q q1 q2
        · have h4 : H.size = s.heap.size + 0 := hH.2.2.2.1
          rw [hz, hTH]
          omega
        · rw [← hWn.alike.findClass]
          exact o1
        · rw [← hWn.alike.assignable]
          exact o2
      · obtain ⟨_, _, _, _, _, _, _, _, -, -, -, -, -, hq⟩ := hq
        exact hq.elim
    have hl := lv_entry (as.map (mv_tr ad)) (n := (mv_ml M)) (by have := mv_sl_len ad as (mv_ml M); rw [h2] at this; exact this)
    have hh0 : s₁.heap = s.heap := by rw [B.state]; rfl
    have K := hcl s.heap [] _ ⟨v5, v6, va_S.rf, rfl, v7⟩ ⟨⟨hl.1, hl.2.1, fun q hq => by cases hq⟩, h2, fun j v hj => hl.2.2 _ (mv_args_tr ad as 0 j v (mv_ent_has as (mv_ml M) j v hj))⟩ ⟨Nat.zero_le _, Nat.zero_le _⟩
    have K2 : W p l e { frames := fr, cells := 1, slots := 6, locals := lo } s m (as.map (mv_tr ad)).toArray below meth c s.heap [] 0 0 (fun t => ∃ o, t.status = .running ∧ Ended t below o ∧ mv_PT A D cl kd cA ad cls Qt (as.map (mv_tr ad)).toArray s o t) (entryFrame m (as.map (mv_tr ad)).toArray (mv_ml M)) := by
      rw [lg_entry_eq]
      exact K
    obtain ⟨t, a1, o, b1, b2, b3⟩ := K2 s₁ hh0 (Stand.of_body B)
    exact ⟨t, o, a1, b1, b2, b3⟩
end
section
/-! A handler of a class that is perhaps used for the first time. -/
section MVK
variable {Q : Handler → Pre} {E : CtlPost} {e : Env} {d : Bool} {acts : List Action} {s : State} {f : JFrame} {a : Addr}
theorem mv_fh {x : ExceptionTableEntry} {t : List ExceptionTableEntry} {c : ClassId} {cell : Cell} {vm' : Vm} (hx : covers x f.pc = true) (h0 : x.catchType ≠ 0) (hg : (Jvm.resolveClass f.method.cls x.catchType).Gives e.toSetting s.vm (.ok c) vm') (hsz : vm'.classes.size ≤ s.vm.classes.size)
    (hcell : s.heap[a]? = some cell) (hobj : ∀ k, cell.vm ≠ .statics k) (hk : ∃ k, vm'.classes[cell.cls]? = some k) (hc : ∃ k, vm'.classes[c]? = some k) (hfit : vm'.assignable cell.cls c = true) :
    wp (findHandler.go f a (x :: t)) Q E e d acts s ↔ Q (.found x.handlerPc) d acts (s.setVm vm') := by
  simp only [covers] at hx
  obtain ⟨ha, ht⟩ := hg.op (op := VmOp.resolveClass f.method.cls x.catchType) rfl
  have hcell' : (s.setVm vm').heap[a]? = some cell := hcell
  simp [findHandler.go, hx, h0, ha, ht, hsz, hcell, hobj, hk, hc, hfit, VmOp.dirties, VmOp.acts]
theorem mv_fhs {meth : Method} {code : Code} (hm : s.vm.method? f.method = some meth) (hcd : meth.code = some code) {x : ExceptionTableEntry} (htab : code.exceptionTable.toList = [x]) {c : ClassId} {cell : Cell} {vm' : Vm} (hx : covers x f.pc = true) (h0 : x.catchType ≠ 0) (hg : (Jvm.resolveClass f.method.cls x.catchType).Gives e.toSetting s.vm (.ok c) vm') (hsz : vm'.classes.size ≤ s.vm.classes.size)
    (hcell : s.heap[a]? = some cell) (hobj : ∀ k, cell.vm ≠ .statics k) (hk : ∃ k, vm'.classes[cell.cls]? = some k) (hc : ∃ k, vm'.classes[c]? = some k) (hfit : vm'.assignable cell.cls c = true) :
    wp (findHandler f a) Q E e d acts s ↔ Q (.found x.handlerPc) d acts (s.setVm vm') := by
  rw [W.findHandler_eq hm hcd, htab]
  exact mv_fh hx h0 hg hsz hcell hobj hk hc hfit
end MVK
theorem mv_stepC {e : Env} {s : State} {a : Addr} {f : JFrame} {r : List Frame} {pc : Nat} {vm' : Vm} (hfind : ∀ (Q : Handler → Pre) (E : CtlPost) (d : Bool) (acts : List Action), wp (findHandler f a) Q E e d acts s ↔ Q (.found pc) d acts (s.setVm vm')) :
    (stepThrowing e s a (.java f :: r)).Is ((s.setVm vm').setFrames (.java { f with pc := pc, stack := [.ref a] } :: r)) [] := by
  simp only [stepThrowing, searchFrame, vmDo]
  generalize hr : Sem.go _ e false [] s = res
  obtain ⟨as, rfl, ha⟩ := Sem.eq_ok_of hr (a := Handler.found pc) (s' := s.setVm vm') (acts' := []) (by simp [hfind _ _ _ _])
  exact ⟨rfl, ha⟩
theorem mv_caught {tb : Tables} {e : Env} {s target : State} {g : JFrame} {c : Code} {below : List Frame} {a : Addr} (h : At s g.method c below) {pc : Nat} {vm' : Vm} (hfind : ∀ (Q : Handler → Pre) (E : CtlPost) (d : Bool) (acts : List Action), wp (findHandler g a) Q E e d acts ((s.setTop g).pushFrame (.throwing a)) ↔ Q (.found pc) d acts (((s.setTop g).pushFrame (.throwing a)).setVm vm'))
    (hrest : Steps tb e below ((s.setVm vm').setTop { g with pc := pc, stack := [.ref a] }) target) : Steps tb e below ((s.setTop g).pushFrame (.throwing a)) target := by
  obtain ⟨hgo, hw⟩ := h.throwing a
  refine Steps.head hgo hw ?_
  rw [stepThread_throwing (frames_entered h.top _), (mv_stepC (s := (s.setTop g).pushFrame (.throwing a)) hfind).1]
  obtain ⟨g₀, hg⟩ := Option.isSome_iff_exists.mp h.top
  obtain ⟨r, hr⟩ := State.topJava?_eq_some.mp hg
  have hr2 : (s.setVm vm').frames = .java g₀ :: r := hr
  rw [State.setTop_of_frames _ hr2] at hrest
  rw [State.setTop_of_frames _ hr, hr, State.pushFrame, State.setFrames_setFrames]
  show Steps tb e below (((s.setVm vm').setFrames (Frame.throwing a :: (s.setFrames (Frame.java g :: r)).frames)).setFrames _) target
  rw [State.setFrames_setFrames]
  exact hrest
end
section
/-! A call of a method that throws, in a method that catches it. -/
section MVJ
variable {p : Program} {l : Launch} {e : Env} {R : Room} {s : State} {m : MethodId} {args : Array Value} {below : List Frame} {meth : Method} {cod : Code} {H : Heap} {locs : List Loc} {cells slots : Nat} {Qz : State → Prop}
variable {pc : Nat} {ls : Array Slot} {ad : Nat → Nat} {A : Nat → Prop} {D : va_G} {cl : List vw_C} {kd : List (List Nat)} {cA : Nat → ClassId}
set_option maxHeartbeats 2000000 in
theorem mv_callT (hx : p.tables.exec = Jvm.exec) {cc : ByteArray} (hb : cod.code = cc) (hml : cod.maxLocals = ls.size) {own cls : String} {index : Nat} {y : MethodName} {bytes : ByteArray} {maxL : Nat} {ret : Option FieldType} {ws : List Jvm.Cond} {rm : Room} {Pc : Array Value → State → Prop} {Qt : mv_S → Prop}
    (hM : MetFree l y (headSpec ws rm) Pc (fun _ _ _ _ _ => True) (mv_PT A D cl kd cA ad cls Qt)) (hblind : FrameBlind Pc) (hrc : rm.cells = 1 ∧ rm.slots = 6) (hfr : rm.frames + 1 ≤ R.frames) (hlo : 8 + (maxL + 11) + rm.locals ≤ R.locals) (hc1 : cells + 1 ≤ R.cells) (hc2 : slots + 6 ≤ R.slots)
    (hws : ∀ w ∈ ws, ∀ (a' : Array Value) (U : State), s.WarmedH U.vm → w.before a' U = true) (hcw : Jvm.Cond.code y bytes maxL ret ∈ ws)
    (hown : s.vm.findClass own = some m.cls) (hlink : (Jvm.Cond.methodLink own index y).before args s = true) (hinst : (Jvm.Cond.instanceMethod y).before args s = true) (hsel : (Jvm.Cond.selects y.cls y y).before args s = true) (hcode : (Jvm.Cond.code y bytes maxL ret).before args s = true) (hini : ∀ (a' : Array Value) (U : State), s.WarmedH U.vm → (Jvm.Cond.initialized y.cls).before a' U = true) (hy : y.cls ≠ "java/lang/invoke/MethodHandle" ∧ y.cls ≠ "java/lang/invoke/VarHandle")
    {b : Addr} {As rest : List Value} (hrec : ∃ cellB : Cell, H[b]? = some cellB ∧ cellB.vm.isStatics = false ∧ s.vm.findClass y.cls = some cellB.cls) (hpre : ∀ U : State, U.heap = H → s.WarmedH U.vm → Pc (Value.ref b :: As).toArray U)
    (hlen : ∀ sig, parseMethodDescriptor y.desc = some sig → As.length = sig.parameters.length) (hcat : (rest.map fun v => v.category).sum ≤ 8) (hdg : decode cc pc = .ok (.invokevirtual index, 3))
    {x : ExceptionTableEntry} (htab : cod.exceptionTable.toList = [x]) (hcov : covers x pc = true) (hct : x.catchType ≠ 0) (hclink : (Jvm.Cond.classLink own x.catchType cls).before args s = true)
    (kk : ∀ (S' : mv_S) (ax : Addr) (t : State) (L : List Loc), Qt S' → va_P D cl (mv_ws kd cA ad S') t.heap → va_D A (mv_ws kd cA ad S') → H.size ≤ t.heap.size → (∀ q, q < H.size → ¬ A q → t.heap[q]? = H[q]?) → t.heap.size = H.size + 1 → (∀ q ∈ L, A q.base) → W p l e R s m args below meth cod t.heap (locs ++ L) (cells + 1) (slots + 6) Qz (F0 m x.handlerPc ls [.ref ax])) :
    W p l e R s m args below meth cod H locs cells slots Qz (F0 m pc ls (As.reverse ++ .ref b :: rest)) := by
  intro T hT X
  obtain ⟨cellB, hcB, hoB, hclB⟩ := hrec
  obtain ⟨mk, methM, hnamed, hmethM, hstM, habM⟩ := Cond.instanceMethod_spec hinst
  obtain ⟨methM', cM, hmethM', hcM, -, hlM, -, -, -, hsigM⟩ := Cond.code_spec hnamed hcode
  cases hmethM.symm.trans hmethM'
  obtain ⟨c2, r2, m2, q1, q2, q3, q4, kP, hkP, hkPi⟩ := Cond.selects_spec hsel
  cases hclB.symm.trans q1
  cases (State.methodFound?_of_named hnamed hy).symm.trans q2
  cases hnamed.symm.trans q3
  have hselP : selectMethod e.platform s.vm cellB.cls mk = .method mk := by rw [Launch.admits_selectMethod X.admits]; exact q4
  have hcBT : T.heap[b]? = some cellB := by rw [hT]; exact hcB
  obtain ⟨vm₁, X₁, hstep₁⟩ := X.invokevirtual hx hown hlink hnamed hmethM hstM hkP hkPi hy (a := b) (cell := cellB) hcBT
    (fun z h => by rw [h] at hoB; cases hoB) hselP hmethM habM hkP hkPi (g := F0 m pc ls (As.reverse ++ .ref b :: rest)) rfl (argsL := As) (rest := rest) (hlen _ hsigM) rfl (by rw [hb]; exact hdg)
  have hU : (T.setVm vm₁).heap = H := hT
  generalize hUe : T.setVm vm₁ = U at X₁ hstep₁ hU
  generalize hae : (Value.ref b :: As).toArray = a at hstep₁ hpre
  have hWU : s.WarmedH U.vm := X₁.warmed
  have hn := X₁.named hnamed
  have hpU : Pc a U := hpre U hU hWU
  have h1 : (headSpec ws rm).pre.before a U = true := atoms_intro fun w hw => hws w hw _ _ hWU
  have h2 := hws _ hcw a U hWU
  obtain ⟨methY, cY, hmY, hcY, -, hlY, -⟩ := Cond.code_spec hn h2
  obtain ⟨kY, hkY, -⟩ := className_of_methodNamed hn
  have hinitY : kY.init = .initialized := Cond.initialized_spec (findClass_of_methodNamed hn) hkY (hini a U hWU)
  have hA : At U m cod below := X₁.here
  have happ : (headSpec ws rm).appliesLoose y e.platform (U.calling (F0 m pc ls rest) mk a) = true :=
    Spec.appliesLoose_calling (g := F0 m pc ls rest) hA (by rw [hb]; exact hdg) hn hkY hinitY
      (X₁.room_calling (g := F0 m pc ls rest) (R' := rm) hml.symm hmY hcY hfr (by rw [hlY]; have hz : (F0 m pc ls rest).monitorRoom = 0 := rfl; show 2 * (F0 m pc ls rest).monitorRoom + (rest.map fun v => v.category).sum + (maxL + 11) + rm.locals ≤ R.locals; omega) (by rw [hrc.1]; exact hc1) (by rw [hrc.2]; exact hc2)) h1
  obtain ⟨mid, hmid⟩ := hA.above
  have hfrm : (U.setTop (F0 m pc ls rest)).frames = (.java (F0 m pc ls rest) :: mid) ++ below := by rw [State.frames_setTop' _ hA.top, hmid]; rfl
  obtain ⟨o, s₂, hsteps, -, hend, hq⟩ := Steps.callFree hM p X.admits X.cas X.clock (acts := []) hfrm happ (hblind a U (F0 m pc ls rest) mk hpU) trivial
  have hq' : mv_PT A D cl kd cA ad cls Qt a (U.calling (F0 m pc ls rest) mk a) o s₂ := hq
  rw [State.frames_setTop' _ hA.top] at hend
  obtain ⟨S', ax, ce, L, k1, rfl, hW₂, ⟨e2, q2, q3, q4, q5, q6⟩, k2, k3, k4, k5, k6, k7, k8, k9, k10⟩ := hq'
  have hend' : s₂.frames = .throwing ax :: (.java (F0 m pc ls rest) :: U.frames.tail) := hend
  have e3 : s₂ = ({ (U.calling (F0 m pc ls rest) mk a).setFrames s₂.frames with heap := s₂.heap, slotsUsed := s₂.slotsUsed } : State).setVm s₂.vm := by
    have : s₂ = ({ s₂ with vm := (U.calling (F0 m pc ls rest) mk a).vm } : State).setVm s₂.vm := rfl
    rw [e2] at this
    exact this
  have hW' : U.WarmedH s₂.vm := hW₂
  obtain ⟨g₀, hg0⟩ := Option.isSome_iff_exists.mp hA.top
  obtain ⟨r, hr⟩ := State.topJava?_eq_some.mp hg0
  have hs₂ : s₂ = ((({ U with heap := s₂.heap, slotsUsed := s₂.slotsUsed } : State).setVm s₂.vm).setTop (F0 m pc ls rest)).pushFrame (.throwing ax) := by
    have hr' : (({ U with heap := s₂.heap, slotsUsed := s₂.slotsUsed } : State).setVm s₂.vm).frames = .java g₀ :: r := hr
    refine e3.trans ?_
    rw [hend', State.calling_eq hA.top, State.setFrames_setFrames, State.setTop_of_frames _ hr', hr]
    rw [State.pushFrame, State.setFrames_setFrames, State.frames_setFrames _ (by obtain ⟨t, ht, -⟩ := State.frames_cons hr'; exact (Array.getElem?_eq_some_iff.mp ht).1)]
    rfl
  have hsame : U.sameButNew ({ U with heap := s₂.heap, slotsUsed := s₂.slotsUsed } : State) L 1 6 := by
    refine ⟨?_, q2, q3, q4, q5, q6⟩
    obtain ⟨t, ht, -⟩ := State.frames_cons hr
    show ({ U with heap := s₂.heap, slotsUsed := s₂.slotsUsed } : State) = { U.setFrames U.frames with heap := s₂.heap, slotsUsed := s₂.slotsUsed }
    rw [State.setFrames_self ht]
  have hWs : s.WarmedH s₂.vm := State.WarmedH.trans X₁.warmed hW'
  obtain ⟨ci, hci, hlk⟩ := Cond.classLink_spec hown hclink e.platform (by rw [X.admits.platform])
  obtain ⟨gv, gw, -⟩ := State.classEntry (e := e) (vm₀ := s₂.vm) hWs hlk
  have kci : ce.cls = ci := by
    have h1 : U.vm.findClass cls = some ce.cls := k8
    rw [X₁.warmed.alike.findClass] at h1
    exact Option.some.inj (h1.symm.trans hci)
  have Z : Stand p l e R s m args below meth cod ((({ U with heap := s₂.heap, slotsUsed := s₂.slotsUsed } : State).setVm s₂.vm).setVm (s₂.vm.noted m.cls x.catchType (.cls ci))) (locs ++ L) (cells + 1) (slots + 6) :=
    ⟨X.admits, X.cas, X.clock, X.frames, X.room, X.hears, X.method, X.code, ((X₁.here.setHeapUsed s₂.heap s₂.slotsUsed).setVm hW'.alike).setVm (Vm.Alike.trans (Vm.Alike.symm hWs.alike) gw.alike), X₁.tail, gw, X₁.limits, X₁.bytes, X₁.same.trans (hsame.setVm s.vm)⟩
  have hA2 : At (({ U with heap := s₂.heap, slotsUsed := s₂.slotsUsed } : State).setVm s₂.vm) m cod below := (X₁.here.setHeapUsed s₂.heap s₂.slotsUsed).setVm hW'.alike
  have hHs : (U.calling (F0 m pc ls rest) mk a).heap = H := hU
  obtain ⟨tg, ht1, ht2⟩ := kk S' ax s₂ L k1 k3 k4 (by rw [← hHs]; exact k5.1) (fun q q1 q2 => by rw [← hHs] at q1 ⊢; exact k5.2 q q1 q2) (by rw [← hHs]; exact k6) k2 ((({ U with heap := s₂.heap, slotsUsed := s₂.slotsUsed } : State).setVm s₂.vm).setVm (s₂.vm.noted m.cls x.catchType (.cls ci))) rfl Z
  refine ⟨tg, hstep₁ _ fun acts => ?_, ht2⟩
  rw [doInvoke_state]
  refine hsteps.trans ?_
  rw [hs₂]
  refine mv_caught (g := F0 m pc ls rest) hA2 (vm' := s₂.vm.noted m.cls x.catchType (.cls ci)) (fun Q E d acts => ?_) ht1
  have hal := gw.alike
  have hms : s₂.vm.method? m = some meth := by rw [hWs.alike.method?]; exact X.method
  have hkc : ∃ k, (s₂.vm.noted m.cls x.catchType (.cls ci)).classes[ci]? = some k := by
    refine Vm.classAt_of_findClass (name := cls) ?_
    rw [hal.findClass]
    exact hci
  refine mv_fhs (meth := meth) (code := cod) hms X.code htab hcov hct gv (by rw [Vm.size_noted]; exact Nat.le_refl _) (cell := ce) k7 (fun k h => by rw [k10] at h; cases h) (by rw [kci]; exact hkc) hkc ?_
  have h9 : U.vm.assignable ce.cls ce.cls = true := k9
  rw [X₁.warmed.alike.assignable] at h9
  rw [hal.assignable, ← kci]
  exact h9
end MVJ
end
section
/-! A method's table is checked by a program. -/
def mv_nest (w : Jvm.Cond) : Bool := match w with
  | .fieldLinkNest _ _ _ _ _ _ => true
  | .methodLinkNest _ _ _ _ => true
  | _ => false
def mv_has (tb : List Jvm.Cond) (w : Jvm.Cond) : Bool := tb.any (fun x => decide (x = w)) && goodWord w
def mv_hasN (tb : List Jvm.Cond) (w : Jvm.Cond) : Bool := tb.any (fun x => decide (x = w)) && mv_nest w
theorem mv_any_in {tb : List Jvm.Cond} {w : Jvm.Cond} (h : tb.any (fun x => decide (x = w)) = true) : w ∈ tb := by
  obtain ⟨x, h1, h2⟩ := List.any_eq_true.mp h
  rw [← of_decide_eq_true h2]
  exact h1
theorem mv_has_in {tb tb' : List Jvm.Cond} (hs : ∀ w ∈ tb, w ∈ tb') {w : Jvm.Cond} (h : mv_has tb w = true) : w ∈ tb'.filter goodWord := by
  unfold mv_has at h
  rw [Bool.and_eq_true] at h
  exact List.mem_filter.mpr ⟨hs _ (mv_any_in h.1), h.2⟩
theorem mv_hasN_in {tb tb' : List Jvm.Cond} (hs : ∀ w ∈ tb, w ∈ tb') {w : Jvm.Cond} (h : mv_hasN tb w = true) : w ∈ tb'.filter mv_nest := by
  unfold mv_hasN at h
  rw [Bool.and_eq_true] at h
  exact List.mem_filter.mpr ⟨hs _ (mv_any_in h.1), h.2⟩
def mv_lnkB (tb : List Jvm.Cond) (own : String) (idx : Nat) (r n d : String) : Bool := mv_has tb (.fieldLink own idx r n d) || mv_hasN tb (.fieldLinkNest own idx r n d "KindJudge")
def mv_mlkB (tb : List Jvm.Cond) (own : String) (idx : Nat) (y : MethodName) : Bool := mv_has tb (.methodLink own idx y) || mv_hasN tb (.methodLinkNest own idx y "KindJudge")
theorem mv_lnkB_ok {tb tb' : List Jvm.Cond} (hs : ∀ w ∈ tb, w ∈ tb') {own : String} {idx : Nat} {r n d : String} (h : mv_lnkB tb own idx r n d = true) : mv_lnk (tb'.filter goodWord) (tb'.filter mv_nest) own idx r n d := by
  unfold mv_lnkB at h
  rw [Bool.or_eq_true] at h
  rcases h with h | h
  · exact Or.inl (mv_has_in hs h)
  · exact Or.inr ⟨_, mv_hasN_in hs h⟩
theorem mv_mlkB_ok {tb tb' : List Jvm.Cond} (hs : ∀ w ∈ tb, w ∈ tb') {own : String} {idx : Nat} {y : MethodName} (h : mv_mlkB tb own idx y = true) : mv_mlk (tb'.filter goodWord) (tb'.filter mv_nest) own idx y := by
  unfold mv_mlkB at h
  rw [Bool.or_eq_true] at h
  rcases h with h | h
  · exact Or.inl (mv_has_in hs h)
  · exact Or.inr ⟨_, mv_hasN_in hs h⟩
def mv_npB (y : MethodName) (n : Nat) : Bool := decide ((parseMethodDescriptor y.desc).map (fun d => d.parameters.length) = some n)
theorem mv_npB_ok {y : MethodName} {n : Nat} (h : mv_npB y n = true) : mv_np y n := by
  unfold mv_npB at h
  unfold mv_np
  exact of_decide_eq_true h
def mv_rmB (M Mj : mv_Me) : Bool := Nat.ble (mv_fr Mj + 1) (mv_fr M) && Nat.ble (8 + (mv_ml Mj + 11) + mv_lo Mj) (mv_lo M)
def mv_rwB (tb : List Jvm.Cond) (cl : List vw_C) (kd : List (List Nat)) (prog : List mv_Me) (stn : List (String × String × String)) (M : mv_Me) (i : ClassFile.Instr) (n a b c d : Nat) : Bool := match i with
  | .getfield idx => Nat.beq n 3 && (match cl[a]? with
    | some q => decide ((kd.getD a [])[b]? = some c) && mv_lnkB tb (mv_ow M) idx (q.2.1 b).1 (q.2.1 b).2.1 (q.2.1 b).2.2.1
    | none => false)
  | .putfield idx => Nat.beq n 3 && (match cl[a]? with
    | some q => decide ((kd.getD a [])[b]? = some c) && (bif (q.2.1 b).2.2.2 then decide (M.1.name = "<init>") && (decide ((q.2.1 b).1 = mv_ow M) && mv_has tb (.fieldLink (mv_ow M) idx (q.2.1 b).1 (q.2.1 b).2.1 (q.2.1 b).2.2.1)) else mv_lnkB tb (mv_ow M) idx (q.2.1 b).1 (q.2.1 b).2.1 (q.2.1 b).2.2.1)
    | none => false)
  | .new idx => Nat.beq n 3 && (match cl[a]? with
    | some q => Nat.beq q.2.2 b && (mv_has tb (.classLink (mv_ow M) idx q.1) && (mv_has tb (.instantiable q.1 b) && mv_has tb (.initialized q.1)))
    | none => false)
  | .newarray t => Nat.beq n 2 && (Nat.ble c 3 && (decide (Op.newarray.typeOf t = mv_ty c) && mv_has tb (.arrayClass (mv_ty c))))
  | .ldc idx => Nat.beq n 2 && mv_has tb (.constant (mv_ow M) idx (Int32.ofNat a))
  | .ldc_w idx => Nat.beq n 3 && mv_has tb (.constant (mv_ow M) idx (Int32.ofNat a))
  | .ldc2_w idx => Nat.beq n 3 && mv_has tb (.constantLong (mv_ow M) idx (Int64.ofNat a))
  | .getstatic idx => Nat.beq n 3 && (match stn[a]? with
    | some q => mv_has tb (.fieldLink (mv_ow M) idx q.1 q.2.1 q.2.2)
    | none => false)
  | .invokespecial idx => Nat.beq n 3 && (match c with
    | 3 => Nat.ble 1 (mv_fr M) && (Nat.ble 20 (mv_lo M) && (mv_has tb (.methodLink (mv_ow M) idx Lib.objectInit) && (mv_has tb (.instanceMethod Lib.objectInit) && mv_has tb (.code Lib.objectInit ⟨#[0xb1]⟩ 1 none))))
    | 2 => (match prog[a]? with
      | some Mj => mv_rmB M Mj && (decide (mv_rt Mj = none) && (Nat.ble 1 b && (mv_npB Mj.1 (b - 1) && (mv_mlkB tb (mv_ow M) idx Mj.1 && (decide (Mj.1.name = "<init>") && mv_has tb (.instanceMethod Mj.1))))))
      | none => false)
    | _ => false)
  | .invokestatic idx => Nat.beq n 3 && (match c with
    | 4 => Nat.ble 1 (mv_fr M) && (Nat.ble 21 (mv_lo M) && (mv_has tb (.methodLink (mv_ow M) idx Lib.Math.max.name) && (mv_has tb (.static Lib.Math.max.name) && (mv_has tb (.initialized "java/lang/Math") && mv_has tb (.code Lib.Math.max.name Lib.Math.max.code 2 (some .int))))))
    | 5 => Nat.ble 1 (mv_fr M) && (Nat.ble 21 (mv_lo M) && (mv_has tb (.methodLink (mv_ow M) idx Lib.Math.min.name) && (mv_has tb (.static Lib.Math.min.name) && (mv_has tb (.initialized "java/lang/Math") && mv_has tb (.code Lib.Math.min.name Lib.Math.min.code 2 (some .int))))))
    | 1 => (match prog[a]? with
      | some Mj => mv_rmB M Mj && (mv_npB Mj.1 b && (mv_mlkB tb (mv_ow M) idx Mj.1 && mv_has tb (.static Mj.1)))
      | none => false)
    | _ => false)
  | .invokevirtual idx => Nat.beq n 3 && (match c with
    | 0 => (match prog[a]?, cl[d]? with
      | some Mj, some q => mv_rmB M Mj && (Nat.ble 1 b && (mv_npB Mj.1 (b - 1) && (decide (q.1 = Mj.1.cls) && (mv_mlkB tb (mv_ow M) idx Mj.1 && (mv_has tb (.instanceMethod Mj.1) && mv_has tb (.selects Mj.1.cls Mj.1 Mj.1))))))
      | _, _ => false)
    | _ => false)
  | .lookupswitch _ _ => true
  | .tableswitch _ _ _ _ => true
  | i => Nat.beq n (mv_len i)
theorem mv_rmB_ok {M Mj : mv_Me} (h : mv_rmB M Mj = true) : mv_rm M Mj := by
  unfold mv_rmB at h
  rw [Bool.and_eq_true] at h
  exact ⟨Nat.le_of_ble_eq_true h.1, Nat.le_of_ble_eq_true h.2⟩
set_option maxHeartbeats 4000000 in
theorem mv_rwB_ok {tb tb' : List Jvm.Cond} (hs : ∀ w ∈ tb, w ∈ tb') {cl : List vw_C} {kd : List (List Nat)} {prog : List mv_Me} {stn : List (String × String × String)} {M : mv_Me} {i : ClassFile.Instr} {n a b c d : Nat} (h : mv_rwB tb cl kd prog stn M i n a b c d = true) : mv_Rw cl kd (tb'.filter goodWord) (tb'.filter mv_nest) prog stn M i n a b c d := by
  cases i
  case getfield idx =>
    simp only [mv_rwB, Bool.and_eq_true] at h
    obtain ⟨h0, h⟩ := h
    split at h
    · rename_i q hq
      rw [Bool.and_eq_true] at h
      exact ⟨Nat.eq_of_beq_eq_true h0, q.1, q.2.1, q.2.2, hq, of_decide_eq_true h.1, mv_lnkB_ok hs h.2⟩
    · cases h
  case putfield idx =>
    simp only [mv_rwB, Bool.and_eq_true] at h
    obtain ⟨h0, h⟩ := h
    split at h
    · rename_i q hq
      rw [Bool.and_eq_true] at h
      refine ⟨Nat.eq_of_beq_eq_true h0, q.1, q.2.1, q.2.2, hq, of_decide_eq_true h.1, ?_⟩
      cases hf : (q.2.1 b).2.2.2 with
      | true =>
        rw [hf] at h
        simp only [cond_true, Bool.and_eq_true] at h
        exact Or.inr ⟨rfl, of_decide_eq_true h.2.1, of_decide_eq_true h.2.2.1, mv_has_in hs h.2.2.2⟩
      | false =>
        rw [hf] at h
        exact Or.inl ⟨rfl, mv_lnkB_ok hs h.2⟩
    · cases h
  case new idx =>
    simp only [mv_rwB, Bool.and_eq_true] at h
    obtain ⟨h0, h⟩ := h
    split at h
    · rename_i q hq
      simp only [Bool.and_eq_true] at h
      have e : q.2.2 = b := Nat.eq_of_beq_eq_true h.1
      exact ⟨Nat.eq_of_beq_eq_true h0, q.1, q.2.1, by rw [hq, ← e], mv_has_in hs h.2.1, mv_has_in hs h.2.2.1, mv_has_in hs h.2.2.2⟩
    · cases h
  case newarray t =>
    simp only [mv_rwB, Bool.and_eq_true] at h
    exact ⟨Nat.eq_of_beq_eq_true h.1, Nat.le_of_ble_eq_true h.2.1, of_decide_eq_true h.2.2.1, mv_has_in hs h.2.2.2⟩
  case ldc idx =>
    simp only [mv_rwB, Bool.and_eq_true] at h
    exact ⟨Nat.eq_of_beq_eq_true h.1, mv_has_in hs h.2⟩
  case ldc_w idx =>
    simp only [mv_rwB, Bool.and_eq_true] at h
    exact ⟨Nat.eq_of_beq_eq_true h.1, mv_has_in hs h.2⟩
  case ldc2_w idx =>
    simp only [mv_rwB, Bool.and_eq_true] at h
    exact ⟨Nat.eq_of_beq_eq_true h.1, mv_has_in hs h.2⟩
  case getstatic idx =>
    simp only [mv_rwB, Bool.and_eq_true] at h
    obtain ⟨h0, h⟩ := h
    split at h
    · rename_i q hq
      exact ⟨Nat.eq_of_beq_eq_true h0, q, hq, mv_has_in hs h⟩
    · cases h
  case invokespecial idx =>
    simp only [mv_rwB, Bool.and_eq_true] at h
    obtain ⟨h0, h⟩ := h
    split at h
    · simp only [Bool.and_eq_true] at h
      exact ⟨Nat.eq_of_beq_eq_true h0, fun _ => ⟨Nat.le_of_ble_eq_true h.1, Nat.le_of_ble_eq_true h.2.1, mv_has_in hs h.2.2.1, mv_has_in hs h.2.2.2.1, mv_has_in hs h.2.2.2.2⟩, (fun e => absurd e (by decide))⟩
    · split at h
      · rename_i Mj hj
        simp only [Bool.and_eq_true] at h
        have hb : 1 ≤ b := Nat.le_of_ble_eq_true h.2.2.1
        exact ⟨Nat.eq_of_beq_eq_true h0, (fun e => absurd e (by decide)), fun _ => ⟨Mj, b - 1, hj, mv_rmB_ok h.1, of_decide_eq_true h.2.1, by omega, mv_npB_ok h.2.2.2.1, mv_mlkB_ok hs h.2.2.2.2.1, of_decide_eq_true h.2.2.2.2.2.1, mv_has_in hs h.2.2.2.2.2.2⟩⟩
      · cases h
    · cases h
  case invokestatic idx =>
    simp only [mv_rwB, Bool.and_eq_true] at h
    obtain ⟨h0, h⟩ := h
    split at h
    · simp only [Bool.and_eq_true] at h
      exact ⟨Nat.eq_of_beq_eq_true h0, fun _ => ⟨Nat.le_of_ble_eq_true h.1, Nat.le_of_ble_eq_true h.2.1, mv_has_in hs h.2.2.1, mv_has_in hs h.2.2.2.1, mv_has_in hs h.2.2.2.2.1, mv_has_in hs h.2.2.2.2.2⟩, (fun e => absurd e (by decide)), (fun e => absurd e (by decide))⟩
    · simp only [Bool.and_eq_true] at h
      exact ⟨Nat.eq_of_beq_eq_true h0, (fun e => absurd e (by decide)), fun _ => ⟨Nat.le_of_ble_eq_true h.1, Nat.le_of_ble_eq_true h.2.1, mv_has_in hs h.2.2.1, mv_has_in hs h.2.2.2.1, mv_has_in hs h.2.2.2.2.1, mv_has_in hs h.2.2.2.2.2⟩, (fun e => absurd e (by decide))⟩
    · split at h
      · rename_i Mj hj
        simp only [Bool.and_eq_true] at h
        exact ⟨Nat.eq_of_beq_eq_true h0, (fun e => absurd e (by decide)), (fun e => absurd e (by decide)), fun _ => ⟨Mj, hj, mv_rmB_ok h.1, mv_npB_ok h.2.1, mv_mlkB_ok hs h.2.2.1, mv_has_in hs h.2.2.2⟩⟩
      · cases h
    · cases h
  case invokevirtual idx =>
    simp only [mv_rwB, Bool.and_eq_true] at h
    obtain ⟨h0, h⟩ := h
    split at h
    · split at h
      · rename_i Mj q hj hq
        simp only [Bool.and_eq_true] at h
        have hb : 1 ≤ b := Nat.le_of_ble_eq_true h.2.1
        have e : q.1 = Mj.1.cls := of_decide_eq_true h.2.2.2.1
        exact ⟨Nat.eq_of_beq_eq_true h0, fun _ => ⟨Mj, b - 1, q.2.1, q.2.2, hj, mv_rmB_ok h.1, by omega, mv_npB_ok h.2.2.1, by rw [hq, ← e], mv_mlkB_ok hs h.2.2.2.2.1, mv_has_in hs h.2.2.2.2.2.1, mv_has_in hs h.2.2.2.2.2.2⟩⟩
      · cases h
    · cases h
  all_goals first
    | exact Nat.eq_of_beq_eq_true h
    | exact trivial
def mv_mkB (tb : List Jvm.Cond) (cl : List vw_C) (kd : List (List Nat)) (prog : List mv_Me) (stn : List (String × String × String)) (M : mv_Me) : Bool :=
  Jvm.plainName M.1.cls && (decide (M.1.cls = mv_ow M) && (mv_has tb (.code M.1 (mv_cc M) (mv_ml M) (mv_rt M)) && (mv_has tb (.initialized M.1.cls) && (decide (M.1.cls ≠ "java/lang/invoke/MethodHandle") && (decide (M.1.cls ≠ "java/lang/invoke/VarHandle") && (mv_tb M).all (fun e => decide (decode (mv_cc M) e.1 = .ok (e.2.1, e.2.2.1)) && mv_rwB tb cl kd prog stn M e.2.1 e.2.2.1 e.2.2.2.1 e.2.2.2.2.1 e.2.2.2.2.2.1 e.2.2.2.2.2.2))))))
theorem mv_mkB_ok {tb tb' : List Jvm.Cond} (hs : ∀ w ∈ tb, w ∈ tb') {cl : List vw_C} {kd : List (List Nat)} {prog : List mv_Me} {stn : List (String × String × String)} {M : mv_Me} (h : mv_mkB tb cl kd prog stn M = true) : mv_Mk cl kd (tb'.filter goodWord) (tb'.filter mv_nest) prog stn M := by
  unfold mv_mkB at h
  simp only [Bool.and_eq_true] at h
  obtain ⟨h1, h2, h3, h4, h5, h6, h7⟩ := h
  refine ⟨h1, of_decide_eq_true h2, mv_has_in hs h3, mv_has_in hs h4, of_decide_eq_true h5, of_decide_eq_true h6, fun e he => ?_⟩
  have h8 := List.all_eq_true.mp h7 e he
  rw [Bool.and_eq_true] at h8
  exact ⟨of_decide_eq_true h8.1, mv_rwB_ok hs h8.2⟩
theorem mv_sub_of {tb ws : List Jvm.Cond} (ps : List Nat) (h : ws = ps.filterMap (fun i => tb[i]?)) : ∀ w ∈ ws, w ∈ tb := fun w hw => by
  rw [h] at hw
  obtain ⟨i, -, hi⟩ := List.mem_filterMap.mp hw
  exact List.mem_of_getElem? hi
theorem mv_good_all {tb : List Jvm.Cond} : ∀ w ∈ tb.filter goodWord, (w.onTables && w.keeps) = true ∨ ∃ ty, w = .arrayClass ty := fun w hw => good_of_word (List.mem_filter.mp hw).2
theorem mv_nest_all {tb : List Jvm.Cond} : ∀ w ∈ tb.filter mv_nest, (∃ a i b n d h, w = Jvm.Cond.fieldLinkNest a i b n d h) ∨ ∃ a i x h, w = Jvm.Cond.methodLinkNest a i x h := fun w hw => by
  have h := (List.mem_filter.mp hw).2
  unfold mv_nest at h
  split at h
  · exact Or.inl ⟨_, _, _, _, _, _, rfl⟩
  · exact Or.inr ⟨_, _, _, _, rfl⟩
  · cases h
end
section
/-! The methods of the class and of the reference as tables (by program: wip/p1/mkparts.py). -/
def kjF_0 : u_T := fun k => match k with
  | 0 => ("KindJudge", "file", "LKindJudge$Book;", false)
  | 1 => ("KindJudge", "draft", "LKindJudge$Book;", false)
  | 2 => ("KindJudge", "goodFiles", "I", false)
  | 3 => ("KindJudge", "faultKind", "I", false)
  | 4 => ("KindJudge", "faultPlace", "I", false)
  | _ => ("KindJudge", "faultMethod", "I", false)
def kjY_0 : Nat → FieldType := fun k => match k with
  | 0 => .object "KindJudge$Book"
  | 1 => .object "KindJudge$Book"
  | 2 => .int
  | 3 => .int
  | 4 => .int
  | _ => .int
def kjF_1 : u_T := fun k => match k with
  | 0 => ("KindJudge$Book", "bytes", "LKindJudge$Bytes;", true)
  | 1 => ("KindJudge$Book", "layout", "LKindJudge$Layout;", true)
  | 2 => ("KindJudge$Book", "code", "LKindJudge$Code;", true)
  | _ => ("KindJudge$Book", "flow", "LKindJudge$Flow;", true)
def kjY_1 : Nat → FieldType := fun k => match k with
  | 0 => .object "KindJudge$Bytes"
  | 1 => .object "KindJudge$Layout"
  | 2 => .object "KindJudge$Code"
  | _ => .object "KindJudge$Flow"
def kjF_2 : u_T := fun k => match k with
  | 0 => ("KindJudge$Bytes", "row", "[B", true)
  | _ => ("KindJudge$Bytes", "length", "I", false)
def kjY_2 : Nat → FieldType := fun k => match k with
  | 0 => .array .byte
  | _ => .int
def kjF_3 : u_T := fun k => match k with
  | 0 => ("KindJudge$Layout", "classes", "LKindJudge$Classes;", true)
  | 1 => ("KindJudge$Layout", "selectors", "LKindJudge$Signatures;", true)
  | 2 => ("KindJudge$Layout", "methods", "LKindJudge$Signatures;", true)
  | 3 => ("KindJudge$Layout", "reader", "LKindJudge$Reader;", true)
  | 4 => ("KindJudge$Layout", "locals", "[I", true)
  | 5 => ("KindJudge$Layout", "stacks", "[I", true)
  | 6 => ("KindJudge$Layout", "starts", "[I", true)
  | 7 => ("KindJudge$Layout", "lengths", "[I", true)
  | _ => ("KindJudge$Layout", "table", "[I", true)
def kjY_3 : Nat → FieldType := fun k => match k with
  | 0 => .object "KindJudge$Classes"
  | 1 => .object "KindJudge$Signatures"
  | 2 => .object "KindJudge$Signatures"
  | 3 => .object "KindJudge$Reader"
  | 4 => .array .int
  | 5 => .array .int
  | 6 => .array .int
  | 7 => .array .int
  | _ => .array .int
def kjF_4 : u_T := fun k => match k with
  | 0 => ("KindJudge$Classes", "supers", "[I", true)
  | 1 => ("KindJudge$Classes", "fieldCounts", "[I", true)
  | 2 => ("KindJudge$Classes", "fieldTypes", "[I", true)
  | 3 => ("KindJudge$Classes", "above", "[I", true)
  | _ => ("KindJudge$Classes", "number", "I", false)
def kjY_4 : Nat → FieldType := fun k => match k with
  | 0 => .array .int
  | 1 => .array .int
  | 2 => .array .int
  | 3 => .array .int
  | _ => .int
def kjF_5 : u_T := fun k => match k with
  | 0 => ("KindJudge$Signatures", "counts", "[I", true)
  | 1 => ("KindJudge$Signatures", "types", "[I", true)
  | 2 => ("KindJudge$Signatures", "returned", "[I", true)
  | _ => ("KindJudge$Signatures", "number", "I", false)
def kjY_5 : Nat → FieldType := fun k => match k with
  | 0 => .array .int
  | 1 => .array .int
  | 2 => .array .int
  | _ => .int
def kjF_6 : u_T := fun k => match k with
  | 0 => ("KindJudge$Reader", "bytes", "LKindJudge$Bytes;", true)
  | 1 => ("KindJudge$Reader", "at", "I", false)
  | _ => ("KindJudge$Reader", "stopped", "Z", false)
def kjY_6 : Nat → FieldType := fun k => match k with
  | 0 => .object "KindJudge$Bytes"
  | 1 => .int
  | _ => .boolean
def kjF_7 : u_T := fun k => match k with
  | 0 => ("KindJudge$Code", "bytes", "LKindJudge$Bytes;", true)
  | 1 => ("KindJudge$Code", "layout", "LKindJudge$Layout;", true)
  | _ => ("KindJudge$Code", "begun", "[Z", true)
def kjY_7 : Nat → FieldType := fun k => match k with
  | 0 => .object "KindJudge$Bytes"
  | 1 => .object "KindJudge$Layout"
  | _ => .array .boolean
def kjF_8 : u_T := fun k => match k with
  | 0 => ("KindJudge$Flow", "layout", "LKindJudge$Layout;", true)
  | 1 => ("KindJudge$Flow", "code", "LKindJudge$Code;", true)
  | 2 => ("KindJudge$Flow", "heights", "[B", true)
  | 3 => ("KindJudge$Flow", "frames", "[J", true)
  | 4 => ("KindJudge$Flow", "changed", "[Z", true)
  | 5 => ("KindJudge$Flow", "op", "I", false)
  | 6 => ("KindJudge$Flow", "first", "I", false)
  | 7 => ("KindJudge$Flow", "second", "I", false)
  | 8 => ("KindJudge$Flow", "height", "I", false)
  | 9 => ("KindJudge$Flow", "low", "I", false)
  | 10 => ("KindJudge$Flow", "behind", "I", false)
  | _ => ("KindJudge$Flow", "frame", "J", false)
def kjY_8 : Nat → FieldType := fun k => match k with
  | 0 => .object "KindJudge$Layout"
  | 1 => .object "KindJudge$Code"
  | 2 => .array .byte
  | 3 => .array .long
  | 4 => .array .boolean
  | 5 => .int
  | 6 => .int
  | 7 => .int
  | 8 => .int
  | 9 => .int
  | 10 => .int
  | _ => .long
def kjF_9 : u_T := fun k => match k with
  | 0 => ("KindJudgeModel", "thrown", "I", false)
  | 1 => ("KindJudgeModel", "goods", "I", false)
  | 2 => ("KindJudgeModel", "together", "I", false)
  | 3 => ("KindJudgeModel", "bytes", "[I", true)
  | 4 => ("KindJudgeModel", "read", "[I", true)
  | 5 => ("KindJudgeModel", "readLong", "I", false)
  | 6 => ("KindJudgeModel", "file", "[I", true)
  | 7 => ("KindJudgeModel", "fileLong", "I", false)
  | 8 => ("KindJudgeModel", "isFile", "Z", false)
  | 9 => ("KindJudgeModel", "fault", "I", false)
  | 10 => ("KindJudgeModel", "faultPlace", "I", false)
  | 11 => ("KindJudgeModel", "faultMethod", "I", false)
  | 12 => ("KindJudgeModel", "classes", "I", false)
  | 13 => ("KindJudgeModel", "above", "[I", true)
  | 14 => ("KindJudgeModel", "fields", "[I", true)
  | 15 => ("KindJudgeModel", "fieldType", "[I", true)
  | 16 => ("KindJudgeModel", "selectors", "I", false)
  | 17 => ("KindJudgeModel", "selParams", "[I", true)
  | 18 => ("KindJudgeModel", "selType", "[I", true)
  | 19 => ("KindJudgeModel", "selReturn", "[I", true)
  | 20 => ("KindJudgeModel", "methods", "I", false)
  | 21 => ("KindJudgeModel", "params", "[I", true)
  | 22 => ("KindJudgeModel", "paramType", "[I", true)
  | 23 => ("KindJudgeModel", "returns", "[I", true)
  | 24 => ("KindJudgeModel", "locals", "[I", true)
  | 25 => ("KindJudgeModel", "most", "[I", true)
  | 26 => ("KindJudgeModel", "size", "[I", true)
  | 27 => ("KindJudgeModel", "code", "[I", true)
  | 28 => ("KindJudgeModel", "begins", "[Z", true)
  | 29 => ("KindJudgeModel", "table", "[I", true)
  | 30 => ("KindJudgeModel", "height", "[I", true)
  | 31 => ("KindJudgeModel", "kinds", "[I", true)
  | 32 => ("KindJudgeModel", "next", "[I", true)
  | 33 => ("KindJudgeModel", "nextHeight", "I", false)
  | 34 => ("KindJudgeModel", "breaks", "Z", false)
  | 35 => ("KindJudgeModel", "at", "I", false)
  | _ => ("KindJudgeModel", "bad", "Z", false)
def kjY_9 : Nat → FieldType := fun k => match k with
  | 0 => .int
  | 1 => .int
  | 2 => .int
  | 3 => .array .int
  | 4 => .array .int
  | 5 => .int
  | 6 => .array .int
  | 7 => .int
  | 8 => .boolean
  | 9 => .int
  | 10 => .int
  | 11 => .int
  | 12 => .int
  | 13 => .array .int
  | 14 => .array .int
  | 15 => .array .int
  | 16 => .int
  | 17 => .array .int
  | 18 => .array .int
  | 19 => .array .int
  | 20 => .int
  | 21 => .array .int
  | 22 => .array .int
  | 23 => .array .int
  | 24 => .array .int
  | 25 => .array .int
  | 26 => .array .int
  | 27 => .array .int
  | 28 => .array .boolean
  | 29 => .array .int
  | 30 => .array .int
  | 31 => .array .int
  | 32 => .array .int
  | 33 => .int
  | 34 => .boolean
  | 35 => .int
  | _ => .boolean
def kjCl : List vw_C := [("KindJudge", kjF_0, 6), ("KindJudge$Book", kjF_1, 4), ("KindJudge$Bytes", kjF_2, 2), ("KindJudge$Layout", kjF_3, 9), ("KindJudge$Classes", kjF_4, 5), ("KindJudge$Signatures", kjF_5, 4), ("KindJudge$Reader", kjF_6, 3), ("KindJudge$Code", kjF_7, 3), ("KindJudge$Flow", kjF_8, 12), ("KindJudgeModel", kjF_9, 37)]
def kjKd : List (List Nat) := [[4, 4, 0, 0, 0, 0], [4, 4, 4, 4], [4, 0], [4, 4, 4, 4, 4, 4, 4, 4, 4], [4, 4, 4, 4, 0], [4, 4, 4, 0], [4, 0, 1], [4, 4, 4], [4, 4, 4, 4, 4, 0, 0, 0, 0, 0, 0, 3], [0, 0, 0, 4, 4, 0, 4, 0, 1, 0, 0, 0, 0, 4, 4, 4, 0, 4, 4, 4, 0, 4, 4, 4, 4, 4, 4, 4, 4, 4, 4, 4, 4, 0, 1, 0, 1]]
def kjStn : List (String × String × String) := []
def kjSta (_ : Nat) : List Int32 := []
def kjT_0 : List mv_E := [(0, .aload_n 0, 1, 0, 0, 0, 0), (1, .invokespecial 1, 3, 0, 0, 3, 0), (4, .aload_n 0, 1, 0, 0, 0, 0), (5, .new 7, 3, 1, 4, 0, 0), (8, .dup, 1, 0, 0, 0, 0), (9, .invokespecial 9, 3, 18, 1, 2, 0), (12, .putfield 10, 3, 0, 0, 4, 0), (15, .aload_n 0, 1, 0, 0, 0, 0), (16, .new 7, 3, 1, 4, 0, 0), (19, .dup, 1, 0, 0, 0, 0), (20, .invokespecial 9, 3, 18, 1, 2, 0), (23, .putfield 16, 3, 0, 1, 4, 0), (26, .return_, 1, 0, 0, 0, 0)]
/-- KindJudge.<init>()V -/
def kjM_0 : mv_Me := (⟨"KindJudge", "<init>", "()V"⟩, prog_1_method_1_code, 1, none, "KindJudge", kjT_0, 58, 13148, 4, 85)
def kjT_1 : List mv_E := [(0, .aload_n 0, 1, 0, 0, 0, 0), (1, .getfield 16, 3, 0, 1, 4, 0), (4, .getfield 19, 3, 1, 0, 4, 0), (7, .lload_n 1, 1, 0, 0, 0, 0), (8, .iload_n 3, 1, 0, 0, 0, 0), (9, .invokevirtual 23, 3, 20, 3, 0, 2), (12, .ireturn, 1, 0, 0, 0, 0)]
/-- KindJudge.put(JI)Z -/
def kjM_1 : mv_Me := (⟨"KindJudge", "put", "(JI)Z"⟩, prog_1_method_2_code, 4, (some .boolean), "KindJudge", kjT_1, 0, 0, 1, 24)
def kjT_2 : List mv_E := [(0, .aload_n 0, 1, 0, 0, 0, 0), (1, .invokevirtual 29, 3, 13, 1, 0, 0), (4, .aload_n 0, 1, 0, 0, 0, 0), (5, .getfield 32, 3, 0, 3, 0, 0), (8, .ifCond .eq 23, 3, 0, 0, 0, 0), (11, .aload_n 0, 1, 0, 0, 0, 0), (12, .getfield 16, 3, 0, 1, 4, 0), (15, .getfield 19, 3, 1, 0, 4, 0), (18, .invokevirtual 36, 3, 21, 1, 0, 2)]
/-- KindJudge.load()I -/
def kjM_2 : mv_Me := (⟨"KindJudge", "load", "()I"⟩, prog_1_method_3_code, 2, (some .int), "KindJudge", kjT_2, 0, 0, 7, 176)
def kjT_3 : List mv_E := [(0, .iload_n 1, 1, 0, 0, 0, 0), (1, .ifCond .ne 8, 3, 0, 0, 0, 0), (4, .aload_n 0, 1, 0, 0, 0, 0), (5, .getfield 32, 3, 0, 3, 0, 0), (8, .ireturn, 1, 0, 0, 0, 0), (9, .iload_n 1, 1, 0, 0, 0, 0), (10, .iconst 1, 1, 0, 0, 0, 0), (11, .if_icmp .ne 8, 3, 0, 0, 0, 0), (14, .aload_n 0, 1, 0, 0, 0, 0), (15, .getfield 64, 3, 0, 4, 0, 0), (18, .ireturn, 1, 0, 0, 0, 0), (19, .iload_n 1, 1, 0, 0, 0, 0), (20, .iconst 2, 1, 0, 0, 0, 0), (21, .if_icmp .ne 10, 3, 0, 0, 0, 0), (24, .aload_n 0, 1, 0, 0, 0, 0), (25, .getfield 67, 3, 0, 5, 0, 0), (28, .goto 4, 3, 0, 0, 0, 0), (31, .iconst (-1), 1, 0, 0, 0, 0), (32, .ireturn, 1, 0, 0, 0, 0)]
/-- KindJudge.fault(I)I -/
def kjM_3 : mv_Me := (⟨"KindJudge", "fault", "(I)I"⟩, prog_1_method_4_code, 2, (some .int), "KindJudge", kjT_3, 0, 0, 0, 0)
def kjT_4 : List mv_E := [(0, .aload_n 0, 1, 0, 0, 0, 0), (1, .getfield 10, 3, 0, 0, 4, 0), (4, .getfield 70, 3, 1, 2, 4, 0), (7, .iload_n 1, 1, 0, 0, 0, 0), (8, .iload_n 2, 1, 0, 0, 0, 0), (9, .invokevirtual 74, 3, 66, 3, 0, 7), (12, .ifCond .ne 5, 3, 0, 0, 0, 0), (15, .iconst (-1), 1, 0, 0, 0, 0), (16, .ireturn, 1, 0, 0, 0, 0)]
/-- KindJudge.kind(III)I -/
def kjM_4 : mv_Me := (⟨"KindJudge", "kind", "(III)I"⟩, prog_1_method_5_code, 5, (some .int), "KindJudge", kjT_4, 0, 0, 4, 89)
def kjT_5 : List mv_E := [(0, .iload_n 3, 1, 0, 0, 0, 0), (1, .ifCond .lt 23, 3, 0, 0, 0, 0), (4, .iload_n 3, 1, 0, 0, 0, 0), (5, .iconst 5, 1, 0, 0, 0, 0), (6, .if_icmp .gt 18, 3, 0, 0, 0, 0), (9, .aload_n 0, 1, 0, 0, 0, 0), (10, .getfield 10, 3, 0, 0, 4, 0), (13, .getfield 70, 3, 1, 2, 4, 0), (16, .iload_n 1, 1, 0, 0, 0, 0), (17, .iload_n 2, 1, 0, 0, 0, 0), (18, .invokevirtual 74, 3, 66, 3, 0, 7), (21, .ifCond .ne 13, 3, 0, 0, 0, 0)]
/-- KindJudge.look(III)I -/
def kjM_5 : mv_Me := (⟨"KindJudge", "look", "(III)I"⟩, prog_1_method_6_code, 7, (some .int), "KindJudge", kjT_5, 0, 0, 4, 90)
def kjT_6 : List mv_E := [(0, .aload_n 0, 1, 0, 0, 0, 0), (1, .getfield 10, 3, 0, 0, 4, 0), (4, .getfield 70, 3, 1, 2, 4, 0), (7, .iload_n 1, 1, 0, 0, 0, 0), (8, .iload_n 2, 1, 0, 0, 0, 0), (9, .invokevirtual 74, 3, 66, 3, 0, 7), (12, .ifCond .ne 5, 3, 0, 0, 0, 0), (15, .iconst (-1), 1, 0, 0, 0, 0), (16, .ireturn, 1, 0, 0, 0, 0)]
/-- KindJudge.ways(II)I -/
def kjM_6 : mv_Me := (⟨"KindJudge", "ways", "(II)I"⟩, prog_1_method_7_code, 6, (some .int), "KindJudge", kjT_6, 0, 0, 5, 115)
def kjT_7 : List mv_E := [(0, .aload_n 0, 1, 0, 0, 0, 0), (1, .getfield 10, 3, 0, 0, 4, 0), (4, .getfield 49, 3, 1, 1, 4, 0), (7, .getfield 53, 3, 3, 2, 4, 0), (10, .iload_n 1, 1, 0, 0, 0, 0), (11, .invokevirtual 125, 3, 49, 2, 0, 5), (14, .ifCond .eq 12, 3, 0, 0, 0, 0), (26, .iconst (-1), 1, 0, 0, 0, 0), (27, .ireturn, 1, 0, 0, 0, 0)]
/-- KindJudge.count(II)I -/
def kjM_7 : mv_Me := (⟨"KindJudge", "count", "(II)I"⟩, prog_1_method_8_code, 3, (some .int), "KindJudge", kjT_7, 0, 0, 6, 134)
def kjT_8 : List mv_E := [(0, .aload_n 0, 1, 0, 0, 0, 0), (1, .getfield 10, 3, 0, 0, 4, 0), (4, .getfield 49, 3, 1, 1, 4, 0), (7, .getfield 136, 3, 3, 0, 4, 0), (10, .astore_n 3, 1, 0, 0, 0, 0), (11, .aload_n 0, 1, 0, 0, 0, 0), (12, .getfield 46, 3, 0, 2, 0, 0), (15, .ifCond .eq 23, 3, 0, 0, 0, 0), (38, .iconst (-1), 1, 0, 0, 0, 0), (39, .ireturn, 1, 0, 0, 0, 0)]
/-- KindJudge.fits(II)I -/
def kjM_8 : mv_Me := (⟨"KindJudge", "fits", "(II)I"⟩, prog_1_method_9_code, 4, (some .int), "KindJudge", kjT_8, 0, 0, 2, 44)
def kjT_9 : List mv_E := [(0, .aload_n 0, 1, 0, 0, 0, 0), (1, .getfield 10, 3, 0, 0, 4, 0), (4, .getfield 49, 3, 1, 1, 4, 0), (7, .getfield 136, 3, 3, 0, 4, 0), (10, .astore_n 3, 1, 0, 0, 0, 0), (11, .aload_n 0, 1, 0, 0, 0, 0), (12, .getfield 46, 3, 0, 2, 0, 0), (15, .ifCond .eq 19, 3, 0, 0, 0, 0), (34, .iconst (-1), 1, 0, 0, 0, 0), (35, .ireturn, 1, 0, 0, 0, 0)]
/-- KindJudge.meet(II)I -/
def kjM_9 : mv_Me := (⟨"KindJudge", "meet", "(II)I"⟩, prog_1_method_10_code, 4, (some .int), "KindJudge", kjT_9, 0, 0, 2, 45)
def kjT_10 : List mv_E := [(0, .aload_n 0, 1, 0, 0, 0, 0), (1, .getfield 10, 3, 0, 0, 4, 0), (4, .getfield 49, 3, 1, 1, 4, 0), (7, .iload_n 1, 1, 0, 0, 0, 0), (8, .iload_n 2, 1, 0, 0, 0, 0), (9, .invokevirtual 154, 3, 29, 3, 0, 3), (12, .ireturn, 1, 0, 0, 0, 0)]
/-- KindJudge.method(II)I -/
def kjM_10 : mv_Me := (⟨"KindJudge", "method", "(II)I"⟩, prog_1_method_11_code, 3, (some .int), "KindJudge", kjT_10, 0, 0, 2, 43)
def kjT_11 : List mv_E := [(0, .aload_n 0, 1, 0, 0, 0, 0), (1, .getfield 10, 3, 0, 0, 4, 0), (4, .getfield 49, 3, 1, 1, 4, 0), (7, .getfield 136, 3, 3, 0, 4, 0), (10, .astore_n 3, 1, 0, 0, 0, 0), (11, .aload_n 3, 1, 0, 0, 0, 0), (12, .iload_n 1, 1, 0, 0, 0, 0), (13, .invokevirtual 157, 3, 37, 2, 0, 4), (16, .ifCond .eq 7, 3, 0, 0, 0, 0), (23, .iconst (-1), 1, 0, 0, 0, 0), (24, .ireturn, 1, 0, 0, 0, 0)]
/-- KindJudge.type(II)I -/
def kjM_11 : mv_Me := (⟨"KindJudge", "type", "(II)I"⟩, prog_1_method_12_code, 4, (some .int), "KindJudge", kjT_11, 0, 0, 2, 43)
def kjT_12 : List mv_E := [(0, .iload_n 1, 1, 0, 0, 0, 0), (1, .tableswitch 93 0 4 #[35, 49, 63, 77, 88], 35, 0, 0, 0, 0), (36, .aload_n 0, 1, 0, 0, 0, 0), (37, .getfield 10, 3, 0, 0, 4, 0), (40, .getfield 49, 3, 1, 1, 4, 0), (43, .getfield 53, 3, 3, 2, 4, 0), (46, .getfield 59, 3, 5, 3, 0, 0), (49, .ireturn, 1, 0, 0, 0, 0), (50, .aload_n 0, 1, 0, 0, 0, 0), (51, .getfield 10, 3, 0, 0, 4, 0), (54, .getfield 49, 3, 1, 1, 4, 0), (57, .getfield 136, 3, 3, 0, 4, 0), (60, .getfield 167, 3, 4, 4, 0, 0), (63, .ireturn, 1, 0, 0, 0, 0), (64, .aload_n 0, 1, 0, 0, 0, 0), (65, .getfield 10, 3, 0, 0, 4, 0), (68, .getfield 49, 3, 1, 1, 4, 0), (71, .getfield 168, 3, 3, 1, 4, 0), (74, .getfield 59, 3, 5, 3, 0, 0), (77, .ireturn, 1, 0, 0, 0, 0), (78, .aload_n 0, 1, 0, 0, 0, 0), (79, .getfield 16, 3, 0, 1, 4, 0), (82, .getfield 19, 3, 1, 0, 4, 0), (85, .getfield 171, 3, 2, 1, 0, 0), (88, .ireturn, 1, 0, 0, 0, 0), (89, .aload_n 0, 1, 0, 0, 0, 0), (90, .getfield 46, 3, 0, 2, 0, 0), (93, .ireturn, 1, 0, 0, 0, 0), (94, .iconst (-1), 1, 0, 0, 0, 0), (95, .ireturn, 1, 0, 0, 0, 0)]
/-- KindJudge.total(I)I -/
def kjM_12 : mv_Me := (⟨"KindJudge", "total", "(I)I"⟩, prog_1_method_13_code, 2, (some .int), "KindJudge", kjT_12, 0, 0, 0, 0)
def kjT_13 : List mv_E := [(0, .aload_n 0, 1, 0, 0, 0, 0), (1, .iconst 0, 1, 0, 0, 0, 0), (2, .iconst 0, 1, 0, 0, 0, 0), (3, .iconst 0, 1, 0, 0, 0, 0), (4, .invokevirtual 174, 3, 14, 4, 0, 0), (7, .aload_n 0, 1, 0, 0, 0, 0), (8, .getfield 16, 3, 0, 1, 4, 0), (11, .getfield 49, 3, 1, 1, 4, 0), (14, .invokevirtual 178, 3, 24, 1, 0, 3), (17, .ifCond .ne 20, 3, 0, 0, 0, 0), (20, .aload_n 0, 1, 0, 0, 0, 0), (21, .iconst 1, 1, 0, 0, 0, 0), (22, .aload_n 0, 1, 0, 0, 0, 0), (23, .getfield 16, 3, 0, 1, 4, 0), (26, .getfield 49, 3, 1, 1, 4, 0), (29, .invokevirtual 182, 3, 25, 1, 0, 3), (32, .iconst 0, 1, 0, 0, 0, 0), (33, .invokevirtual 174, 3, 14, 4, 0, 0), (36, .return_, 1, 0, 0, 0, 0)]
/-- KindJudge.findFault()V -/
def kjM_13 : mv_Me := (⟨"KindJudge", "findFault", "()V"⟩, prog_1_method_14_code, 4, none, "KindJudge", kjT_13, 0, 0, 6, 153)
def kjT_14 : List mv_E := [(0, .aload_n 0, 1, 0, 0, 0, 0), (1, .iload_n 1, 1, 0, 0, 0, 0), (2, .putfield 32, 3, 0, 3, 0, 0), (5, .aload_n 0, 1, 0, 0, 0, 0), (6, .iload_n 2, 1, 0, 0, 0, 0), (7, .putfield 64, 3, 0, 4, 0, 0), (10, .aload_n 0, 1, 0, 0, 0, 0), (11, .iload_n 3, 1, 0, 0, 0, 0), (12, .putfield 67, 3, 0, 5, 0, 0), (15, .return_, 1, 0, 0, 0, 0)]
/-- KindJudge.keepFault(III)V -/
def kjM_14 : mv_Me := (⟨"KindJudge", "keepFault", "(III)V"⟩, prog_1_method_15_code, 4, none, "KindJudge", kjT_14, 0, 0, 0, 0)
def kjT_18 : List mv_E := [(0, .aload_n 0, 1, 0, 0, 0, 0), (1, .invokespecial 1, 3, 0, 0, 3, 0), (4, .new 7, 3, 2, 2, 0, 0), (7, .dup, 1, 0, 0, 0, 0), (8, .invokespecial 9, 3, 19, 1, 2, 0), (11, .astore_n 1, 1, 0, 0, 0, 0), (12, .new 10, 3, 3, 9, 0, 0), (15, .dup, 1, 0, 0, 0, 0), (16, .aload_n 1, 1, 0, 0, 0, 0), (17, .invokespecial 12, 3, 23, 2, 2, 0), (20, .astore_n 2, 1, 0, 0, 0, 0), (21, .new 15, 3, 7, 3, 0, 0), (24, .dup, 1, 0, 0, 0, 0), (25, .aload_n 1, 1, 0, 0, 0, 0), (26, .aload_n 2, 1, 0, 0, 0, 0), (27, .invokespecial 17, 3, 63, 3, 2, 0), (30, .astore_n 3, 1, 0, 0, 0, 0), (31, .aload_n 0, 1, 0, 0, 0, 0), (32, .aload_n 1, 1, 0, 0, 0, 0), (33, .putfield 20, 3, 1, 0, 4, 0), (36, .aload_n 0, 1, 0, 0, 0, 0), (37, .aload_n 2, 1, 0, 0, 0, 0), (38, .putfield 26, 3, 1, 1, 4, 0), (41, .aload_n 0, 1, 0, 0, 0, 0), (42, .aload_n 3, 1, 0, 0, 0, 0), (43, .putfield 30, 3, 1, 2, 4, 0), (46, .aload_n 0, 1, 0, 0, 0, 0), (47, .new 34, 3, 8, 12, 0, 0), (50, .dup, 1, 0, 0, 0, 0), (51, .aload_n 2, 1, 0, 0, 0, 0), (52, .aload_n 3, 1, 0, 0, 0, 0), (53, .invokespecial 36, 3, 77, 3, 2, 0), (56, .putfield 39, 3, 1, 3, 4, 0), (59, .return_, 1, 0, 0, 0, 0)]
/-- KindJudge$Book.<init>()V -/
def kjM_18 : mv_Me := (⟨"KindJudge$Book", "<init>", "()V"⟩, prog_2_method_1_code, 4, none, "KindJudge$Book", kjT_18, 28, 6570, 3, 62)
def kjT_19 : List mv_E := [(0, .aload_n 0, 1, 0, 0, 0, 0), (1, .invokespecial 3, 3, 0, 0, 3, 0), (4, .aload_n 0, 1, 0, 0, 0, 0), (5, .sipush 1500, 3, 0, 0, 0, 0), (8, .newarray .byte, 2, 0, 0, 2, 0), (10, .putfield 11, 3, 2, 0, 4, 0), (13, .return_, 1, 0, 0, 0, 0)]
/-- KindJudge$Bytes.<init>()V -/
def kjM_19 : mv_Me := (⟨"KindJudge$Bytes", "<init>", "()V"⟩, prog_3_method_1_code, 1, none, "KindJudge$Bytes", kjT_19, 1, 1500, 1, 20)
def kjT_20 : List mv_E := [(0, .iload_n 3, 1, 0, 0, 0, 0), (1, .iconst 1, 1, 0, 0, 0, 0), (2, .if_icmp .lt 21, 3, 0, 0, 0, 0), (5, .iload_n 3, 1, 0, 0, 0, 0), (6, .bipush 8, 2, 0, 0, 0, 0), (8, .if_icmp .gt 15, 3, 0, 0, 0, 0), (11, .iload_n 3, 1, 0, 0, 0, 0), (12, .sipush 1500, 3, 0, 0, 0, 0), (15, .aload_n 0, 1, 0, 0, 0, 0), (16, .getfield 15, 3, 2, 1, 0, 0), (19, .isub, 1, 0, 0, 0, 0), (20, .if_icmp .le 5, 3, 0, 0, 0, 0), (23, .iconst 0, 1, 0, 0, 0, 0), (24, .ireturn, 1, 0, 0, 0, 0), (25, .bipush 8, 2, 0, 0, 0, 0), (27, .iload_n 3, 1, 0, 0, 0, 0), (28, .iconst 1, 1, 0, 0, 0, 0), (29, .isub, 1, 0, 0, 0, 0), (30, .imul, 1, 0, 0, 0, 0), (31, .istore 4, 2, 0, 0, 0, 0), (33, .iload 4, 2, 0, 0, 0, 0), (35, .ifCond .lt 34, 3, 0, 0, 0, 0), (38, .aload_n 0, 1, 0, 0, 0, 0), (39, .getfield 11, 3, 2, 0, 4, 0), (42, .aload_n 0, 1, 0, 0, 0, 0), (43, .getfield 15, 3, 2, 1, 0, 0), (46, .lload_n 1, 1, 0, 0, 0, 0), (47, .iload 4, 2, 0, 0, 0, 0), (49, .lshr, 1, 0, 0, 0, 0), (50, .l2i, 1, 0, 0, 0, 0), (51, .i2b, 1, 0, 0, 0, 0), (52, .bastore, 1, 0, 0, 0, 0), (53, .aload_n 0, 1, 0, 0, 0, 0), (54, .dup, 1, 0, 0, 0, 0), (55, .getfield 15, 3, 2, 1, 0, 0), (58, .iconst 1, 1, 0, 0, 0, 0), (59, .iadd, 1, 0, 0, 0, 0), (60, .putfield 15, 3, 2, 1, 0, 0), (63, .iinc 4 (-8), 3, 0, 0, 0, 0), (66, .goto (-33), 3, 0, 0, 0, 0), (69, .iconst 1, 1, 0, 0, 0, 0), (70, .ireturn, 1, 0, 0, 0, 0)]
/-- KindJudge$Bytes.append(JI)Z -/
def kjM_20 : mv_Me := (⟨"KindJudge$Bytes", "append", "(JI)Z"⟩, prog_3_method_2_code, 5, (some .boolean), "KindJudge$Bytes", kjT_20, 0, 0, 0, 0)
def kjT_21 : List mv_E := [(0, .aload_n 0, 1, 0, 0, 0, 0), (1, .iconst 0, 1, 0, 0, 0, 0), (2, .putfield 15, 3, 2, 1, 0, 0), (5, .return_, 1, 0, 0, 0, 0)]
/-- KindJudge$Bytes.clear()V -/
def kjM_21 : mv_Me := (⟨"KindJudge$Bytes", "clear", "()V"⟩, prog_3_method_3_code, 1, none, "KindJudge$Bytes", kjT_21, 0, 0, 0, 0)
def kjT_22 : List mv_E := [(0, .iload_n 1, 1, 0, 0, 0, 0), (1, .ifCond .lt 24, 3, 0, 0, 0, 0), (4, .iload_n 1, 1, 0, 0, 0, 0), (5, .aload_n 0, 1, 0, 0, 0, 0), (6, .getfield 15, 3, 2, 1, 0, 0), (9, .if_icmp .ge 16, 3, 0, 0, 0, 0), (25, .iconst (-1), 1, 0, 0, 0, 0), (26, .ireturn, 1, 0, 0, 0, 0)]
/-- KindJudge$Bytes.at(I)I -/
def kjM_22 : mv_Me := (⟨"KindJudge$Bytes", "at", "(I)I"⟩, prog_3_method_4_code, 2, (some .int), "KindJudge$Bytes", kjT_22, 0, 0, 0, 0)
def kjT_23 : List mv_E := [(0, .aload_n 0, 1, 0, 0, 0, 0), (1, .invokespecial 3, 3, 0, 0, 3, 0), (4, .aload_n 0, 1, 0, 0, 0, 0), (5, .new 9, 3, 4, 5, 0, 0), (8, .dup, 1, 0, 0, 0, 0), (9, .invokespecial 11, 3, 34, 1, 2, 0), (12, .putfield 12, 3, 3, 0, 4, 0), (15, .aload_n 0, 1, 0, 0, 0, 0), (16, .new 18, 3, 5, 4, 0, 0), (19, .dup, 1, 0, 0, 0, 0), (20, .invokespecial 20, 3, 46, 1, 2, 0), (23, .putfield 21, 3, 3, 1, 4, 0), (26, .aload_n 0, 1, 0, 0, 0, 0), (27, .new 18, 3, 5, 4, 0, 0), (30, .dup, 1, 0, 0, 0, 0), (31, .invokespecial 20, 3, 46, 1, 2, 0), (34, .putfield 25, 3, 3, 2, 4, 0), (37, .aload_n 0, 1, 0, 0, 0, 0), (38, .bipush 16, 2, 0, 0, 0, 0), (40, .newarray .int, 2, 0, 0, 0, 0), (42, .putfield 28, 3, 3, 4, 4, 0), (45, .aload_n 0, 1, 0, 0, 0, 0), (46, .bipush 16, 2, 0, 0, 0, 0), (48, .newarray .int, 2, 0, 0, 0, 0), (50, .putfield 32, 3, 3, 5, 4, 0), (53, .aload_n 0, 1, 0, 0, 0, 0), (54, .bipush 16, 2, 0, 0, 0, 0), (56, .newarray .int, 2, 0, 0, 0, 0), (58, .putfield 35, 3, 3, 6, 4, 0), (61, .aload_n 0, 1, 0, 0, 0, 0), (62, .bipush 16, 2, 0, 0, 0, 0), (64, .newarray .int, 2, 0, 0, 0, 0), (66, .putfield 38, 3, 3, 7, 4, 0), (69, .aload_n 0, 1, 0, 0, 0, 0), (70, .bipush 64, 2, 0, 0, 0, 0), (72, .newarray .int, 2, 0, 0, 0, 0), (74, .putfield 41, 3, 3, 8, 4, 0), (77, .aload_n 0, 1, 0, 0, 0, 0), (78, .new 44, 3, 6, 3, 0, 0), (81, .dup, 1, 0, 0, 0, 0), (82, .aload_n 1, 1, 0, 0, 0, 0), (83, .invokespecial 46, 3, 53, 2, 2, 0), (86, .putfield 49, 3, 3, 3, 4, 0), (89, .return_, 1, 0, 0, 0, 0)]
/-- KindJudge$Layout.<init>(LKindJudge$Bytes;)V -/
def kjM_23 : mv_Me := (⟨"KindJudge$Layout", "<init>", "(LKindJudge$Bytes;)V"⟩, prog_7_method_1_code, 2, none, "KindJudge$Layout", kjT_23, 19, 424, 2, 41)
def kjT_24 : List mv_E := [(0, .aload_n 0, 1, 0, 0, 0, 0), (1, .getfield 49, 3, 3, 3, 4, 0), (4, .invokevirtual 53, 3, 54, 1, 0, 6), (7, .aload_n 0, 1, 0, 0, 0, 0), (8, .getfield 12, 3, 3, 0, 4, 0), (11, .aload_n 0, 1, 0, 0, 0, 0), (12, .getfield 49, 3, 3, 3, 4, 0), (15, .invokevirtual 56, 3, 35, 2, 0, 4), (18, .aload_n 0, 1, 0, 0, 0, 0), (19, .getfield 21, 3, 3, 1, 4, 0), (22, .aload_n 0, 1, 0, 0, 0, 0), (23, .getfield 49, 3, 3, 3, 4, 0), (26, .iconst 0, 1, 0, 0, 0, 0), (27, .bipush 8, 2, 0, 0, 0, 0), (29, .invokevirtual 60, 3, 47, 4, 0, 5), (32, .iconst 0, 1, 0, 0, 0, 0), (33, .istore_n 1, 1, 0, 0, 0, 0), (34, .iload_n 1, 1, 0, 0, 0, 0), (35, .aload_n 0, 1, 0, 0, 0, 0), (36, .getfield 21, 3, 3, 1, 4, 0), (39, .getfield 64, 3, 5, 3, 0, 0), (42, .if_icmp .ge 39, 3, 0, 0, 0, 0), (81, .aload_n 0, 1, 0, 0, 0, 0), (82, .getfield 25, 3, 3, 2, 4, 0), (85, .aload_n 0, 1, 0, 0, 0, 0), (86, .getfield 49, 3, 3, 3, 4, 0), (89, .iconst 1, 1, 0, 0, 0, 0), (90, .bipush 16, 2, 0, 0, 0, 0), (92, .invokevirtual 60, 3, 47, 4, 0, 5), (95, .iconst 0, 1, 0, 0, 0, 0), (96, .istore_n 1, 1, 0, 0, 0, 0), (97, .iload_n 1, 1, 0, 0, 0, 0), (98, .aload_n 0, 1, 0, 0, 0, 0), (99, .getfield 25, 3, 3, 2, 4, 0), (102, .getfield 64, 3, 5, 3, 0, 0), (105, .if_icmp .ge 24, 3, 0, 0, 0, 0), (108, .aload_n 0, 1, 0, 0, 0, 0), (109, .getfield 49, 3, 3, 3, 4, 0), (112, .invokevirtual 68, 3, 55, 1, 0, 6), (115, .ifCond .eq 14, 3, 0, 0, 0, 0), (129, .iconst 0, 1, 0, 0, 0, 0), (130, .istore_n 1, 1, 0, 0, 0, 0), (131, .iload_n 1, 1, 0, 0, 0, 0), (132, .aload_n 0, 1, 0, 0, 0, 0), (133, .getfield 12, 3, 3, 0, 4, 0), (136, .getfield 72, 3, 4, 4, 0, 0), (139, .if_icmp .ge 24, 3, 0, 0, 0, 0), (163, .aload_n 0, 1, 0, 0, 0, 0), (164, .getfield 49, 3, 3, 3, 4, 0), (167, .invokevirtual 84, 3, 56, 1, 0, 6), (170, .ireturn, 1, 0, 0, 0, 0)]
/-- KindJudge$Layout.read()Z -/
def kjM_24 : mv_Me := (⟨"KindJudge$Layout", "read", "()Z"⟩, prog_7_method_2_code, 2, (some .boolean), "KindJudge$Layout", kjT_24, 0, 0, 5, 113)
def kjT_25 : List mv_E := [(0, .aload_n 0, 1, 0, 0, 0, 0), (1, .getfield 49, 3, 3, 3, 4, 0), (4, .invokevirtual 87, 3, 57, 1, 0, 6), (7, .ireturn, 1, 0, 0, 0, 0)]
/-- KindJudge$Layout.faultPlace()I -/
def kjM_25 : mv_Me := (⟨"KindJudge$Layout", "faultPlace", "()I"⟩, prog_7_method_3_code, 1, (some .int), "KindJudge$Layout", kjT_25, 0, 0, 1, 20)
def kjT_29 : List mv_E := [(0, .aload_n 0, 1, 0, 0, 0, 0), (1, .getfield 12, 3, 3, 0, 4, 0), (4, .iload_n 1, 1, 0, 0, 0, 0), (5, .invokevirtual 129, 3, 37, 2, 0, 4), (8, .ifCond .eq 28, 3, 0, 0, 0, 0), (36, .iconst (-1), 1, 0, 0, 0, 0), (37, .ireturn, 1, 0, 0, 0, 0)]
/-- KindJudge$Layout.methodFor(II)I -/
def kjM_29 : mv_Me := (⟨"KindJudge$Layout", "methodFor", "(II)I"⟩, prog_7_method_7_code, 3, (some .int), "KindJudge$Layout", kjT_29, 0, 0, 1, 21)
def kjT_32 : List mv_E := [(0, .iload_n 1, 1, 0, 0, 0, 0), (1, .ifCond .lt 23, 3, 0, 0, 0, 0), (4, .iload_n 1, 1, 0, 0, 0, 0), (5, .aload_n 0, 1, 0, 0, 0, 0), (6, .getfield 25, 3, 3, 2, 4, 0), (9, .getfield 64, 3, 5, 3, 0, 0), (12, .if_icmp .ge 12, 3, 0, 0, 0, 0), (24, .iconst 0, 1, 0, 0, 0, 0), (25, .ireturn, 1, 0, 0, 0, 0)]
/-- KindJudge$Layout.lengthOf(I)I -/
def kjM_32 : mv_Me := (⟨"KindJudge$Layout", "lengthOf", "(I)I"⟩, prog_7_method_10_code, 2, (some .int), "KindJudge$Layout", kjT_32, 0, 0, 0, 0)
def kjT_33 : List mv_E := [(0, .iload_n 2, 1, 0, 0, 0, 0), (1, .ifCond .lt 23, 3, 0, 0, 0, 0), (4, .iload_n 2, 1, 0, 0, 0, 0), (5, .aload_n 0, 1, 0, 0, 0, 0), (6, .iload_n 1, 1, 0, 0, 0, 0), (7, .invokevirtual 130, 3, 32, 2, 0, 3), (10, .if_icmp .ge 14, 3, 0, 0, 0, 0), (24, .iconst (-1), 1, 0, 0, 0, 0), (25, .ireturn, 1, 0, 0, 0, 0)]
/-- KindJudge$Layout.offset(II)I -/
def kjM_33 : mv_Me := (⟨"KindJudge$Layout", "offset", "(II)I"⟩, prog_7_method_11_code, 3, (some .int), "KindJudge$Layout", kjT_33, 0, 0, 1, 21)
def kjT_34 : List mv_E := [(0, .aload_n 0, 1, 0, 0, 0, 0), (1, .invokespecial 3, 3, 0, 0, 3, 0), (4, .aload_n 0, 1, 0, 0, 0, 0), (5, .bipush 8, 2, 0, 0, 0, 0), (7, .newarray .int, 2, 0, 0, 0, 0), (9, .putfield 11, 3, 4, 0, 4, 0), (12, .aload_n 0, 1, 0, 0, 0, 0), (13, .bipush 8, 2, 0, 0, 0, 0), (15, .newarray .int, 2, 0, 0, 0, 0), (17, .putfield 15, 3, 4, 1, 4, 0), (20, .aload_n 0, 1, 0, 0, 0, 0), (21, .bipush 64, 2, 0, 0, 0, 0), (23, .newarray .int, 2, 0, 0, 0, 0), (25, .putfield 18, 3, 4, 2, 4, 0), (28, .aload_n 0, 1, 0, 0, 0, 0), (29, .bipush 8, 2, 0, 0, 0, 0), (31, .newarray .int, 2, 0, 0, 0, 0), (33, .putfield 21, 3, 4, 3, 4, 0), (36, .return_, 1, 0, 0, 0, 0)]
/-- KindJudge$Classes.<init>()V -/
def kjM_34 : mv_Me := (⟨"KindJudge$Classes", "<init>", "()V"⟩, prog_4_method_1_code, 1, none, "KindJudge$Classes", kjT_34, 4, 88, 1, 20)
def kjT_35 : List mv_E := [(0, .aload_n 0, 1, 0, 0, 0, 0), (1, .aload_n 1, 1, 0, 0, 0, 0), (2, .iconst 0, 1, 0, 0, 0, 0), (3, .bipush 8, 2, 0, 0, 0, 0), (5, .invokevirtual 24, 3, 60, 3, 0, 6), (8, .putfield 30, 3, 4, 4, 0, 0), (11, .iconst 0, 1, 0, 0, 0, 0), (12, .istore_n 2, 1, 0, 0, 0, 0), (13, .iload_n 2, 1, 0, 0, 0, 0), (14, .aload_n 0, 1, 0, 0, 0, 0), (15, .getfield 30, 3, 4, 4, 0, 0), (18, .if_icmp .ge 22, 3, 0, 0, 0, 0), (40, .return_, 1, 0, 0, 0, 0)]
/-- KindJudge$Classes.read(LKindJudge$Reader;)V -/
def kjM_35 : mv_Me := (⟨"KindJudge$Classes", "read", "(LKindJudge$Reader;)V"⟩, prog_4_method_2_code, 3, none, "KindJudge$Classes", kjT_35, 0, 0, 4, 91)
def kjT_37 : List mv_E := [(0, .iload_n 1, 1, 0, 0, 0, 0), (1, .ifCond .lt 15, 3, 0, 0, 0, 0), (4, .iload_n 1, 1, 0, 0, 0, 0), (5, .aload_n 0, 1, 0, 0, 0, 0), (6, .getfield 30, 3, 4, 4, 0, 0), (9, .if_icmp .ge 7, 3, 0, 0, 0, 0), (16, .iconst 0, 1, 0, 0, 0, 0), (17, .ireturn, 1, 0, 0, 0, 0)]
/-- KindJudge$Classes.has(I)Z -/
def kjM_37 : mv_Me := (⟨"KindJudge$Classes", "has", "(I)Z"⟩, prog_4_method_4_code, 2, (some .boolean), "KindJudge$Classes", kjT_37, 0, 0, 0, 0)
def kjT_46 : List mv_E := [(0, .aload_n 0, 1, 0, 0, 0, 0), (1, .invokespecial 3, 3, 0, 0, 3, 0), (4, .aload_n 0, 1, 0, 0, 0, 0), (5, .bipush 16, 2, 0, 0, 0, 0), (7, .newarray .int, 2, 0, 0, 0, 0), (9, .putfield 11, 3, 5, 0, 4, 0), (12, .aload_n 0, 1, 0, 0, 0, 0), (13, .bipush 64, 2, 0, 0, 0, 0), (15, .newarray .int, 2, 0, 0, 0, 0), (17, .putfield 15, 3, 5, 1, 4, 0), (20, .aload_n 0, 1, 0, 0, 0, 0), (21, .bipush 16, 2, 0, 0, 0, 0), (23, .newarray .int, 2, 0, 0, 0, 0), (25, .putfield 18, 3, 5, 2, 4, 0), (28, .return_, 1, 0, 0, 0, 0)]
/-- KindJudge$Signatures.<init>()V -/
def kjM_46 : mv_Me := (⟨"KindJudge$Signatures", "<init>", "()V"⟩, prog_9_method_1_code, 1, none, "KindJudge$Signatures", kjT_46, 3, 96, 1, 20)
def kjT_47 : List mv_E := [(0, .aload_n 0, 1, 0, 0, 0, 0), (1, .aload_n 1, 1, 0, 0, 0, 0), (2, .iload_n 2, 1, 0, 0, 0, 0), (3, .iload_n 3, 1, 0, 0, 0, 0), (4, .bipush 16, 2, 0, 0, 0, 0), (6, .invokestatic 21, 3, 0, 0, 5, 0), (9, .invokevirtual 27, 3, 60, 3, 0, 6), (12, .putfield 32, 3, 5, 3, 0, 0), (15, .return_, 1, 0, 0, 0, 0)]
/-- KindJudge$Signatures.readNumber(LKindJudge$Reader;II)V -/
def kjM_47 : mv_Me := (⟨"KindJudge$Signatures", "readNumber", "(LKindJudge$Reader;II)V"⟩, prog_9_method_2_code, 4, none, "KindJudge$Signatures", kjT_47, 0, 0, 3, 64)
def kjT_49 : List mv_E := [(0, .iload_n 1, 1, 0, 0, 0, 0), (1, .ifCond .lt 15, 3, 0, 0, 0, 0), (4, .iload_n 1, 1, 0, 0, 0, 0), (5, .aload_n 0, 1, 0, 0, 0, 0), (6, .getfield 32, 3, 5, 3, 0, 0), (9, .if_icmp .ge 7, 3, 0, 0, 0, 0), (16, .iconst 0, 1, 0, 0, 0, 0), (17, .ireturn, 1, 0, 0, 0, 0)]
/-- KindJudge$Signatures.has(I)Z -/
def kjM_49 : mv_Me := (⟨"KindJudge$Signatures", "has", "(I)Z"⟩, prog_9_method_4_code, 2, (some .boolean), "KindJudge$Signatures", kjT_49, 0, 0, 0, 0)
def kjT_53 : List mv_E := [(0, .aload_n 0, 1, 0, 0, 0, 0), (1, .invokespecial 3, 3, 0, 0, 3, 0), (4, .aload_n 0, 1, 0, 0, 0, 0), (5, .aload_n 1, 1, 0, 0, 0, 0), (6, .putfield 9, 3, 6, 0, 4, 0), (9, .return_, 1, 0, 0, 0, 0)]
/-- KindJudge$Reader.<init>(LKindJudge$Bytes;)V -/
def kjM_53 : mv_Me := (⟨"KindJudge$Reader", "<init>", "(LKindJudge$Bytes;)V"⟩, prog_8_method_1_code, 2, none, "KindJudge$Reader", kjT_53, 0, 0, 1, 20)
def kjT_54 : List mv_E := [(0, .aload_n 0, 1, 0, 0, 0, 0), (1, .iconst 0, 1, 0, 0, 0, 0), (2, .putfield 15, 3, 6, 1, 0, 0), (5, .aload_n 0, 1, 0, 0, 0, 0), (6, .iconst 0, 1, 0, 0, 0, 0), (7, .putfield 19, 3, 6, 2, 1, 0), (10, .return_, 1, 0, 0, 0, 0)]
/-- KindJudge$Reader.begin()V -/
def kjM_54 : mv_Me := (⟨"KindJudge$Reader", "begin", "()V"⟩, prog_8_method_2_code, 1, none, "KindJudge$Reader", kjT_54, 0, 0, 0, 0)
def kjT_55 : List mv_E := [(0, .aload_n 0, 1, 0, 0, 0, 0), (1, .getfield 19, 3, 6, 2, 1, 0), (4, .ifCond .ne 7, 3, 0, 0, 0, 0), (11, .iconst 0, 1, 0, 0, 0, 0), (12, .ireturn, 1, 0, 0, 0, 0)]
/-- KindJudge$Reader.goesOn()Z -/
def kjM_55 : mv_Me := (⟨"KindJudge$Reader", "goesOn", "()Z"⟩, prog_8_method_3_code, 1, (some .boolean), "KindJudge$Reader", kjT_55, 0, 0, 0, 0)
def kjT_56 : List mv_E := [(0, .aload_n 0, 1, 0, 0, 0, 0), (1, .getfield 19, 3, 6, 2, 1, 0), (4, .ifCond .ne 21, 3, 0, 0, 0, 0), (25, .iconst 0, 1, 0, 0, 0, 0), (26, .ireturn, 1, 0, 0, 0, 0)]
/-- KindJudge$Reader.isAtEnd()Z -/
def kjM_56 : mv_Me := (⟨"KindJudge$Reader", "isAtEnd", "()Z"⟩, prog_8_method_4_code, 1, (some .boolean), "KindJudge$Reader", kjT_56, 0, 0, 0, 0)
def kjT_57 : List mv_E := [(0, .aload_n 0, 1, 0, 0, 0, 0), (1, .getfield 15, 3, 6, 1, 0, 0), (4, .ireturn, 1, 0, 0, 0, 0)]
/-- KindJudge$Reader.place()I -/
def kjM_57 : mv_Me := (⟨"KindJudge$Reader", "place", "()I"⟩, prog_8_method_5_code, 1, (some .int), "KindJudge$Reader", kjT_57, 0, 0, 0, 0)
def kjT_58 : List mv_E := [(0, .aload_n 0, 1, 0, 0, 0, 0), (1, .getfield 19, 3, 6, 2, 1, 0), (4, .ifCond .eq 7, 3, 0, 0, 0, 0), (7, .iconst (-1), 1, 0, 0, 0, 0), (8, .goto 14, 3, 0, 0, 0, 0), (11, .aload_n 0, 1, 0, 0, 0, 0), (12, .getfield 9, 3, 6, 0, 4, 0), (15, .aload_n 0, 1, 0, 0, 0, 0), (16, .getfield 15, 3, 6, 1, 0, 0), (19, .invokevirtual 28, 3, 22, 2, 0, 2), (22, .ireturn, 1, 0, 0, 0, 0)]
/-- KindJudge$Reader.ahead()I -/
def kjM_58 : mv_Me := (⟨"KindJudge$Reader", "ahead", "()I"⟩, prog_8_method_6_code, 1, (some .int), "KindJudge$Reader", kjT_58, 0, 0, 1, 21)
def kjT_59 : List mv_E := [(0, .iload_n 1, 1, 0, 0, 0, 0), (1, .ifCond .eq 24, 3, 0, 0, 0, 0), (25, .aload_n 0, 1, 0, 0, 0, 0), (26, .iconst 1, 1, 0, 0, 0, 0), (27, .putfield 19, 3, 6, 2, 1, 0), (30, .iconst 0, 1, 0, 0, 0, 0), (31, .ireturn, 1, 0, 0, 0, 0)]
/-- KindJudge$Reader.pass(Z)Z -/
def kjM_59 : mv_Me := (⟨"KindJudge$Reader", "pass", "(Z)Z"⟩, prog_8_method_7_code, 2, (some .boolean), "KindJudge$Reader", kjT_59, 0, 0, 0, 0)
def kjT_60 : List mv_E := [(0, .aload_n 0, 1, 0, 0, 0, 0), (1, .invokevirtual 31, 3, 58, 1, 0, 6), (4, .istore_n 3, 1, 0, 0, 0, 0), (5, .aload_n 0, 1, 0, 0, 0, 0), (6, .iload_n 3, 1, 0, 0, 0, 0), (7, .iload_n 1, 1, 0, 0, 0, 0), (8, .if_icmp .lt 12, 3, 0, 0, 0, 0), (20, .iconst 0, 1, 0, 0, 0, 0), (21, .invokevirtual 35, 3, 59, 2, 0, 6), (24, .ifCond .eq 7, 3, 0, 0, 0, 0), (31, .iload_n 1, 1, 0, 0, 0, 0), (32, .ireturn, 1, 0, 0, 0, 0)]
/-- KindJudge$Reader.number(II)I -/
def kjM_60 : mv_Me := (⟨"KindJudge$Reader", "number", "(II)I"⟩, prog_8_method_8_code, 4, (some .int), "KindJudge$Reader", kjT_60, 0, 0, 2, 41)
def kjT_63 : List mv_E := [(0, .aload_n 0, 1, 0, 0, 0, 0), (1, .invokespecial 3, 3, 0, 0, 3, 0), (4, .aload_n 0, 1, 0, 0, 0, 0), (5, .sipush 1500, 3, 0, 0, 0, 0), (8, .newarray .boolean, 2, 0, 0, 1, 0), (10, .putfield 11, 3, 7, 2, 4, 0), (13, .aload_n 0, 1, 0, 0, 0, 0), (14, .aload_n 1, 1, 0, 0, 0, 0), (15, .putfield 17, 3, 7, 0, 4, 0), (18, .aload_n 0, 1, 0, 0, 0, 0), (19, .aload_n 2, 1, 0, 0, 0, 0), (20, .putfield 21, 3, 7, 1, 4, 0), (23, .return_, 1, 0, 0, 0, 0)]
/-- KindJudge$Code.<init>(LKindJudge$Bytes;LKindJudge$Layout;)V -/
def kjM_63 : mv_Me := (⟨"KindJudge$Code", "<init>", "(LKindJudge$Bytes;LKindJudge$Layout;)V"⟩, prog_5_method_1_code, 3, none, "KindJudge$Code", kjT_63, 1, 1500, 1, 20)
def kjT_66 : List mv_E := [(0, .aload_n 0, 1, 0, 0, 0, 0), (1, .getfield 21, 3, 7, 1, 4, 0), (4, .iload_n 1, 1, 0, 0, 0, 0), (5, .iload_n 2, 1, 0, 0, 0, 0), (6, .invokevirtual 42, 3, 33, 3, 0, 3), (9, .istore_n 3, 1, 0, 0, 0, 0), (10, .iload_n 3, 1, 0, 0, 0, 0), (11, .ifCond .lt 25, 3, 0, 0, 0, 0), (36, .iconst 0, 1, 0, 0, 0, 0), (37, .ireturn, 1, 0, 0, 0, 0)]
/-- KindJudge$Code.begins(II)Z -/
def kjM_66 : mv_Me := (⟨"KindJudge$Code", "begins", "(II)Z"⟩, prog_5_method_4_code, 4, (some .boolean), "KindJudge$Code", kjT_66, 0, 0, 2, 43)
def kjT_77 : List mv_E := [(0, .aload_n 0, 1, 0, 0, 0, 0), (1, .invokespecial 3, 3, 0, 0, 3, 0), (4, .aload_n 0, 1, 0, 0, 0, 0), (5, .sipush 1500, 3, 0, 0, 0, 0), (8, .newarray .byte, 2, 0, 0, 2, 0), (10, .putfield 11, 3, 8, 2, 4, 0), (13, .aload_n 0, 1, 0, 0, 0, 0), (14, .sipush 1500, 3, 0, 0, 0, 0), (17, .newarray .long, 2, 0, 0, 3, 0), (19, .putfield 17, 3, 8, 3, 4, 0), (22, .aload_n 0, 1, 0, 0, 0, 0), (23, .bipush 120, 2, 0, 0, 0, 0), (25, .newarray .boolean, 2, 0, 0, 1, 0), (27, .putfield 23, 3, 8, 4, 4, 0), (30, .aload_n 0, 1, 0, 0, 0, 0), (31, .aload_n 1, 1, 0, 0, 0, 0), (32, .putfield 27, 3, 8, 0, 4, 0), (35, .aload_n 0, 1, 0, 0, 0, 0), (36, .aload_n 2, 1, 0, 0, 0, 0), (37, .putfield 31, 3, 8, 1, 4, 0), (40, .return_, 1, 0, 0, 0, 0)]
/-- KindJudge$Flow.<init>(LKindJudge$Layout;LKindJudge$Code;)V -/
def kjM_77 : mv_Me := (⟨"KindJudge$Flow", "<init>", "(LKindJudge$Layout;LKindJudge$Code;)V"⟩, prog_6_method_1_code, 3, none, "KindJudge$Flow", kjT_77, 3, 3120, 1, 20)
def kjT_100 : List mv_E := [(0, .aload_n 0, 1, 0, 0, 0, 0), (1, .invokespecial 1, 3, 0, 0, 3, 0), (4, .aload_n 0, 1, 0, 0, 0, 0), (5, .sipush 1500, 3, 0, 0, 0, 0), (8, .newarray .int, 2, 0, 0, 0, 0), (10, .putfield 7, 3, 9, 3, 4, 0), (13, .aload_n 0, 1, 0, 0, 0, 0), (14, .sipush 1500, 3, 0, 0, 0, 0), (17, .newarray .int, 2, 0, 0, 0, 0), (19, .putfield 13, 3, 9, 4, 4, 0), (22, .aload_n 0, 1, 0, 0, 0, 0), (23, .sipush 1500, 3, 0, 0, 0, 0), (26, .newarray .int, 2, 0, 0, 0, 0), (28, .putfield 16, 3, 9, 6, 4, 0), (31, .aload_n 0, 1, 0, 0, 0, 0), (32, .bipush 8, 2, 0, 0, 0, 0), (34, .newarray .int, 2, 0, 0, 0, 0), (36, .putfield 19, 3, 9, 13, 4, 0), (39, .aload_n 0, 1, 0, 0, 0, 0), (40, .bipush 8, 2, 0, 0, 0, 0), (42, .newarray .int, 2, 0, 0, 0, 0), (44, .putfield 22, 3, 9, 14, 4, 0), (47, .aload_n 0, 1, 0, 0, 0, 0), (48, .bipush 64, 2, 0, 0, 0, 0), (50, .newarray .int, 2, 0, 0, 0, 0), (52, .putfield 25, 3, 9, 15, 4, 0), (55, .aload_n 0, 1, 0, 0, 0, 0), (56, .bipush 8, 2, 0, 0, 0, 0), (58, .newarray .int, 2, 0, 0, 0, 0), (60, .putfield 28, 3, 9, 17, 4, 0), (63, .aload_n 0, 1, 0, 0, 0, 0), (64, .bipush 24, 2, 0, 0, 0, 0), (66, .newarray .int, 2, 0, 0, 0, 0), (68, .putfield 31, 3, 9, 18, 4, 0), (71, .aload_n 0, 1, 0, 0, 0, 0), (72, .bipush 8, 2, 0, 0, 0, 0), (74, .newarray .int, 2, 0, 0, 0, 0), (76, .putfield 34, 3, 9, 19, 4, 0), (79, .aload_n 0, 1, 0, 0, 0, 0), (80, .bipush 16, 2, 0, 0, 0, 0), (82, .newarray .int, 2, 0, 0, 0, 0), (84, .putfield 37, 3, 9, 21, 4, 0), (87, .aload_n 0, 1, 0, 0, 0, 0), (88, .bipush 64, 2, 0, 0, 0, 0), (90, .newarray .int, 2, 0, 0, 0, 0), (92, .putfield 40, 3, 9, 22, 4, 0), (95, .aload_n 0, 1, 0, 0, 0, 0), (96, .bipush 16, 2, 0, 0, 0, 0), (98, .newarray .int, 2, 0, 0, 0, 0), (100, .putfield 43, 3, 9, 23, 4, 0), (103, .aload_n 0, 1, 0, 0, 0, 0), (104, .bipush 16, 2, 0, 0, 0, 0), (106, .newarray .int, 2, 0, 0, 0, 0), (108, .putfield 46, 3, 9, 24, 4, 0), (111, .aload_n 0, 1, 0, 0, 0, 0), (112, .bipush 16, 2, 0, 0, 0, 0), (114, .newarray .int, 2, 0, 0, 0, 0), (116, .putfield 49, 3, 9, 25, 4, 0), (119, .aload_n 0, 1, 0, 0, 0, 0), (120, .bipush 16, 2, 0, 0, 0, 0), (122, .newarray .int, 2, 0, 0, 0, 0), (124, .putfield 52, 3, 9, 26, 4, 0), (127, .aload_n 0, 1, 0, 0, 0, 0), (128, .sipush 1920, 3, 0, 0, 0, 0), (131, .newarray .int, 2, 0, 0, 0, 0), (133, .putfield 55, 3, 9, 27, 4, 0), (136, .aload_n 0, 1, 0, 0, 0, 0), (137, .sipush 1920, 3, 0, 0, 0, 0), (140, .newarray .boolean, 2, 0, 0, 1, 0), (142, .putfield 58, 3, 9, 28, 4, 0), (145, .aload_n 0, 1, 0, 0, 0, 0), (146, .bipush 64, 2, 0, 0, 0, 0), (148, .newarray .int, 2, 0, 0, 0, 0), (150, .putfield 62, 3, 9, 29, 4, 0), (153, .aload_n 0, 1, 0, 0, 0, 0), (154, .sipush 1920, 3, 0, 0, 0, 0), (157, .newarray .int, 2, 0, 0, 0, 0), (159, .putfield 65, 3, 9, 30, 4, 0), (162, .aload_n 0, 1, 0, 0, 0, 0), (163, .sipush 30720, 3, 0, 0, 0, 0), (166, .newarray .int, 2, 0, 0, 0, 0), (168, .putfield 68, 3, 9, 31, 4, 0), (171, .aload_n 0, 1, 0, 0, 0, 0), (172, .bipush 16, 2, 0, 0, 0, 0), (174, .newarray .int, 2, 0, 0, 0, 0), (176, .putfield 71, 3, 9, 32, 4, 0), (179, .return_, 1, 0, 0, 0, 0)]
/-- KindJudgeModel.<init>()V -/
def kjM_100 : mv_Me := (⟨"KindJudgeModel", "<init>", "()V"⟩, prog_11_method_1_code, 1, none, "KindJudgeModel", kjT_100, 21, 41324, 1, 20)
def kjT_101 : List mv_E := [(0, .aload_n 0, 1, 0, 0, 0, 0), (1, .getfield 74, 3, 9, 0, 0, 0), (4, .ireturn, 1, 0, 0, 0, 0)]
/-- KindJudgeModel.thrown()I -/
def kjM_101 : mv_Me := (⟨"KindJudgeModel", "thrown", "()I"⟩, prog_11_method_2_code, 1, (some .int), "KindJudgeModel", kjT_101, 0, 0, 0, 0)
def kjT_102 : List mv_E := [(0, .aload_n 0, 1, 0, 0, 0, 0), (1, .iload_n 1, 1, 0, 0, 0, 0), (2, .putfield 74, 3, 9, 0, 0, 0), (5, .iconst 0, 1, 0, 0, 0, 0), (6, .ireturn, 1, 0, 0, 0, 0)]
/-- KindJudgeModel.raise(I)I -/
def kjM_102 : mv_Me := (⟨"KindJudgeModel", "raise", "(I)I"⟩, prog_11_method_3_code, 2, (some .int), "KindJudgeModel", kjT_102, 0, 0, 0, 0)
def kjT_104 : List mv_E := [(0, .aload_n 0, 1, 0, 0, 0, 0), (1, .iconst 0, 1, 0, 0, 0, 0), (2, .putfield 74, 3, 9, 0, 0, 0), (5, .iload_n 3, 1, 0, 0, 0, 0), (6, .iconst 1, 1, 0, 0, 0, 0), (7, .if_icmp .lt 21, 3, 0, 0, 0, 0), (10, .iload_n 3, 1, 0, 0, 0, 0), (11, .bipush 8, 2, 0, 0, 0, 0), (13, .if_icmp .gt 15, 3, 0, 0, 0, 0), (16, .aload_n 0, 1, 0, 0, 0, 0), (17, .getfield 78, 3, 9, 2, 0, 0), (20, .iload_n 3, 1, 0, 0, 0, 0), (21, .iadd, 1, 0, 0, 0, 0), (22, .sipush 1500, 3, 0, 0, 0, 0), (25, .if_icmp .le 5, 3, 0, 0, 0, 0), (28, .iconst 0, 1, 0, 0, 0, 0), (29, .ireturn, 1, 0, 0, 0, 0), (30, .iload_n 3, 1, 0, 0, 0, 0), (31, .iconst 1, 1, 0, 0, 0, 0), (32, .isub, 1, 0, 0, 0, 0), (33, .istore 4, 2, 0, 0, 0, 0), (35, .iload 4, 2, 0, 0, 0, 0), (37, .ifCond .lt 40, 3, 0, 0, 0, 0), (40, .aload_n 0, 1, 0, 0, 0, 0), (41, .getfield 7, 3, 9, 3, 4, 0), (44, .aload_n 0, 1, 0, 0, 0, 0), (45, .getfield 78, 3, 9, 2, 0, 0), (48, .lload_n 1, 1, 0, 0, 0, 0), (49, .bipush 8, 2, 0, 0, 0, 0), (51, .iload 4, 2, 0, 0, 0, 0), (53, .imul, 1, 0, 0, 0, 0), (54, .lshr, 1, 0, 0, 0, 0), (55, .ldc2_w 81, 3, 255, 0, 0, 0), (58, .land, 1, 0, 0, 0, 0), (59, .l2i, 1, 0, 0, 0, 0), (60, .iastore, 1, 0, 0, 0, 0), (61, .aload_n 0, 1, 0, 0, 0, 0), (62, .dup, 1, 0, 0, 0, 0), (63, .getfield 78, 3, 9, 2, 0, 0), (66, .iconst 1, 1, 0, 0, 0, 0), (67, .iadd, 1, 0, 0, 0, 0), (68, .putfield 78, 3, 9, 2, 0, 0), (71, .iinc 4 (-1), 3, 0, 0, 0, 0), (74, .goto (-39), 3, 0, 0, 0, 0), (77, .iconst 1, 1, 0, 0, 0, 0), (78, .ireturn, 1, 0, 0, 0, 0)]
/-- KindJudgeModel.put(JI)Z -/
def kjM_104 : mv_Me := (⟨"KindJudgeModel", "put", "(JI)Z"⟩, prog_11_method_5_code, 5, (some .boolean), "KindJudgeModel", kjT_104, 0, 0, 0, 0)
def kjT_105 : List mv_E := [(0, .aload_n 0, 1, 0, 0, 0, 0), (1, .getfield 83, 3, 9, 36, 1, 0), (4, .ifCond .eq 5, 3, 0, 0, 0, 0), (7, .iconst 0, 1, 0, 0, 0, 0), (8, .ireturn, 1, 0, 0, 0, 0), (9, .aload_n 0, 1, 0, 0, 0, 0), (10, .getfield 87, 3, 9, 35, 0, 0), (13, .aload_n 0, 1, 0, 0, 0, 0), (14, .getfield 90, 3, 9, 5, 0, 0), (17, .if_icmp .ge 20, 3, 0, 0, 0, 0), (37, .aload_n 0, 1, 0, 0, 0, 0), (38, .iconst 1, 1, 0, 0, 0, 0), (39, .putfield 83, 3, 9, 36, 1, 0), (42, .iconst 0, 1, 0, 0, 0, 0), (43, .ireturn, 1, 0, 0, 0, 0)]
/-- KindJudgeModel.next(II)I -/
def kjM_105 : mv_Me := (⟨"KindJudgeModel", "next", "(II)I"⟩, prog_11_method_6_code, 3, (some .int), "KindJudgeModel", kjT_105, 0, 0, 1, 22)
def kjT_114 : List mv_E := [(0, .aload_n 0, 1, 0, 0, 0, 0), (1, .iconst 0, 1, 0, 0, 0, 0), (2, .putfield 87, 3, 9, 35, 0, 0), (5, .aload_n 0, 1, 0, 0, 0, 0), (6, .iconst 0, 1, 0, 0, 0, 0), (7, .putfield 83, 3, 9, 36, 1, 0), (10, .aload_n 0, 1, 0, 0, 0, 0), (11, .iconst 0, 1, 0, 0, 0, 0), (12, .putfield 97, 3, 9, 12, 0, 0), (15, .aload_n 0, 1, 0, 0, 0, 0), (16, .aload_n 0, 1, 0, 0, 0, 0), (17, .iconst 0, 1, 0, 0, 0, 0), (18, .bipush 8, 2, 0, 0, 0, 0), (20, .invokevirtual 100, 3, 105, 3, 0, 9), (23, .putfield 97, 3, 9, 12, 0, 0), (26, .iconst 0, 1, 0, 0, 0, 0), (27, .istore_n 1, 1, 0, 0, 0, 0), (28, .iload_n 1, 1, 0, 0, 0, 0), (29, .aload_n 0, 1, 0, 0, 0, 0), (30, .getfield 97, 3, 9, 12, 0, 0), (33, .if_icmp .ge 21, 3, 0, 0, 0, 0), (54, .aload_n 0, 1, 0, 0, 0, 0), (55, .aload_n 0, 1, 0, 0, 0, 0), (56, .iconst 0, 1, 0, 0, 0, 0), (57, .bipush 8, 2, 0, 0, 0, 0), (59, .invokevirtual 100, 3, 105, 3, 0, 9), (62, .putfield 124, 3, 9, 16, 0, 0), (65, .iconst 0, 1, 0, 0, 0, 0), (66, .istore_n 1, 1, 0, 0, 0, 0), (67, .iload_n 1, 1, 0, 0, 0, 0), (68, .aload_n 0, 1, 0, 0, 0, 0), (69, .getfield 124, 3, 9, 16, 0, 0), (72, .if_icmp .ge 21, 3, 0, 0, 0, 0), (93, .aload_n 0, 1, 0, 0, 0, 0), (94, .aload_n 0, 1, 0, 0, 0, 0), (95, .iconst 1, 1, 0, 0, 0, 0), (96, .bipush 16, 2, 0, 0, 0, 0), (98, .invokevirtual 100, 3, 105, 3, 0, 9), (101, .putfield 114, 3, 9, 20, 0, 0), (104, .iconst 0, 1, 0, 0, 0, 0), (105, .istore_n 1, 1, 0, 0, 0, 0), (106, .iload_n 1, 1, 0, 0, 0, 0), (107, .aload_n 0, 1, 0, 0, 0, 0), (108, .getfield 114, 3, 9, 20, 0, 0), (111, .if_icmp .ge 21, 3, 0, 0, 0, 0), (132, .iconst 0, 1, 0, 0, 0, 0), (133, .istore_n 1, 1, 0, 0, 0, 0), (134, .iload_n 1, 1, 0, 0, 0, 0), (135, .aload_n 0, 1, 0, 0, 0, 0), (136, .getfield 97, 3, 9, 12, 0, 0), (139, .aload_n 0, 1, 0, 0, 0, 0), (140, .getfield 124, 3, 9, 16, 0, 0), (143, .imul, 1, 0, 0, 0, 0), (144, .if_icmp .ge 32, 3, 0, 0, 0, 0), (176, .aload_n 0, 1, 0, 0, 0, 0), (177, .getfield 83, 3, 9, 36, 1, 0), (180, .ifCond .ne 19, 3, 0, 0, 0, 0), (199, .aload_n 0, 1, 0, 0, 0, 0), (200, .getfield 83, 3, 9, 36, 1, 0), (203, .ifCond .ne 7, 3, 0, 0, 0, 0), (210, .iconst 0, 1, 0, 0, 0, 0), (211, .ireturn, 1, 0, 0, 0, 0)]
/-- KindJudgeModel.takeApart()Z -/
def kjM_114 : mv_Me := (⟨"KindJudgeModel", "takeApart", "()Z"⟩, prog_11_method_15_code, 2, (some .boolean), "KindJudgeModel", kjT_114, 0, 0, 4, 92)
def kjT_121 : List mv_E := [(0, .aload_n 0, 1, 0, 0, 0, 0), (1, .iload_n 1, 1, 0, 0, 0, 0), (2, .putfield 150, 3, 9, 9, 0, 0), (5, .aload_n 0, 1, 0, 0, 0, 0), (6, .iload_n 2, 1, 0, 0, 0, 0), (7, .putfield 153, 3, 9, 11, 0, 0), (10, .aload_n 0, 1, 0, 0, 0, 0), (11, .iload_n 3, 1, 0, 0, 0, 0), (12, .putfield 156, 3, 9, 10, 0, 0), (15, .iconst 0, 1, 0, 0, 0, 0), (16, .ireturn, 1, 0, 0, 0, 0)]
/-- KindJudgeModel.findFault(III)Z -/
def kjM_121 : mv_Me := (⟨"KindJudgeModel", "findFault", "(III)Z"⟩, prog_11_method_22_code, 4, (some .boolean), "KindJudgeModel", kjT_121, 0, 0, 0, 0)
def kjT_122 : List mv_E := [(0, .aload_n 0, 1, 0, 0, 0, 0), (1, .invokevirtual 159, 3, 114, 1, 0, 9), (4, .ifCond .ne 14, 3, 0, 0, 0, 0), (7, .aload_n 0, 1, 0, 0, 0, 0), (8, .iconst 1, 1, 0, 0, 0, 0), (9, .iconst 0, 1, 0, 0, 0, 0), (10, .aload_n 0, 1, 0, 0, 0, 0), (11, .getfield 87, 3, 9, 35, 0, 0), (14, .invokevirtual 163, 3, 121, 4, 0, 9), (17, .ireturn, 1, 0, 0, 0, 0)]
/-- KindJudgeModel.isFine()Z -/
def kjM_122 : mv_Me := (⟨"KindJudgeModel", "isFine", "()Z"⟩, prog_11_method_23_code, 3, (some .boolean), "KindJudgeModel", kjT_122, 0, 0, 6, 146)
def kjT_123 : List mv_E := [(0, .aload_n 0, 1, 0, 0, 0, 0), (1, .aload_n 0, 1, 0, 0, 0, 0), (2, .getfield 78, 3, 9, 2, 0, 0), (5, .putfield 90, 3, 9, 5, 0, 0), (8, .iconst 0, 1, 0, 0, 0, 0), (9, .istore_n 1, 1, 0, 0, 0, 0), (10, .iload_n 1, 1, 0, 0, 0, 0), (11, .aload_n 0, 1, 0, 0, 0, 0), (12, .getfield 78, 3, 9, 2, 0, 0), (15, .if_icmp .ge 21, 3, 0, 0, 0, 0), (36, .aload_n 0, 1, 0, 0, 0, 0), (37, .iconst 0, 1, 0, 0, 0, 0), (38, .putfield 78, 3, 9, 2, 0, 0), (41, .aload_n 0, 1, 0, 0, 0, 0), (42, .invokevirtual 178, 3, 122, 1, 0, 9), (45, .istore_n 1, 1, 0, 0, 0, 0), (46, .iload_n 1, 1, 0, 0, 0, 0), (47, .ifCond .eq 79, 3, 0, 0, 0, 0), (126, .aload_n 0, 1, 0, 0, 0, 0), (127, .getfield 184, 3, 9, 8, 1, 0), (130, .ifCond .eq 7, 3, 0, 0, 0, 0), (137, .aload_n 0, 1, 0, 0, 0, 0), (138, .iconst 1, 1, 0, 0, 0, 0), (139, .invokevirtual 193, 3, 102, 2, 0, 9), (142, .ireturn, 1, 0, 0, 0, 0)]
/-- KindJudgeModel.load()I -/
def kjM_123 : mv_Me := (⟨"KindJudgeModel", "load", "()I"⟩, prog_11_method_24_code, 3, (some .int), "KindJudgeModel", kjT_123, 0, 0, 8, 192)
def kjT_125 : List mv_E := [(0, .aload_n 0, 1, 0, 0, 0, 0), (1, .iconst 0, 1, 0, 0, 0, 0), (2, .putfield 74, 3, 9, 0, 0, 0), (5, .iload_n 1, 1, 0, 0, 0, 0), (6, .ifCond .ne 10, 3, 0, 0, 0, 0), (9, .aload_n 0, 1, 0, 0, 0, 0), (10, .getfield 150, 3, 9, 9, 0, 0), (13, .goto 28, 3, 0, 0, 0, 0), (16, .iload_n 1, 1, 0, 0, 0, 0), (17, .iconst 1, 1, 0, 0, 0, 0), (18, .if_icmp .ne 10, 3, 0, 0, 0, 0), (21, .aload_n 0, 1, 0, 0, 0, 0), (22, .getfield 156, 3, 9, 10, 0, 0), (25, .goto 16, 3, 0, 0, 0, 0), (28, .iload_n 1, 1, 0, 0, 0, 0), (29, .iconst 2, 1, 0, 0, 0, 0), (30, .if_icmp .ne 10, 3, 0, 0, 0, 0), (33, .aload_n 0, 1, 0, 0, 0, 0), (34, .getfield 153, 3, 9, 11, 0, 0), (37, .goto 4, 3, 0, 0, 0, 0), (40, .iconst (-1), 1, 0, 0, 0, 0), (41, .ireturn, 1, 0, 0, 0, 0)]
/-- KindJudgeModel.fault(I)I -/
def kjM_125 : mv_Me := (⟨"KindJudgeModel", "fault", "(I)I"⟩, prog_11_method_26_code, 2, (some .int), "KindJudgeModel", kjT_125, 0, 0, 0, 0)
def kjT_139 : List mv_E := [(0, .aload_n 0, 1, 0, 0, 0, 0), (1, .iconst 0, 1, 0, 0, 0, 0), (2, .putfield 74, 3, 9, 0, 0, 0), (5, .aload_n 0, 1, 0, 0, 0, 0), (6, .getfield 184, 3, 9, 8, 1, 0), (9, .ifCond .eq 62, 3, 0, 0, 0, 0), (71, .iconst (-1), 1, 0, 0, 0, 0), (72, .ireturn, 1, 0, 0, 0, 0)]
/-- KindJudgeModel.kind(III)I -/
def kjM_139 : mv_Me := (⟨"KindJudgeModel", "kind", "(III)I"⟩, prog_11_method_40_code, 5, (some .int), "KindJudgeModel", kjT_139, 0, 0, 1, 22)
def kjT_140 : List mv_E := [(0, .aload_n 0, 1, 0, 0, 0, 0), (1, .getfield 184, 3, 9, 8, 1, 0), (4, .ifCond .eq 21, 3, 0, 0, 0, 0), (25, .iconst 0, 1, 0, 0, 0, 0), (26, .ireturn, 1, 0, 0, 0, 0)]
/-- KindJudgeModel.isMethod(I)Z -/
def kjM_140 : mv_Me := (⟨"KindJudgeModel", "isMethod", "(I)Z"⟩, prog_11_method_41_code, 2, (some .boolean), "KindJudgeModel", kjT_140, 0, 0, 1, 22)
def kjT_141 : List mv_E := [(0, .aload_n 0, 1, 0, 0, 0, 0), (1, .iload_n 1, 1, 0, 0, 0, 0), (2, .invokevirtual 238, 3, 140, 2, 0, 9), (5, .ifCond .eq 37, 3, 0, 0, 0, 0), (42, .iconst 0, 1, 0, 0, 0, 0), (43, .ireturn, 1, 0, 0, 0, 0)]
/-- KindJudgeModel.isBegun(II)Z -/
def kjM_141 : mv_Me := (⟨"KindJudgeModel", "isBegun", "(II)Z"⟩, prog_11_method_42_code, 3, (some .boolean), "KindJudgeModel", kjT_141, 0, 0, 2, 43)
def kjT_144 : List mv_E := [(0, .aload_n 0, 1, 0, 0, 0, 0), (1, .aload_n 0, 1, 0, 0, 0, 0), (2, .iload_n 1, 1, 0, 0, 0, 0), (3, .iload_n 2, 1, 0, 0, 0, 0), (4, .invokevirtual 241, 3, 141, 3, 0, 9), (7, .ifCond .eq 16, 3, 0, 0, 0, 0), (23, .iconst 1, 1, 0, 0, 0, 0), (24, .putfield 74, 3, 9, 0, 0, 0), (27, .aload_n 0, 1, 0, 0, 0, 0), (28, .getfield 74, 3, 9, 0, 0, 0), (31, .ifCond .eq 5, 3, 0, 0, 0, 0), (34, .iconst 0, 1, 0, 0, 0, 0), (35, .ireturn, 1, 0, 0, 0, 0)]
/-- KindJudgeModel.look(III)I -/
def kjM_144 : mv_Me := (⟨"KindJudgeModel", "look", "(III)I"⟩, prog_11_method_45_code, 4, (some .int), "KindJudgeModel", kjT_144, 0, 0, 3, 65)
def kjT_146 : List mv_E := [(0, .aload_n 0, 1, 0, 0, 0, 0), (1, .iconst 0, 1, 0, 0, 0, 0), (2, .putfield 74, 3, 9, 0, 0, 0), (5, .aload_n 0, 1, 0, 0, 0, 0), (6, .iload_n 1, 1, 0, 0, 0, 0), (7, .iload_n 2, 1, 0, 0, 0, 0), (8, .invokevirtual 241, 3, 141, 3, 0, 9), (11, .ifCond .ne 5, 3, 0, 0, 0, 0), (14, .iconst (-1), 1, 0, 0, 0, 0), (15, .ireturn, 1, 0, 0, 0, 0)]
/-- KindJudgeModel.ways(II)I -/
def kjM_146 : mv_Me := (⟨"KindJudgeModel", "ways", "(II)I"⟩, prog_11_method_47_code, 5, (some .int), "KindJudgeModel", kjT_146, 0, 0, 3, 71)
def kjT_147 : List mv_E := [(0, .aload_n 0, 1, 0, 0, 0, 0), (1, .iconst 0, 1, 0, 0, 0, 0), (2, .putfield 74, 3, 9, 0, 0, 0), (5, .aload_n 0, 1, 0, 0, 0, 0), (6, .iload_n 1, 1, 0, 0, 0, 0), (7, .invokevirtual 238, 3, 140, 2, 0, 9), (10, .ifCond .eq 12, 3, 0, 0, 0, 0), (22, .iconst (-1), 1, 0, 0, 0, 0), (23, .ireturn, 1, 0, 0, 0, 0)]
/-- KindJudgeModel.count(II)I -/
def kjM_147 : mv_Me := (⟨"KindJudgeModel", "count", "(II)I"⟩, prog_11_method_48_code, 8, (some .int), "KindJudgeModel", kjT_147, 0, 0, 2, 45)
def kjT_149 : List mv_E := [(0, .aload_n 0, 1, 0, 0, 0, 0), (1, .iconst 0, 1, 0, 0, 0, 0), (2, .putfield 74, 3, 9, 0, 0, 0), (5, .aload_n 0, 1, 0, 0, 0, 0), (6, .getfield 184, 3, 9, 8, 1, 0), (9, .ifCond .eq 24, 3, 0, 0, 0, 0), (33, .iconst (-1), 1, 0, 0, 0, 0), (34, .ireturn, 1, 0, 0, 0, 0)]
/-- KindJudgeModel.fits(II)I -/
def kjM_149 : mv_Me := (⟨"KindJudgeModel", "fits", "(II)I"⟩, prog_11_method_50_code, 3, (some .int), "KindJudgeModel", kjT_149, 0, 0, 2, 45)
def kjT_150 : List mv_E := [(0, .aload_n 0, 1, 0, 0, 0, 0), (1, .iconst 0, 1, 0, 0, 0, 0), (2, .putfield 74, 3, 9, 0, 0, 0), (5, .aload_n 0, 1, 0, 0, 0, 0), (6, .getfield 184, 3, 9, 8, 1, 0), (9, .ifCond .eq 36, 3, 0, 0, 0, 0), (45, .iconst (-1), 1, 0, 0, 0, 0), (46, .ireturn, 1, 0, 0, 0, 0)]
/-- KindJudgeModel.meet(II)I -/
def kjM_150 : mv_Me := (⟨"KindJudgeModel", "meet", "(II)I"⟩, prog_11_method_51_code, 3, (some .int), "KindJudgeModel", kjT_150, 0, 0, 3, 68)
def kjT_151 : List mv_E := [(0, .aload_n 0, 1, 0, 0, 0, 0), (1, .iconst 0, 1, 0, 0, 0, 0), (2, .putfield 74, 3, 9, 0, 0, 0), (5, .aload_n 0, 1, 0, 0, 0, 0), (6, .getfield 184, 3, 9, 8, 1, 0), (9, .ifCond .eq 40, 3, 0, 0, 0, 0), (49, .iconst (-1), 1, 0, 0, 0, 0), (50, .ireturn, 1, 0, 0, 0, 0)]
/-- KindJudgeModel.method(II)I -/
def kjM_151 : mv_Me := (⟨"KindJudgeModel", "method", "(II)I"⟩, prog_11_method_52_code, 3, (some .int), "KindJudgeModel", kjT_151, 0, 0, 1, 23)
def kjT_152 : List mv_E := [(0, .aload_n 0, 1, 0, 0, 0, 0), (1, .iconst 0, 1, 0, 0, 0, 0), (2, .putfield 74, 3, 9, 0, 0, 0), (5, .aload_n 0, 1, 0, 0, 0, 0), (6, .getfield 184, 3, 9, 8, 1, 0), (9, .ifCond .eq 17, 3, 0, 0, 0, 0), (26, .iconst (-1), 1, 0, 0, 0, 0), (27, .ireturn, 1, 0, 0, 0, 0)]
/-- KindJudgeModel.type(II)I -/
def kjM_152 : mv_Me := (⟨"KindJudgeModel", "type", "(II)I"⟩, prog_11_method_53_code, 3, (some .int), "KindJudgeModel", kjT_152, 0, 0, 1, 22)
def kjT_153 : List mv_E := [(0, .aload_n 0, 1, 0, 0, 0, 0), (1, .iconst 0, 1, 0, 0, 0, 0), (2, .putfield 74, 3, 9, 0, 0, 0), (5, .iload_n 1, 1, 0, 0, 0, 0), (6, .tableswitch 92 0 4 #[34, 50, 66, 82, 87], 34, 0, 0, 0, 0), (40, .aload_n 0, 1, 0, 0, 0, 0), (41, .getfield 184, 3, 9, 8, 1, 0), (44, .ifCond .eq 10, 3, 0, 0, 0, 0), (54, .iconst 0, 1, 0, 0, 0, 0), (55, .ireturn, 1, 0, 0, 0, 0), (56, .aload_n 0, 1, 0, 0, 0, 0), (57, .getfield 184, 3, 9, 8, 1, 0), (60, .ifCond .eq 10, 3, 0, 0, 0, 0), (70, .iconst 0, 1, 0, 0, 0, 0), (71, .ireturn, 1, 0, 0, 0, 0), (72, .aload_n 0, 1, 0, 0, 0, 0), (73, .getfield 184, 3, 9, 8, 1, 0), (76, .ifCond .eq 10, 3, 0, 0, 0, 0), (86, .iconst 0, 1, 0, 0, 0, 0), (87, .ireturn, 1, 0, 0, 0, 0), (88, .aload_n 0, 1, 0, 0, 0, 0), (89, .getfield 78, 3, 9, 2, 0, 0), (92, .ireturn, 1, 0, 0, 0, 0), (93, .aload_n 0, 1, 0, 0, 0, 0), (94, .getfield 187, 3, 9, 1, 0, 0), (97, .ireturn, 1, 0, 0, 0, 0), (98, .iconst (-1), 1, 0, 0, 0, 0), (99, .ireturn, 1, 0, 0, 0, 0)]
/-- KindJudgeModel.total(I)I -/
def kjM_153 : mv_Me := (⟨"KindJudgeModel", "total", "(I)I"⟩, prog_11_method_54_code, 2, (some .int), "KindJudgeModel", kjT_153, 0, 0, 0, 0)
def kjP : List mv_Me := [kjM_0, kjM_1, kjM_2, kjM_3, kjM_4, kjM_5, kjM_6, kjM_7, kjM_8, kjM_9, kjM_10, kjM_11, kjM_12, kjM_13, kjM_14, kjM_101, kjM_101, kjM_101, kjM_18, kjM_19, kjM_20, kjM_21, kjM_22, kjM_23, kjM_24, kjM_25, kjM_101, kjM_101, kjM_101, kjM_29, kjM_101, kjM_101, kjM_32, kjM_33, kjM_34, kjM_35, kjM_101, kjM_37, kjM_101, kjM_101, kjM_101, kjM_101, kjM_101, kjM_101, kjM_101, kjM_101, kjM_46, kjM_47, kjM_101, kjM_49, kjM_101, kjM_101, kjM_101, kjM_53, kjM_54, kjM_55, kjM_56, kjM_57, kjM_58, kjM_59, kjM_60, kjM_101, kjM_101, kjM_63, kjM_101, kjM_101, kjM_66, kjM_101, kjM_101, kjM_101, kjM_101, kjM_101, kjM_101, kjM_101, kjM_101, kjM_101, kjM_101, kjM_77, kjM_101, kjM_101, kjM_101, kjM_101, kjM_101, kjM_101, kjM_101, kjM_101, kjM_101, kjM_101, kjM_101, kjM_101, kjM_101, kjM_101, kjM_101, kjM_101, kjM_101, kjM_101, kjM_101, kjM_101, kjM_101, kjM_101, kjM_100, kjM_101, kjM_102, kjM_101, kjM_104, kjM_105, kjM_101, kjM_101, kjM_101, kjM_101, kjM_101, kjM_101, kjM_101, kjM_101, kjM_114, kjM_101, kjM_101, kjM_101, kjM_101, kjM_101, kjM_101, kjM_121, kjM_122, kjM_123, kjM_101, kjM_125, kjM_101, kjM_101, kjM_101, kjM_101, kjM_101, kjM_101, kjM_101, kjM_101, kjM_101, kjM_101, kjM_101, kjM_101, kjM_101, kjM_139, kjM_140, kjM_141, kjM_101, kjM_101, kjM_144, kjM_101, kjM_146, kjM_147, kjM_101, kjM_149, kjM_150, kjM_151, kjM_152, kjM_153]
abbrev kjTs : List Jvm.Cond := lw_tbl.filter goodWord
abbrev kjNw : List Jvm.Cond := lw_tbl.filter mv_nest
end
section
/-! The world of the law: the cells of the class (two Books), of the reference, and the answers' array; by program (wip/p1/emit.py). -/
def kb (b : Bool) (k : Nat) : Nat := bif b then k + 29 else k
def kjSH : List mv_Sh := [.inr 0, .inr 1, .inr 2, .inl (2, 1500), .inr 3, .inr 4, .inl (0, 8), .inl (0, 8), .inl (0, 64), .inl (0, 8), .inr 5, .inl (0, 16), .inl (0, 64), .inl (0, 16), .inr 5, .inl (0, 16), .inl (0, 64), .inl (0, 16), .inl (0, 16), .inl (0, 16), .inl (0, 16), .inl (0, 16), .inl (0, 64), .inr 6, .inr 7, .inl (1, 1500), .inr 8, .inl (2, 1500), .inl (3, 1500), .inl (1, 120), .inr 1, .inr 2, .inl (2, 1500), .inr 3, .inr 4, .inl (0, 8), .inl (0, 8), .inl (0, 64), .inl (0, 8), .inr 5, .inl (0, 16), .inl (0, 64), .inl (0, 16), .inr 5, .inl (0, 16), .inl (0, 64), .inl (0, 16), .inl (0, 16), .inl (0, 16), .inl (0, 16), .inl (0, 16), .inl (0, 64), .inr 6, .inr 7, .inl (1, 1500), .inr 8, .inl (2, 1500), .inl (3, 1500), .inl (1, 120), .inr 9, .inl (0, 1500), .inl (0, 1500), .inl (0, 1500), .inl (0, 8), .inl (0, 8), .inl (0, 64), .inl (0, 8), .inl (0, 24), .inl (0, 8), .inl (0, 16), .inl (0, 64), .inl (0, 16), .inl (0, 16), .inl (0, 16), .inl (0, 16), .inl (0, 1920), .inl (1, 1920), .inl (0, 64), .inl (0, 1920), .inl (0, 30720), .inl (0, 16), .inl (3, 1)]
def kjRt (f : Bool) : List (List (Option Nat)) := [[some (kb f 1), some (kb (!f) 1)], [some 2, some 4, some 24, some 26], [some 3], [], [some 5, some 10, some 14, some 23, some 18, some 19, some 20, some 21, some 22], [some 6, some 7, some 8, some 9], [], [], [], [], [some 11, some 12, some 13], [], [], [], [some 15, some 16, some 17], [], [], [], [], [], [], [], [], [some 2], [some 2, some 4, some 25], [], [some 4, some 24, some 27, some 28, some 29], [], [], [], [some 31, some 33, some 53, some 55], [some 32], [], [some 34, some 39, some 43, some 52, some 47, some 48, some 49, some 50, some 51], [some 35, some 36, some 37, some 38], [], [], [], [], [some 40, some 41, some 42], [], [], [], [some 44, some 45, some 46], [], [], [], [], [], [], [], [], [some 31], [some 31, some 33, some 54], [], [some 33, some 53, some 56, some 57, some 58], [], [], [], [none, none, none, some 60, some 61, none, some 62, none, none, none, none, none, none, some 63, some 64, some 65, none, some 66, some 67, some 68, none, some 69, some 70, some 71, some 72, some 73, some 74, some 75, some 76, some 77, some 78, some 79, some 80], [], [], [], [], [], [], [], [], [], [], [], [], [], [], [], [], [], [], [], [], [], []]
def kjR (f : Bool) (k j : Nat) : Option Nat := ((kjRt f).getD k []).getD j none
abbrev kjI : Type := Nat → Nat → Int32
abbrev kjL : Type := Nat → Nat → Int64
abbrev kjS (f : Bool) (I : kjI) (L : kjL) : mv_S := (kjSH, I, L, kjR f)
def kjQi (f : Bool) (I : kjI) (L : kjL) (r : Int32) : Option Value → mv_S → Prop := fun v S => v = some (.int r) ∧ S = kjS f I L
def kjQl (f : Bool) (I : kjI) (L : kjL) (r : Int64) : Option Value → mv_S → Prop := fun v S => v = some (.long r) ∧ S = kjS f I L
def kjQwi (f : Bool) (r : Int32 × kjI × kjL) : Option Value → mv_S → Prop := fun v S => v = some (.int r.1) ∧ S = kjS f r.2.1 r.2.2
def kjQwv (f : Bool) (r : kjI × kjL) : Option Value → mv_S → Prop := fun v S => v = none ∧ S = kjS f r.1 r.2
def mv_in (i : Int32) (n : Nat) : Bool := !(decide (i < 0)) && Nat.blt i.toNatClampNeg n
theorem mv_in_ok {i : Int32} {n : Nat} (h : mv_in i n = true) : vp_in i n := by
  unfold mv_in at h
  rw [Bool.and_eq_true] at h
  intro q
  rcases q with q | q
  · have := h.1
    simp [q] at this
  · have : i.toNatClampNeg < n := Nat.le_of_ble_eq_true h.2
    omega
theorem mv_bifs {α : Type} {b : Bool} {x : Option α} {r : α} (h : (bif b then x else none) = some r) : b = true ∧ x = some r := by
  cases b with
  | true => exact ⟨rfl, h⟩
  | false => cases h
theorem mv_ifs {α : Type} {c : Prop} {d : Decidable c} {x : Option α} {r : α} (h : (if c then x else none) = some r) : c ∧ x = some r := by
  by_cases hc : c
  · rw [if_pos hc] at h
    exact ⟨hc, h⟩
  · rw [if_neg hc] at h
    cases h
theorem mv_bd {α β : Type} {o : Option α} {f : α → Option β} {r : β} (h : o.bind f = some r) : ∃ x, o = some x ∧ f x = some r := by
  cases o with
  | none => cases h
  | some x => exact ⟨x, rfl, h⟩
theorem mv_C_in {prog : List mv_Me} {sta : Nat → List Int32} {d i : Nat} {as : List Value} {S : mv_S} {Q : Option Value → mv_S → Prop} (M : mv_Me) {lc : mv_L} (h1 : prog[i]? = some M) (h2 : mv_ent (mv_ml M) as = lc) (h3 : lc.length = mv_ml M) (h4 : mv_G prog sta (mv_C prog sta d) M Q (0, lc, [], 0, 0, S)) : mv_C prog sta (d + 1) i as S Q := by
  subst h2
  exact ⟨M, h1, h3, h4⟩
end
section
/-! KindJudge$Bytes.append(JI)Z on ('b', 2) -/
def kf20_33 (b : Bool) (N : Nat) : Nat → Int64 → Int32 → kjI → kjL → Option (Int32 × kjI × kjL)
  | 0, _, _, _, _ => none
  | n + 1, v1, v4, I, L => if v4 < 0 then (some ((1 : Int32), I, L)) else (bif mv_in (I (kb b 2) 1) 1500 then ((fun v1 v4 I L => kf20_33 b N n v1 v4 I L) v1 (v4 + (-8 : Int32)) (mv_up (mv_up I (kb b 3) (Int32.toNatClampNeg (I (kb b 2) 1)) (Int8.toInt32 (Int32.toInt8 (Int8.toInt32 (Int32.toInt8 (Int64.toInt32 (v1 >>> (Int32.toInt64 v4 &&& 63)))))))) (kb b 2) 1 (((mv_up I (kb b 3) (Int32.toNatClampNeg (I (kb b 2) 1)) (Int8.toInt32 (Int32.toInt8 (Int8.toInt32 (Int32.toInt8 (Int64.toInt32 (v1 >>> (Int32.toInt64 v4 &&& 63)))))))) (kb b 2) 1) + (1 : Int32))) L) else none)
set_option maxRecDepth 100000 in
set_option maxHeartbeats 4000000 in
theorem kf20_33_ok (f : Bool) (b : Bool) (N : Nat) (d : Nat)  : ∀ (n : Nat) (v1 : Int64) (v4 : Int32) (I : kjI) (L : kjL) (r : Int32 × kjI × kjL), kf20_33 b N n v1 v4 I L = some r → mv_G kjP kjSta (mv_C kjP kjSta (d + 0)) kjM_20 (kjQwi f r) (33, [some (.ref (kb b 2)), some (.long v1), none, none, some (.int v4)], [], 0, 0, kjS f I L) := by
  cases b
  · intro n
    induction n with
    | zero => intro v1 v4 I L r h; cases h
    | succ n ih =>
      have hk33 := ih
      intro v1 v4 I L r h
      unfold kf20_33 at h
      refine mv_G_run 1 (F' := (35, [some (.ref (kb false 2)), some (.long v1), none, none, some (.int v4)], [.int v4], 0, 0, kjS f I L)) rfl ?_
      by_cases hc1 : v4 < 0
      · rw [if_pos hc1] at h
        refine mv_G_br (tgt := 69) rfl rfl (by decide) (fun _ => ?_) (fun z => absurd hc1 z)
        refine mv_G_run 1 (F' := (70, [some (.ref (kb false 2)), some (.long v1), none, none, some (.int v4)], [.int (1 : Int32)], 0, 0, kjS f I L)) rfl ?_
        obtain rfl := Option.some.inj h
        exact mv_G_ret rfl rfl rfl (Nat.le_refl _) (Or.inr rfl) ⟨rfl, rfl⟩
      · rw [if_neg hc1] at h
        refine mv_G_br (tgt := 69) rfl rfl (by decide) (fun z => absurd z hc1) (fun _ => ?_)
        refine mv_G_run 9 (F' := (52, [some (.ref (kb false 2)), some (.long v1), none, none, some (.int v4)], [.int (Int8.toInt32 (Int32.toInt8 (Int64.toInt32 (v1 >>> (Int32.toInt64 v4 &&& 63))))), .int (I (kb false 2) 1), .ref (kb false 3)], 0, 0, kjS f I L)) rfl ?_
        obtain ⟨hi2, h⟩ := mv_bifs h
        refine mv_G_ast rfl rfl (mv_in_ok hi2) ?_
        refine mv_G_run 8 (F' := (33, [some (.ref (kb false 2)), some (.long v1), none, none, some (.int (v4 + (-8 : Int32)))], [], 0, 0, kjS f (mv_up (mv_up I (kb false 3) (Int32.toNatClampNeg (I (kb false 2) 1)) (Int8.toInt32 (Int32.toInt8 (Int8.toInt32 (Int32.toInt8 (Int64.toInt32 (v1 >>> (Int32.toInt64 v4 &&& 63)))))))) (kb false 2) 1 (((mv_up I (kb false 3) (Int32.toNatClampNeg (I (kb false 2) 1)) (Int8.toInt32 (Int32.toInt8 (Int8.toInt32 (Int32.toInt8 (Int64.toInt32 (v1 >>> (Int32.toInt64 v4 &&& 63)))))))) (kb false 2) 1) + (1 : Int32))) L)) rfl ?_
        exact hk33 v1 (v4 + (-8 : Int32)) (mv_up (mv_up I (kb false 3) (Int32.toNatClampNeg (I (kb false 2) 1)) (Int8.toInt32 (Int32.toInt8 (Int8.toInt32 (Int32.toInt8 (Int64.toInt32 (v1 >>> (Int32.toInt64 v4 &&& 63)))))))) (kb false 2) 1 (((mv_up I (kb false 3) (Int32.toNatClampNeg (I (kb false 2) 1)) (Int8.toInt32 (Int32.toInt8 (Int8.toInt32 (Int32.toInt8 (Int64.toInt32 (v1 >>> (Int32.toInt64 v4 &&& 63)))))))) (kb false 2) 1) + (1 : Int32))) L _ h
  · intro n
    induction n with
    | zero => intro v1 v4 I L r h; cases h
    | succ n ih =>
      have hk33 := ih
      intro v1 v4 I L r h
      unfold kf20_33 at h
      refine mv_G_run 1 (F' := (35, [some (.ref (kb true 2)), some (.long v1), none, none, some (.int v4)], [.int v4], 0, 0, kjS f I L)) rfl ?_
      by_cases hc1 : v4 < 0
      · rw [if_pos hc1] at h
        refine mv_G_br (tgt := 69) rfl rfl (by decide) (fun _ => ?_) (fun z => absurd hc1 z)
        refine mv_G_run 1 (F' := (70, [some (.ref (kb true 2)), some (.long v1), none, none, some (.int v4)], [.int (1 : Int32)], 0, 0, kjS f I L)) rfl ?_
        obtain rfl := Option.some.inj h
        exact mv_G_ret rfl rfl rfl (Nat.le_refl _) (Or.inr rfl) ⟨rfl, rfl⟩
      · rw [if_neg hc1] at h
        refine mv_G_br (tgt := 69) rfl rfl (by decide) (fun z => absurd z hc1) (fun _ => ?_)
        refine mv_G_run 9 (F' := (52, [some (.ref (kb true 2)), some (.long v1), none, none, some (.int v4)], [.int (Int8.toInt32 (Int32.toInt8 (Int64.toInt32 (v1 >>> (Int32.toInt64 v4 &&& 63))))), .int (I (kb true 2) 1), .ref (kb true 3)], 0, 0, kjS f I L)) rfl ?_
        obtain ⟨hi2, h⟩ := mv_bifs h
        refine mv_G_ast rfl rfl (mv_in_ok hi2) ?_
        refine mv_G_run 8 (F' := (33, [some (.ref (kb true 2)), some (.long v1), none, none, some (.int (v4 + (-8 : Int32)))], [], 0, 0, kjS f (mv_up (mv_up I (kb true 3) (Int32.toNatClampNeg (I (kb true 2) 1)) (Int8.toInt32 (Int32.toInt8 (Int8.toInt32 (Int32.toInt8 (Int64.toInt32 (v1 >>> (Int32.toInt64 v4 &&& 63)))))))) (kb true 2) 1 (((mv_up I (kb true 3) (Int32.toNatClampNeg (I (kb true 2) 1)) (Int8.toInt32 (Int32.toInt8 (Int8.toInt32 (Int32.toInt8 (Int64.toInt32 (v1 >>> (Int32.toInt64 v4 &&& 63)))))))) (kb true 2) 1) + (1 : Int32))) L)) rfl ?_
        exact hk33 v1 (v4 + (-8 : Int32)) (mv_up (mv_up I (kb true 3) (Int32.toNatClampNeg (I (kb true 2) 1)) (Int8.toInt32 (Int32.toInt8 (Int8.toInt32 (Int32.toInt8 (Int64.toInt32 (v1 >>> (Int32.toInt64 v4 &&& 63)))))))) (kb true 2) 1 (((mv_up I (kb true 3) (Int32.toNatClampNeg (I (kb true 2) 1)) (Int8.toInt32 (Int32.toInt8 (Int8.toInt32 (Int32.toInt8 (Int64.toInt32 (v1 >>> (Int32.toInt64 v4 &&& 63)))))))) (kb true 2) 1) + (1 : Int32))) L _ h
def kf20 (b : Bool) (N : Nat) (v1 : Int64) (v3 : Int32) (I : kjI) (L : kjL) : Option (Int32 × kjI × kjL) :=
  if v3 < (1 : Int32) then (some ((0 : Int32), I, L)) else (if (8 : Int32) < v3 then (some ((0 : Int32), I, L)) else (if v3 ≤ ((1500 : Int32) - (I (kb b 2) 1)) then (kf20_33 b N N v1 ((8 : Int32) * (v3 - (1 : Int32))) I L) else (some ((0 : Int32), I, L))))
set_option maxRecDepth 100000 in
set_option maxHeartbeats 4000000 in
theorem kf20_ok (f : Bool) (b : Bool) (N : Nat) (v1 : Int64) (v3 : Int32) (I : kjI) (L : kjL) (d : Nat) (r : Int32 × kjI × kjL) (h : kf20 b N v1 v3 I L = some r) : mv_C kjP kjSta (d + 1) 20 [.ref (kb b 2), .long v1, .int v3] (kjS f I L) (kjQwi f r) := by
  cases b
  · unfold kf20 at h
    refine mv_C_in kjM_20 (lc := [some (.ref (kb false 2)), some (.long v1), none, some (.int v3), none]) rfl rfl rfl ?_
    refine mv_G_run 2 (F' := (2, [some (.ref (kb false 2)), some (.long v1), none, some (.int v3), none], [.int (1 : Int32), .int v3], 0, 0, kjS f I L)) rfl ?_
    by_cases hc1 : v3 < (1 : Int32)
    · rw [if_pos hc1] at h
      refine mv_G_br (tgt := 23) rfl rfl (by decide) (fun _ => ?_) (fun z => absurd hc1 z)
      refine mv_G_run 1 (F' := (24, [some (.ref (kb false 2)), some (.long v1), none, some (.int v3), none], [.int (0 : Int32)], 0, 0, kjS f I L)) rfl ?_
      obtain rfl := Option.some.inj h
      exact mv_G_ret rfl rfl rfl (Nat.le_refl _) (Or.inl rfl) ⟨rfl, rfl⟩
    · rw [if_neg hc1] at h
      refine mv_G_br (tgt := 23) rfl rfl (by decide) (fun z => absurd z hc1) (fun _ => ?_)
      refine mv_G_run 2 (F' := (8, [some (.ref (kb false 2)), some (.long v1), none, some (.int v3), none], [.int (8 : Int32), .int v3], 0, 0, kjS f I L)) rfl ?_
      by_cases hc2 : (8 : Int32) < v3
      · rw [if_pos hc2] at h
        refine mv_G_br (tgt := 23) rfl rfl (by decide) (fun _ => ?_) (fun z => absurd hc2 z)
        refine mv_G_run 1 (F' := (24, [some (.ref (kb false 2)), some (.long v1), none, some (.int v3), none], [.int (0 : Int32)], 0, 0, kjS f I L)) rfl ?_
        obtain rfl := Option.some.inj h
        exact mv_G_ret rfl rfl rfl (Nat.le_refl _) (Or.inl rfl) ⟨rfl, rfl⟩
      · rw [if_neg hc2] at h
        refine mv_G_br (tgt := 23) rfl rfl (by decide) (fun z => absurd z hc2) (fun _ => ?_)
        refine mv_G_run 5 (F' := (20, [some (.ref (kb false 2)), some (.long v1), none, some (.int v3), none], [.int ((1500 : Int32) - (I (kb false 2) 1)), .int v3], 0, 0, kjS f I L)) rfl ?_
        by_cases hc3 : v3 ≤ ((1500 : Int32) - (I (kb false 2) 1))
        · rw [if_pos hc3] at h
          refine mv_G_br (tgt := 25) rfl rfl (by decide) (fun _ => ?_) (fun z => absurd hc3 z)
          refine mv_G_run 6 (F' := (33, [some (.ref (kb false 2)), some (.long v1), none, some (.int v3), some (.int ((8 : Int32) * (v3 - (1 : Int32))))], [], 0, 0, kjS f I L)) rfl ?_
          refine mv_G_fg (lc' := [some (.ref (kb false 2)), some (.long v1), none, none, some (.int ((8 : Int32) * (v3 - (1 : Int32))))]) (And.intro rfl (And.intro rfl (And.intro rfl trivial))) ?_
          exact kf20_33_ok _ _ _ d _ _ _ _ _ _ h
        · rw [if_neg hc3] at h
          refine mv_G_br (tgt := 25) rfl rfl (by decide) (fun z => absurd z hc3) (fun _ => ?_)
          refine mv_G_run 1 (F' := (24, [some (.ref (kb false 2)), some (.long v1), none, some (.int v3), none], [.int (0 : Int32)], 0, 0, kjS f I L)) rfl ?_
          obtain rfl := Option.some.inj h
          exact mv_G_ret rfl rfl rfl (Nat.le_refl _) (Or.inl rfl) ⟨rfl, rfl⟩
  · unfold kf20 at h
    refine mv_C_in kjM_20 (lc := [some (.ref (kb true 2)), some (.long v1), none, some (.int v3), none]) rfl rfl rfl ?_
    refine mv_G_run 2 (F' := (2, [some (.ref (kb true 2)), some (.long v1), none, some (.int v3), none], [.int (1 : Int32), .int v3], 0, 0, kjS f I L)) rfl ?_
    by_cases hc1 : v3 < (1 : Int32)
    · rw [if_pos hc1] at h
      refine mv_G_br (tgt := 23) rfl rfl (by decide) (fun _ => ?_) (fun z => absurd hc1 z)
      refine mv_G_run 1 (F' := (24, [some (.ref (kb true 2)), some (.long v1), none, some (.int v3), none], [.int (0 : Int32)], 0, 0, kjS f I L)) rfl ?_
      obtain rfl := Option.some.inj h
      exact mv_G_ret rfl rfl rfl (Nat.le_refl _) (Or.inl rfl) ⟨rfl, rfl⟩
    · rw [if_neg hc1] at h
      refine mv_G_br (tgt := 23) rfl rfl (by decide) (fun z => absurd z hc1) (fun _ => ?_)
      refine mv_G_run 2 (F' := (8, [some (.ref (kb true 2)), some (.long v1), none, some (.int v3), none], [.int (8 : Int32), .int v3], 0, 0, kjS f I L)) rfl ?_
      by_cases hc2 : (8 : Int32) < v3
      · rw [if_pos hc2] at h
        refine mv_G_br (tgt := 23) rfl rfl (by decide) (fun _ => ?_) (fun z => absurd hc2 z)
        refine mv_G_run 1 (F' := (24, [some (.ref (kb true 2)), some (.long v1), none, some (.int v3), none], [.int (0 : Int32)], 0, 0, kjS f I L)) rfl ?_
        obtain rfl := Option.some.inj h
        exact mv_G_ret rfl rfl rfl (Nat.le_refl _) (Or.inl rfl) ⟨rfl, rfl⟩
      · rw [if_neg hc2] at h
        refine mv_G_br (tgt := 23) rfl rfl (by decide) (fun z => absurd z hc2) (fun _ => ?_)
        refine mv_G_run 5 (F' := (20, [some (.ref (kb true 2)), some (.long v1), none, some (.int v3), none], [.int ((1500 : Int32) - (I (kb true 2) 1)), .int v3], 0, 0, kjS f I L)) rfl ?_
        by_cases hc3 : v3 ≤ ((1500 : Int32) - (I (kb true 2) 1))
        · rw [if_pos hc3] at h
          refine mv_G_br (tgt := 25) rfl rfl (by decide) (fun _ => ?_) (fun z => absurd hc3 z)
          refine mv_G_run 6 (F' := (33, [some (.ref (kb true 2)), some (.long v1), none, some (.int v3), some (.int ((8 : Int32) * (v3 - (1 : Int32))))], [], 0, 0, kjS f I L)) rfl ?_
          refine mv_G_fg (lc' := [some (.ref (kb true 2)), some (.long v1), none, none, some (.int ((8 : Int32) * (v3 - (1 : Int32))))]) (And.intro rfl (And.intro rfl (And.intro rfl trivial))) ?_
          exact kf20_33_ok _ _ _ d _ _ _ _ _ _ h
        · rw [if_neg hc3] at h
          refine mv_G_br (tgt := 25) rfl rfl (by decide) (fun z => absurd z hc3) (fun _ => ?_)
          refine mv_G_run 1 (F' := (24, [some (.ref (kb true 2)), some (.long v1), none, some (.int v3), none], [.int (0 : Int32)], 0, 0, kjS f I L)) rfl ?_
          obtain rfl := Option.some.inj h
          exact mv_G_ret rfl rfl rfl (Nat.le_refl _) (Or.inl rfl) ⟨rfl, rfl⟩
/-! KindJudge.put(JI)Z on ('c', 0) -/
def kf1 (f : Bool) (N : Nat) (v1 : Int64) (v3 : Int32) (I : kjI) (L : kjL) : Option (Int32 × kjI × kjL) :=
  (kf20 (!f) N v1 v3 I L).bind fun r1 => if r1.1 = 0 ∨ r1.1 = 1 then some (r1.1, r1.2.1, r1.2.2) else none
set_option maxRecDepth 100000 in
set_option maxHeartbeats 4000000 in
theorem kf1_ok (f : Bool) (N : Nat) (v1 : Int64) (v3 : Int32) (I : kjI) (L : kjL) (d : Nat) (r : Int32 × kjI × kjL) (h : kf1 f N v1 v3 I L = some r) : mv_C kjP kjSta (d + 2) 1 [.ref 0, .long v1, .int v3] (kjS f I L) (kjQwi f r) := by
  cases f
  · unfold kf1 at h
    refine mv_C_in kjM_1 (lc := [some (.ref 0), some (.long v1), none, some (.int v3)]) rfl rfl rfl ?_
    refine mv_G_run 5 (F' := (9, [some (.ref 0), some (.long v1), none, some (.int v3)], [.int v3, .long v1, .ref (kb (!false) 2)], 0, 0, kjS false I L)) rfl ?_
    obtain ⟨r1, hc2, h⟩ := mv_bd h
    refine mv_G_call (r := []) (kf20_ok _ _ _ _ _ _ _ _ _ hc2) rfl rfl rfl rfl rfl (Nat.le_of_ble_eq_true rfl) (Nat.le_of_ble_eq_true rfl) (Nat.le_of_ble_eq_true rfl) ?_
    rintro _ _ ⟨rfl, rfl⟩
    obtain ⟨hb3, h⟩ := mv_ifs h
    obtain rfl := Option.some.inj h
    exact mv_G_ret rfl rfl rfl (Nat.le_refl _) hb3 ⟨rfl, rfl⟩
  · unfold kf1 at h
    refine mv_C_in kjM_1 (lc := [some (.ref 0), some (.long v1), none, some (.int v3)]) rfl rfl rfl ?_
    refine mv_G_run 5 (F' := (9, [some (.ref 0), some (.long v1), none, some (.int v3)], [.int v3, .long v1, .ref (kb (!true) 2)], 0, 0, kjS true I L)) rfl ?_
    obtain ⟨r1, hc2, h⟩ := mv_bd h
    refine mv_G_call (r := []) (kf20_ok _ _ _ _ _ _ _ _ _ hc2) rfl rfl rfl rfl rfl (Nat.le_of_ble_eq_true rfl) (Nat.le_of_ble_eq_true rfl) (Nat.le_of_ble_eq_true rfl) ?_
    rintro _ _ ⟨rfl, rfl⟩
    obtain ⟨hb3, h⟩ := mv_ifs h
    obtain rfl := Option.some.inj h
    exact mv_G_ret rfl rfl rfl (Nat.le_refl _) hb3 ⟨rfl, rfl⟩
/-! KindJudge.fault(I)I on ('c', 0) -/
def kf3 (f : Bool) (I : kjI) (L : kjL) (v1 : Int32) : Option (Int32) :=
  if ¬ v1 = 0 then (if ¬ v1 = (1 : Int32) then (if ¬ v1 = (2 : Int32) then (some (-1 : Int32)) else (some (I 0 5))) else (some (I 0 4))) else (some (I 0 3))
set_option maxRecDepth 100000 in
set_option maxHeartbeats 4000000 in
theorem kf3_ok (f : Bool) (I : kjI) (L : kjL) (v1 : Int32) (d : Nat) (r : Int32) (h : kf3 f I L v1 = some r) : mv_C kjP kjSta (d + 1) 3 [.ref 0, .int v1] (kjS f I L) (kjQi f I L r) := by
  cases f
  · unfold kf3 at h
    refine mv_C_in kjM_3 (lc := [some (.ref 0), some (.int v1)]) rfl rfl rfl ?_
    refine mv_G_run 1 (F' := (1, [some (.ref 0), some (.int v1)], [.int v1], 0, 0, kjS false I L)) rfl ?_
    by_cases hc1 : ¬ v1 = 0
    · rw [if_pos hc1] at h
      refine mv_G_br (tgt := 9) rfl rfl (by decide) (fun _ => ?_) (fun z => absurd hc1 z)
      refine mv_G_run 2 (F' := (11, [some (.ref 0), some (.int v1)], [.int (1 : Int32), .int v1], 0, 0, kjS false I L)) rfl ?_
      by_cases hc2 : ¬ v1 = (1 : Int32)
      · rw [if_pos hc2] at h
        refine mv_G_br (tgt := 19) rfl rfl (by decide) (fun _ => ?_) (fun z => absurd hc2 z)
        refine mv_G_run 2 (F' := (21, [some (.ref 0), some (.int v1)], [.int (2 : Int32), .int v1], 0, 0, kjS false I L)) rfl ?_
        by_cases hc3 : ¬ v1 = (2 : Int32)
        · rw [if_pos hc3] at h
          refine mv_G_br (tgt := 31) rfl rfl (by decide) (fun _ => ?_) (fun z => absurd hc3 z)
          refine mv_G_run 1 (F' := (32, [some (.ref 0), some (.int v1)], [.int (-1 : Int32)], 0, 0, kjS false I L)) rfl ?_
          obtain rfl := Option.some.inj h
          exact mv_G_ret rfl rfl rfl (Nat.le_refl _) trivial ⟨rfl, rfl⟩
        · rw [if_neg hc3] at h
          refine mv_G_br (tgt := 31) rfl rfl (by decide) (fun z => absurd z hc3) (fun _ => ?_)
          refine mv_G_run 3 (F' := (32, [some (.ref 0), some (.int v1)], [.int (I 0 5)], 0, 0, kjS false I L)) rfl ?_
          obtain rfl := Option.some.inj h
          exact mv_G_ret rfl rfl rfl (Nat.le_refl _) trivial ⟨rfl, rfl⟩
      · rw [if_neg hc2] at h
        refine mv_G_br (tgt := 19) rfl rfl (by decide) (fun z => absurd z hc2) (fun _ => ?_)
        refine mv_G_run 2 (F' := (18, [some (.ref 0), some (.int v1)], [.int (I 0 4)], 0, 0, kjS false I L)) rfl ?_
        obtain rfl := Option.some.inj h
        exact mv_G_ret rfl rfl rfl (Nat.le_refl _) trivial ⟨rfl, rfl⟩
    · rw [if_neg hc1] at h
      refine mv_G_br (tgt := 9) rfl rfl (by decide) (fun z => absurd z hc1) (fun _ => ?_)
      refine mv_G_run 2 (F' := (8, [some (.ref 0), some (.int v1)], [.int (I 0 3)], 0, 0, kjS false I L)) rfl ?_
      obtain rfl := Option.some.inj h
      exact mv_G_ret rfl rfl rfl (Nat.le_refl _) trivial ⟨rfl, rfl⟩
  · unfold kf3 at h
    refine mv_C_in kjM_3 (lc := [some (.ref 0), some (.int v1)]) rfl rfl rfl ?_
    refine mv_G_run 1 (F' := (1, [some (.ref 0), some (.int v1)], [.int v1], 0, 0, kjS true I L)) rfl ?_
    by_cases hc1 : ¬ v1 = 0
    · rw [if_pos hc1] at h
      refine mv_G_br (tgt := 9) rfl rfl (by decide) (fun _ => ?_) (fun z => absurd hc1 z)
      refine mv_G_run 2 (F' := (11, [some (.ref 0), some (.int v1)], [.int (1 : Int32), .int v1], 0, 0, kjS true I L)) rfl ?_
      by_cases hc2 : ¬ v1 = (1 : Int32)
      · rw [if_pos hc2] at h
        refine mv_G_br (tgt := 19) rfl rfl (by decide) (fun _ => ?_) (fun z => absurd hc2 z)
        refine mv_G_run 2 (F' := (21, [some (.ref 0), some (.int v1)], [.int (2 : Int32), .int v1], 0, 0, kjS true I L)) rfl ?_
        by_cases hc3 : ¬ v1 = (2 : Int32)
        · rw [if_pos hc3] at h
          refine mv_G_br (tgt := 31) rfl rfl (by decide) (fun _ => ?_) (fun z => absurd hc3 z)
          refine mv_G_run 1 (F' := (32, [some (.ref 0), some (.int v1)], [.int (-1 : Int32)], 0, 0, kjS true I L)) rfl ?_
          obtain rfl := Option.some.inj h
          exact mv_G_ret rfl rfl rfl (Nat.le_refl _) trivial ⟨rfl, rfl⟩
        · rw [if_neg hc3] at h
          refine mv_G_br (tgt := 31) rfl rfl (by decide) (fun z => absurd z hc3) (fun _ => ?_)
          refine mv_G_run 3 (F' := (32, [some (.ref 0), some (.int v1)], [.int (I 0 5)], 0, 0, kjS true I L)) rfl ?_
          obtain rfl := Option.some.inj h
          exact mv_G_ret rfl rfl rfl (Nat.le_refl _) trivial ⟨rfl, rfl⟩
      · rw [if_neg hc2] at h
        refine mv_G_br (tgt := 19) rfl rfl (by decide) (fun z => absurd z hc2) (fun _ => ?_)
        refine mv_G_run 2 (F' := (18, [some (.ref 0), some (.int v1)], [.int (I 0 4)], 0, 0, kjS true I L)) rfl ?_
        obtain rfl := Option.some.inj h
        exact mv_G_ret rfl rfl rfl (Nat.le_refl _) trivial ⟨rfl, rfl⟩
    · rw [if_neg hc1] at h
      refine mv_G_br (tgt := 9) rfl rfl (by decide) (fun z => absurd z hc1) (fun _ => ?_)
      refine mv_G_run 2 (F' := (8, [some (.ref 0), some (.int v1)], [.int (I 0 3)], 0, 0, kjS true I L)) rfl ?_
      obtain rfl := Option.some.inj h
      exact mv_G_ret rfl rfl rfl (Nat.le_refl _) trivial ⟨rfl, rfl⟩
/-! KindJudge$Layout.lengthOf(I)I on ('b', 4) -/
def kf32 (b : Bool) (I : kjI) (L : kjL) (v1 : Int32) : Option (Int32) :=
  if v1 < 0 then (some (0 : Int32)) else (if (I (kb b 14) 3) ≤ v1 then (some (0 : Int32)) else (none))
set_option maxRecDepth 100000 in
set_option maxHeartbeats 4000000 in
theorem kf32_ok (f : Bool) (b : Bool) (I : kjI) (L : kjL) (v1 : Int32) (d : Nat) (r : Int32) (h : kf32 b I L v1 = some r) : mv_C kjP kjSta (d + 1) 32 [.ref (kb b 4), .int v1] (kjS f I L) (kjQi f I L r) := by
  cases b
  · unfold kf32 at h
    refine mv_C_in kjM_32 (lc := [some (.ref (kb false 4)), some (.int v1)]) rfl rfl rfl ?_
    refine mv_G_run 1 (F' := (1, [some (.ref (kb false 4)), some (.int v1)], [.int v1], 0, 0, kjS f I L)) rfl ?_
    by_cases hc1 : v1 < 0
    · rw [if_pos hc1] at h
      refine mv_G_br (tgt := 24) rfl rfl (by decide) (fun _ => ?_) (fun z => absurd hc1 z)
      refine mv_G_run 1 (F' := (25, [some (.ref (kb false 4)), some (.int v1)], [.int (0 : Int32)], 0, 0, kjS f I L)) rfl ?_
      obtain rfl := Option.some.inj h
      exact mv_G_ret rfl rfl rfl (Nat.le_refl _) trivial ⟨rfl, rfl⟩
    · rw [if_neg hc1] at h
      refine mv_G_br (tgt := 24) rfl rfl (by decide) (fun z => absurd z hc1) (fun _ => ?_)
      refine mv_G_run 4 (F' := (12, [some (.ref (kb false 4)), some (.int v1)], [.int (I (kb false 14) 3), .int v1], 0, 0, kjS f I L)) rfl ?_
      by_cases hc2 : (I (kb false 14) 3) ≤ v1
      · rw [if_pos hc2] at h
        refine mv_G_br (tgt := 24) rfl rfl (by decide) (fun _ => ?_) (fun z => absurd hc2 z)
        refine mv_G_run 1 (F' := (25, [some (.ref (kb false 4)), some (.int v1)], [.int (0 : Int32)], 0, 0, kjS f I L)) rfl ?_
        obtain rfl := Option.some.inj h
        exact mv_G_ret rfl rfl rfl (Nat.le_refl _) trivial ⟨rfl, rfl⟩
      · rw [if_neg hc2] at h
        refine mv_G_br (tgt := 24) rfl rfl (by decide) (fun z => absurd z hc2) (fun _ => ?_)
        cases h
  · unfold kf32 at h
    refine mv_C_in kjM_32 (lc := [some (.ref (kb true 4)), some (.int v1)]) rfl rfl rfl ?_
    refine mv_G_run 1 (F' := (1, [some (.ref (kb true 4)), some (.int v1)], [.int v1], 0, 0, kjS f I L)) rfl ?_
    by_cases hc1 : v1 < 0
    · rw [if_pos hc1] at h
      refine mv_G_br (tgt := 24) rfl rfl (by decide) (fun _ => ?_) (fun z => absurd hc1 z)
      refine mv_G_run 1 (F' := (25, [some (.ref (kb true 4)), some (.int v1)], [.int (0 : Int32)], 0, 0, kjS f I L)) rfl ?_
      obtain rfl := Option.some.inj h
      exact mv_G_ret rfl rfl rfl (Nat.le_refl _) trivial ⟨rfl, rfl⟩
    · rw [if_neg hc1] at h
      refine mv_G_br (tgt := 24) rfl rfl (by decide) (fun z => absurd z hc1) (fun _ => ?_)
      refine mv_G_run 4 (F' := (12, [some (.ref (kb true 4)), some (.int v1)], [.int (I (kb true 14) 3), .int v1], 0, 0, kjS f I L)) rfl ?_
      by_cases hc2 : (I (kb true 14) 3) ≤ v1
      · rw [if_pos hc2] at h
        refine mv_G_br (tgt := 24) rfl rfl (by decide) (fun _ => ?_) (fun z => absurd hc2 z)
        refine mv_G_run 1 (F' := (25, [some (.ref (kb true 4)), some (.int v1)], [.int (0 : Int32)], 0, 0, kjS f I L)) rfl ?_
        obtain rfl := Option.some.inj h
        exact mv_G_ret rfl rfl rfl (Nat.le_refl _) trivial ⟨rfl, rfl⟩
      · rw [if_neg hc2] at h
        refine mv_G_br (tgt := 24) rfl rfl (by decide) (fun z => absurd z hc2) (fun _ => ?_)
        cases h
/-! KindJudge$Layout.offset(II)I on ('b', 4) -/
def kf33 (b : Bool) (I : kjI) (L : kjL) (v1 : Int32) (v2 : Int32) : Option (Int32) :=
  if v2 < 0 then (some (-1 : Int32)) else ((kf32 b I L v1).bind fun r2 => if r2 ≤ v2 then (some (-1 : Int32)) else (none))
set_option maxRecDepth 100000 in
set_option maxHeartbeats 4000000 in
theorem kf33_ok (f : Bool) (b : Bool) (I : kjI) (L : kjL) (v1 : Int32) (v2 : Int32) (d : Nat) (r : Int32) (h : kf33 b I L v1 v2 = some r) : mv_C kjP kjSta (d + 2) 33 [.ref (kb b 4), .int v1, .int v2] (kjS f I L) (kjQi f I L r) := by
  cases b
  · unfold kf33 at h
    refine mv_C_in kjM_33 (lc := [some (.ref (kb false 4)), some (.int v1), some (.int v2)]) rfl rfl rfl ?_
    refine mv_G_run 1 (F' := (1, [some (.ref (kb false 4)), some (.int v1), some (.int v2)], [.int v2], 0, 0, kjS f I L)) rfl ?_
    by_cases hc1 : v2 < 0
    · rw [if_pos hc1] at h
      refine mv_G_br (tgt := 24) rfl rfl (by decide) (fun _ => ?_) (fun z => absurd hc1 z)
      refine mv_G_run 1 (F' := (25, [some (.ref (kb false 4)), some (.int v1), some (.int v2)], [.int (-1 : Int32)], 0, 0, kjS f I L)) rfl ?_
      obtain rfl := Option.some.inj h
      exact mv_G_ret rfl rfl rfl (Nat.le_refl _) trivial ⟨rfl, rfl⟩
    · rw [if_neg hc1] at h
      refine mv_G_br (tgt := 24) rfl rfl (by decide) (fun z => absurd z hc1) (fun _ => ?_)
      refine mv_G_run 3 (F' := (7, [some (.ref (kb false 4)), some (.int v1), some (.int v2)], [.int v1, .ref (kb false 4), .int v2], 0, 0, kjS f I L)) rfl ?_
      obtain ⟨r2, hc3, h⟩ := mv_bd h
      refine mv_G_call (r := [.int v2]) (kf32_ok _ _ _ _ _ _ _ hc3) rfl rfl rfl rfl rfl (Nat.le_of_ble_eq_true rfl) (Nat.le_of_ble_eq_true rfl) (Nat.le_of_ble_eq_true rfl) ?_
      rintro _ _ ⟨rfl, rfl⟩
      by_cases hc4 : r2 ≤ v2
      · rw [if_pos hc4] at h
        refine mv_G_br (tgt := 24) rfl rfl (by decide) (fun _ => ?_) (fun z => absurd hc4 z)
        refine mv_G_run 1 (F' := (25, [some (.ref (kb false 4)), some (.int v1), some (.int v2)], [.int (-1 : Int32)], 0, 0, kjS f I L)) rfl ?_
        obtain rfl := Option.some.inj h
        exact mv_G_ret rfl rfl rfl (Nat.le_refl _) trivial ⟨rfl, rfl⟩
      · rw [if_neg hc4] at h
        refine mv_G_br (tgt := 24) rfl rfl (by decide) (fun z => absurd z hc4) (fun _ => ?_)
        cases h
  · unfold kf33 at h
    refine mv_C_in kjM_33 (lc := [some (.ref (kb true 4)), some (.int v1), some (.int v2)]) rfl rfl rfl ?_
    refine mv_G_run 1 (F' := (1, [some (.ref (kb true 4)), some (.int v1), some (.int v2)], [.int v2], 0, 0, kjS f I L)) rfl ?_
    by_cases hc1 : v2 < 0
    · rw [if_pos hc1] at h
      refine mv_G_br (tgt := 24) rfl rfl (by decide) (fun _ => ?_) (fun z => absurd hc1 z)
      refine mv_G_run 1 (F' := (25, [some (.ref (kb true 4)), some (.int v1), some (.int v2)], [.int (-1 : Int32)], 0, 0, kjS f I L)) rfl ?_
      obtain rfl := Option.some.inj h
      exact mv_G_ret rfl rfl rfl (Nat.le_refl _) trivial ⟨rfl, rfl⟩
    · rw [if_neg hc1] at h
      refine mv_G_br (tgt := 24) rfl rfl (by decide) (fun z => absurd z hc1) (fun _ => ?_)
      refine mv_G_run 3 (F' := (7, [some (.ref (kb true 4)), some (.int v1), some (.int v2)], [.int v1, .ref (kb true 4), .int v2], 0, 0, kjS f I L)) rfl ?_
      obtain ⟨r2, hc3, h⟩ := mv_bd h
      refine mv_G_call (r := [.int v2]) (kf32_ok _ _ _ _ _ _ _ hc3) rfl rfl rfl rfl rfl (Nat.le_of_ble_eq_true rfl) (Nat.le_of_ble_eq_true rfl) (Nat.le_of_ble_eq_true rfl) ?_
      rintro _ _ ⟨rfl, rfl⟩
      by_cases hc4 : r2 ≤ v2
      · rw [if_pos hc4] at h
        refine mv_G_br (tgt := 24) rfl rfl (by decide) (fun _ => ?_) (fun z => absurd hc4 z)
        refine mv_G_run 1 (F' := (25, [some (.ref (kb true 4)), some (.int v1), some (.int v2)], [.int (-1 : Int32)], 0, 0, kjS f I L)) rfl ?_
        obtain rfl := Option.some.inj h
        exact mv_G_ret rfl rfl rfl (Nat.le_refl _) trivial ⟨rfl, rfl⟩
      · rw [if_neg hc4] at h
        refine mv_G_br (tgt := 24) rfl rfl (by decide) (fun z => absurd z hc4) (fun _ => ?_)
        cases h
/-! KindJudge$Code.begins(II)Z on ('b', 24) -/
def kf66 (b : Bool) (I : kjI) (L : kjL) (v1 : Int32) (v2 : Int32) : Option (Int32) :=
  (kf33 b I L v1 v2).bind fun r1 => if r1 < 0 then (some (0 : Int32)) else (none)
set_option maxRecDepth 100000 in
set_option maxHeartbeats 4000000 in
theorem kf66_ok (f : Bool) (b : Bool) (I : kjI) (L : kjL) (v1 : Int32) (v2 : Int32) (d : Nat) (r : Int32) (h : kf66 b I L v1 v2 = some r) : mv_C kjP kjSta (d + 3) 66 [.ref (kb b 24), .int v1, .int v2] (kjS f I L) (kjQi f I L r) := by
  cases b
  · unfold kf66 at h
    refine mv_C_in kjM_66 (lc := [some (.ref (kb false 24)), some (.int v1), some (.int v2), none]) rfl rfl rfl ?_
    refine mv_G_run 4 (F' := (6, [some (.ref (kb false 24)), some (.int v1), some (.int v2), none], [.int v2, .int v1, .ref (kb false 4)], 0, 0, kjS f I L)) rfl ?_
    obtain ⟨r1, hc2, h⟩ := mv_bd h
    refine mv_G_call (r := []) (kf33_ok _ _ _ _ _ _ _ _ hc2) rfl rfl rfl rfl rfl (Nat.le_of_ble_eq_true rfl) (Nat.le_of_ble_eq_true rfl) (Nat.le_of_ble_eq_true rfl) ?_
    rintro _ _ ⟨rfl, rfl⟩
    refine mv_G_run 2 (F' := (11, [some (.ref (kb false 24)), some (.int v1), some (.int v2), some (.int r1)], [.int r1], 0, 0, kjS f I L)) rfl ?_
    by_cases hc3 : r1 < 0
    · rw [if_pos hc3] at h
      refine mv_G_br (tgt := 36) rfl rfl (by decide) (fun _ => ?_) (fun z => absurd hc3 z)
      refine mv_G_run 1 (F' := (37, [some (.ref (kb false 24)), some (.int v1), some (.int v2), some (.int r1)], [.int (0 : Int32)], 0, 0, kjS f I L)) rfl ?_
      obtain rfl := Option.some.inj h
      exact mv_G_ret rfl rfl rfl (Nat.le_refl _) (Or.inl rfl) ⟨rfl, rfl⟩
    · rw [if_neg hc3] at h
      refine mv_G_br (tgt := 36) rfl rfl (by decide) (fun z => absurd z hc3) (fun _ => ?_)
      cases h
  · unfold kf66 at h
    refine mv_C_in kjM_66 (lc := [some (.ref (kb true 24)), some (.int v1), some (.int v2), none]) rfl rfl rfl ?_
    refine mv_G_run 4 (F' := (6, [some (.ref (kb true 24)), some (.int v1), some (.int v2), none], [.int v2, .int v1, .ref (kb true 4)], 0, 0, kjS f I L)) rfl ?_
    obtain ⟨r1, hc2, h⟩ := mv_bd h
    refine mv_G_call (r := []) (kf33_ok _ _ _ _ _ _ _ _ hc2) rfl rfl rfl rfl rfl (Nat.le_of_ble_eq_true rfl) (Nat.le_of_ble_eq_true rfl) (Nat.le_of_ble_eq_true rfl) ?_
    rintro _ _ ⟨rfl, rfl⟩
    refine mv_G_run 2 (F' := (11, [some (.ref (kb true 24)), some (.int v1), some (.int v2), some (.int r1)], [.int r1], 0, 0, kjS f I L)) rfl ?_
    by_cases hc3 : r1 < 0
    · rw [if_pos hc3] at h
      refine mv_G_br (tgt := 36) rfl rfl (by decide) (fun _ => ?_) (fun z => absurd hc3 z)
      refine mv_G_run 1 (F' := (37, [some (.ref (kb true 24)), some (.int v1), some (.int v2), some (.int r1)], [.int (0 : Int32)], 0, 0, kjS f I L)) rfl ?_
      obtain rfl := Option.some.inj h
      exact mv_G_ret rfl rfl rfl (Nat.le_refl _) (Or.inl rfl) ⟨rfl, rfl⟩
    · rw [if_neg hc3] at h
      refine mv_G_br (tgt := 36) rfl rfl (by decide) (fun z => absurd z hc3) (fun _ => ?_)
      cases h
/-! KindJudge.kind(III)I on ('c', 0) -/
def kf4 (f : Bool) (I : kjI) (L : kjL) (v1 : Int32) (v2 : Int32) (v3 : Int32) : Option (Int32) :=
  (kf66 f I L v1 v2).bind fun r1 => if ¬ r1 = 0 then (none) else (some (-1 : Int32))
set_option maxRecDepth 100000 in
set_option maxHeartbeats 4000000 in
theorem kf4_ok (f : Bool) (I : kjI) (L : kjL) (v1 : Int32) (v2 : Int32) (v3 : Int32) (d : Nat) (r : Int32) (h : kf4 f I L v1 v2 v3 = some r) : mv_C kjP kjSta (d + 5) 4 [.ref 0, .int v1, .int v2, .int v3] (kjS f I L) (kjQi f I L r) := by
  cases f
  · unfold kf4 at h
    refine mv_C_in kjM_4 (lc := [some (.ref 0), some (.int v1), some (.int v2), some (.int v3), none]) rfl rfl rfl ?_
    refine mv_G_run 5 (F' := (9, [some (.ref 0), some (.int v1), some (.int v2), some (.int v3), none], [.int v2, .int v1, .ref (kb false 24)], 0, 0, kjS false I L)) rfl ?_
    obtain ⟨r1, hc2, h⟩ := mv_bd h
    refine mv_G_call (r := []) (kf66_ok _ _ _ _ _ _ _ _ hc2) rfl rfl rfl rfl rfl (Nat.le_of_ble_eq_true rfl) (Nat.le_of_ble_eq_true rfl) (Nat.le_of_ble_eq_true rfl) ?_
    rintro _ _ ⟨rfl, rfl⟩
    by_cases hc3 : ¬ r1 = 0
    · rw [if_pos hc3] at h
      refine mv_G_br (tgt := 17) rfl rfl (by decide) (fun _ => ?_) (fun z => absurd hc3 z)
      cases h
    · rw [if_neg hc3] at h
      refine mv_G_br (tgt := 17) rfl rfl (by decide) (fun z => absurd z hc3) (fun _ => ?_)
      refine mv_G_run 1 (F' := (16, [some (.ref 0), some (.int v1), some (.int v2), some (.int v3), none], [.int (-1 : Int32)], 0, 0, kjS false I L)) rfl ?_
      obtain rfl := Option.some.inj h
      exact mv_G_ret rfl rfl rfl (Nat.le_refl _) trivial ⟨rfl, rfl⟩
  · unfold kf4 at h
    refine mv_C_in kjM_4 (lc := [some (.ref 0), some (.int v1), some (.int v2), some (.int v3), none]) rfl rfl rfl ?_
    refine mv_G_run 5 (F' := (9, [some (.ref 0), some (.int v1), some (.int v2), some (.int v3), none], [.int v2, .int v1, .ref (kb true 24)], 0, 0, kjS true I L)) rfl ?_
    obtain ⟨r1, hc2, h⟩ := mv_bd h
    refine mv_G_call (r := []) (kf66_ok _ _ _ _ _ _ _ _ hc2) rfl rfl rfl rfl rfl (Nat.le_of_ble_eq_true rfl) (Nat.le_of_ble_eq_true rfl) (Nat.le_of_ble_eq_true rfl) ?_
    rintro _ _ ⟨rfl, rfl⟩
    by_cases hc3 : ¬ r1 = 0
    · rw [if_pos hc3] at h
      refine mv_G_br (tgt := 17) rfl rfl (by decide) (fun _ => ?_) (fun z => absurd hc3 z)
      cases h
    · rw [if_neg hc3] at h
      refine mv_G_br (tgt := 17) rfl rfl (by decide) (fun z => absurd z hc3) (fun _ => ?_)
      refine mv_G_run 1 (F' := (16, [some (.ref 0), some (.int v1), some (.int v2), some (.int v3), none], [.int (-1 : Int32)], 0, 0, kjS true I L)) rfl ?_
      obtain rfl := Option.some.inj h
      exact mv_G_ret rfl rfl rfl (Nat.le_refl _) trivial ⟨rfl, rfl⟩
/-! KindJudge.ways(II)I on ('c', 0) -/
def kf6 (f : Bool) (I : kjI) (L : kjL) (v1 : Int32) (v2 : Int32) : Option (Int32) :=
  (kf66 f I L v1 v2).bind fun r1 => if ¬ r1 = 0 then (none) else (some (-1 : Int32))
set_option maxRecDepth 100000 in
set_option maxHeartbeats 4000000 in
theorem kf6_ok (f : Bool) (I : kjI) (L : kjL) (v1 : Int32) (v2 : Int32) (d : Nat) (r : Int32) (h : kf6 f I L v1 v2 = some r) : mv_C kjP kjSta (d + 6) 6 [.ref 0, .int v1, .int v2] (kjS f I L) (kjQi f I L r) := by
  cases f
  · unfold kf6 at h
    refine mv_C_in kjM_6 (lc := [some (.ref 0), some (.int v1), some (.int v2), none, none, none]) rfl rfl rfl ?_
    refine mv_G_run 5 (F' := (9, [some (.ref 0), some (.int v1), some (.int v2), none, none, none], [.int v2, .int v1, .ref (kb false 24)], 0, 0, kjS false I L)) rfl ?_
    obtain ⟨r1, hc2, h⟩ := mv_bd h
    refine mv_G_call (r := []) (kf66_ok _ _ _ _ _ _ _ _ hc2) rfl rfl rfl rfl rfl (Nat.le_of_ble_eq_true rfl) (Nat.le_of_ble_eq_true rfl) (Nat.le_of_ble_eq_true rfl) ?_
    rintro _ _ ⟨rfl, rfl⟩
    by_cases hc3 : ¬ r1 = 0
    · rw [if_pos hc3] at h
      refine mv_G_br (tgt := 17) rfl rfl (by decide) (fun _ => ?_) (fun z => absurd hc3 z)
      cases h
    · rw [if_neg hc3] at h
      refine mv_G_br (tgt := 17) rfl rfl (by decide) (fun z => absurd z hc3) (fun _ => ?_)
      refine mv_G_run 1 (F' := (16, [some (.ref 0), some (.int v1), some (.int v2), none, none, none], [.int (-1 : Int32)], 0, 0, kjS false I L)) rfl ?_
      obtain rfl := Option.some.inj h
      exact mv_G_ret rfl rfl rfl (Nat.le_refl _) trivial ⟨rfl, rfl⟩
  · unfold kf6 at h
    refine mv_C_in kjM_6 (lc := [some (.ref 0), some (.int v1), some (.int v2), none, none, none]) rfl rfl rfl ?_
    refine mv_G_run 5 (F' := (9, [some (.ref 0), some (.int v1), some (.int v2), none, none, none], [.int v2, .int v1, .ref (kb true 24)], 0, 0, kjS true I L)) rfl ?_
    obtain ⟨r1, hc2, h⟩ := mv_bd h
    refine mv_G_call (r := []) (kf66_ok _ _ _ _ _ _ _ _ hc2) rfl rfl rfl rfl rfl (Nat.le_of_ble_eq_true rfl) (Nat.le_of_ble_eq_true rfl) (Nat.le_of_ble_eq_true rfl) ?_
    rintro _ _ ⟨rfl, rfl⟩
    by_cases hc3 : ¬ r1 = 0
    · rw [if_pos hc3] at h
      refine mv_G_br (tgt := 17) rfl rfl (by decide) (fun _ => ?_) (fun z => absurd hc3 z)
      cases h
    · rw [if_neg hc3] at h
      refine mv_G_br (tgt := 17) rfl rfl (by decide) (fun z => absurd z hc3) (fun _ => ?_)
      refine mv_G_run 1 (F' := (16, [some (.ref 0), some (.int v1), some (.int v2), none, none, none], [.int (-1 : Int32)], 0, 0, kjS true I L)) rfl ?_
      obtain rfl := Option.some.inj h
      exact mv_G_ret rfl rfl rfl (Nat.le_refl _) trivial ⟨rfl, rfl⟩
/-! KindJudge$Signatures.has(I)Z on ('b', 14) -/
def kf49 (b : Bool) (I : kjI) (L : kjL) (v1 : Int32) : Option (Int32) :=
  if v1 < 0 then (some (0 : Int32)) else (if (I (kb b 14) 3) ≤ v1 then (some (0 : Int32)) else (none))
set_option maxRecDepth 100000 in
set_option maxHeartbeats 4000000 in
theorem kf49_ok (f : Bool) (b : Bool) (I : kjI) (L : kjL) (v1 : Int32) (d : Nat) (r : Int32) (h : kf49 b I L v1 = some r) : mv_C kjP kjSta (d + 1) 49 [.ref (kb b 14), .int v1] (kjS f I L) (kjQi f I L r) := by
  cases b
  · unfold kf49 at h
    refine mv_C_in kjM_49 (lc := [some (.ref (kb false 14)), some (.int v1)]) rfl rfl rfl ?_
    refine mv_G_run 1 (F' := (1, [some (.ref (kb false 14)), some (.int v1)], [.int v1], 0, 0, kjS f I L)) rfl ?_
    by_cases hc1 : v1 < 0
    · rw [if_pos hc1] at h
      refine mv_G_br (tgt := 16) rfl rfl (by decide) (fun _ => ?_) (fun z => absurd hc1 z)
      refine mv_G_run 1 (F' := (17, [some (.ref (kb false 14)), some (.int v1)], [.int (0 : Int32)], 0, 0, kjS f I L)) rfl ?_
      obtain rfl := Option.some.inj h
      exact mv_G_ret rfl rfl rfl (Nat.le_refl _) (Or.inl rfl) ⟨rfl, rfl⟩
    · rw [if_neg hc1] at h
      refine mv_G_br (tgt := 16) rfl rfl (by decide) (fun z => absurd z hc1) (fun _ => ?_)
      refine mv_G_run 3 (F' := (9, [some (.ref (kb false 14)), some (.int v1)], [.int (I (kb false 14) 3), .int v1], 0, 0, kjS f I L)) rfl ?_
      by_cases hc2 : (I (kb false 14) 3) ≤ v1
      · rw [if_pos hc2] at h
        refine mv_G_br (tgt := 16) rfl rfl (by decide) (fun _ => ?_) (fun z => absurd hc2 z)
        refine mv_G_run 1 (F' := (17, [some (.ref (kb false 14)), some (.int v1)], [.int (0 : Int32)], 0, 0, kjS f I L)) rfl ?_
        obtain rfl := Option.some.inj h
        exact mv_G_ret rfl rfl rfl (Nat.le_refl _) (Or.inl rfl) ⟨rfl, rfl⟩
      · rw [if_neg hc2] at h
        refine mv_G_br (tgt := 16) rfl rfl (by decide) (fun z => absurd z hc2) (fun _ => ?_)
        cases h
  · unfold kf49 at h
    refine mv_C_in kjM_49 (lc := [some (.ref (kb true 14)), some (.int v1)]) rfl rfl rfl ?_
    refine mv_G_run 1 (F' := (1, [some (.ref (kb true 14)), some (.int v1)], [.int v1], 0, 0, kjS f I L)) rfl ?_
    by_cases hc1 : v1 < 0
    · rw [if_pos hc1] at h
      refine mv_G_br (tgt := 16) rfl rfl (by decide) (fun _ => ?_) (fun z => absurd hc1 z)
      refine mv_G_run 1 (F' := (17, [some (.ref (kb true 14)), some (.int v1)], [.int (0 : Int32)], 0, 0, kjS f I L)) rfl ?_
      obtain rfl := Option.some.inj h
      exact mv_G_ret rfl rfl rfl (Nat.le_refl _) (Or.inl rfl) ⟨rfl, rfl⟩
    · rw [if_neg hc1] at h
      refine mv_G_br (tgt := 16) rfl rfl (by decide) (fun z => absurd z hc1) (fun _ => ?_)
      refine mv_G_run 3 (F' := (9, [some (.ref (kb true 14)), some (.int v1)], [.int (I (kb true 14) 3), .int v1], 0, 0, kjS f I L)) rfl ?_
      by_cases hc2 : (I (kb true 14) 3) ≤ v1
      · rw [if_pos hc2] at h
        refine mv_G_br (tgt := 16) rfl rfl (by decide) (fun _ => ?_) (fun z => absurd hc2 z)
        refine mv_G_run 1 (F' := (17, [some (.ref (kb true 14)), some (.int v1)], [.int (0 : Int32)], 0, 0, kjS f I L)) rfl ?_
        obtain rfl := Option.some.inj h
        exact mv_G_ret rfl rfl rfl (Nat.le_refl _) (Or.inl rfl) ⟨rfl, rfl⟩
      · rw [if_neg hc2] at h
        refine mv_G_br (tgt := 16) rfl rfl (by decide) (fun z => absurd z hc2) (fun _ => ?_)
        cases h
/-! KindJudge.count(II)I on ('c', 0) -/
def kf7 (f : Bool) (I : kjI) (L : kjL) (v1 : Int32) (v2 : Int32) : Option (Int32) :=
  (kf49 f I L v1).bind fun r1 => if r1 = 0 then (some (-1 : Int32)) else (none)
set_option maxRecDepth 100000 in
set_option maxHeartbeats 4000000 in
theorem kf7_ok (f : Bool) (I : kjI) (L : kjL) (v1 : Int32) (v2 : Int32) (d : Nat) (r : Int32) (h : kf7 f I L v1 v2 = some r) : mv_C kjP kjSta (d + 7) 7 [.ref 0, .int v1, .int v2] (kjS f I L) (kjQi f I L r) := by
  cases f
  · unfold kf7 at h
    refine mv_C_in kjM_7 (lc := [some (.ref 0), some (.int v1), some (.int v2)]) rfl rfl rfl ?_
    refine mv_G_run 5 (F' := (11, [some (.ref 0), some (.int v1), some (.int v2)], [.int v1, .ref (kb false 14)], 0, 0, kjS false I L)) rfl ?_
    obtain ⟨r1, hc2, h⟩ := mv_bd h
    refine mv_G_call (r := []) (kf49_ok _ _ _ _ _ _ _ hc2) rfl rfl rfl rfl rfl (Nat.le_of_ble_eq_true rfl) (Nat.le_of_ble_eq_true rfl) (Nat.le_of_ble_eq_true rfl) ?_
    rintro _ _ ⟨rfl, rfl⟩
    by_cases hc3 : r1 = 0
    · rw [if_pos hc3] at h
      refine mv_G_br (tgt := 26) rfl rfl (by decide) (fun _ => ?_) (fun z => absurd hc3 z)
      refine mv_G_run 1 (F' := (27, [some (.ref 0), some (.int v1), some (.int v2)], [.int (-1 : Int32)], 0, 0, kjS false I L)) rfl ?_
      obtain rfl := Option.some.inj h
      exact mv_G_ret rfl rfl rfl (Nat.le_refl _) trivial ⟨rfl, rfl⟩
    · rw [if_neg hc3] at h
      refine mv_G_br (tgt := 26) rfl rfl (by decide) (fun z => absurd z hc3) (fun _ => ?_)
      cases h
  · unfold kf7 at h
    refine mv_C_in kjM_7 (lc := [some (.ref 0), some (.int v1), some (.int v2)]) rfl rfl rfl ?_
    refine mv_G_run 5 (F' := (11, [some (.ref 0), some (.int v1), some (.int v2)], [.int v1, .ref (kb true 14)], 0, 0, kjS true I L)) rfl ?_
    obtain ⟨r1, hc2, h⟩ := mv_bd h
    refine mv_G_call (r := []) (kf49_ok _ _ _ _ _ _ _ hc2) rfl rfl rfl rfl rfl (Nat.le_of_ble_eq_true rfl) (Nat.le_of_ble_eq_true rfl) (Nat.le_of_ble_eq_true rfl) ?_
    rintro _ _ ⟨rfl, rfl⟩
    by_cases hc3 : r1 = 0
    · rw [if_pos hc3] at h
      refine mv_G_br (tgt := 26) rfl rfl (by decide) (fun _ => ?_) (fun z => absurd hc3 z)
      refine mv_G_run 1 (F' := (27, [some (.ref 0), some (.int v1), some (.int v2)], [.int (-1 : Int32)], 0, 0, kjS true I L)) rfl ?_
      obtain rfl := Option.some.inj h
      exact mv_G_ret rfl rfl rfl (Nat.le_refl _) trivial ⟨rfl, rfl⟩
    · rw [if_neg hc3] at h
      refine mv_G_br (tgt := 26) rfl rfl (by decide) (fun z => absurd z hc3) (fun _ => ?_)
      cases h
/-! KindJudge.fits(II)I on ('c', 0) -/
def kf8 (f : Bool) (I : kjI) (L : kjL) (v1 : Int32) (v2 : Int32) : Option (Int32) :=
  if (I 0 2) = 0 then (some (-1 : Int32)) else (none)
set_option maxRecDepth 100000 in
set_option maxHeartbeats 4000000 in
theorem kf8_ok (f : Bool) (I : kjI) (L : kjL) (v1 : Int32) (v2 : Int32) (d : Nat) (r : Int32) (h : kf8 f I L v1 v2 = some r) : mv_C kjP kjSta (d + 3) 8 [.ref 0, .int v1, .int v2] (kjS f I L) (kjQi f I L r) := by
  cases f
  · unfold kf8 at h
    refine mv_C_in kjM_8 (lc := [some (.ref 0), some (.int v1), some (.int v2), none]) rfl rfl rfl ?_
    refine mv_G_run 7 (F' := (15, [some (.ref 0), some (.int v1), some (.int v2), some (.ref (kb false 5))], [.int (I 0 2)], 0, 0, kjS false I L)) rfl ?_
    by_cases hc1 : (I 0 2) = 0
    · rw [if_pos hc1] at h
      refine mv_G_br (tgt := 38) rfl rfl (by decide) (fun _ => ?_) (fun z => absurd hc1 z)
      refine mv_G_run 1 (F' := (39, [some (.ref 0), some (.int v1), some (.int v2), some (.ref (kb false 5))], [.int (-1 : Int32)], 0, 0, kjS false I L)) rfl ?_
      obtain rfl := Option.some.inj h
      exact mv_G_ret rfl rfl rfl (Nat.le_refl _) trivial ⟨rfl, rfl⟩
    · rw [if_neg hc1] at h
      refine mv_G_br (tgt := 38) rfl rfl (by decide) (fun z => absurd z hc1) (fun _ => ?_)
      cases h
  · unfold kf8 at h
    refine mv_C_in kjM_8 (lc := [some (.ref 0), some (.int v1), some (.int v2), none]) rfl rfl rfl ?_
    refine mv_G_run 7 (F' := (15, [some (.ref 0), some (.int v1), some (.int v2), some (.ref (kb true 5))], [.int (I 0 2)], 0, 0, kjS true I L)) rfl ?_
    by_cases hc1 : (I 0 2) = 0
    · rw [if_pos hc1] at h
      refine mv_G_br (tgt := 38) rfl rfl (by decide) (fun _ => ?_) (fun z => absurd hc1 z)
      refine mv_G_run 1 (F' := (39, [some (.ref 0), some (.int v1), some (.int v2), some (.ref (kb true 5))], [.int (-1 : Int32)], 0, 0, kjS true I L)) rfl ?_
      obtain rfl := Option.some.inj h
      exact mv_G_ret rfl rfl rfl (Nat.le_refl _) trivial ⟨rfl, rfl⟩
    · rw [if_neg hc1] at h
      refine mv_G_br (tgt := 38) rfl rfl (by decide) (fun z => absurd z hc1) (fun _ => ?_)
      cases h
/-! KindJudge.meet(II)I on ('c', 0) -/
def kf9 (f : Bool) (I : kjI) (L : kjL) (v1 : Int32) (v2 : Int32) : Option (Int32) :=
  if (I 0 2) = 0 then (some (-1 : Int32)) else (none)
set_option maxRecDepth 100000 in
set_option maxHeartbeats 4000000 in
theorem kf9_ok (f : Bool) (I : kjI) (L : kjL) (v1 : Int32) (v2 : Int32) (d : Nat) (r : Int32) (h : kf9 f I L v1 v2 = some r) : mv_C kjP kjSta (d + 3) 9 [.ref 0, .int v1, .int v2] (kjS f I L) (kjQi f I L r) := by
  cases f
  · unfold kf9 at h
    refine mv_C_in kjM_9 (lc := [some (.ref 0), some (.int v1), some (.int v2), none]) rfl rfl rfl ?_
    refine mv_G_run 7 (F' := (15, [some (.ref 0), some (.int v1), some (.int v2), some (.ref (kb false 5))], [.int (I 0 2)], 0, 0, kjS false I L)) rfl ?_
    by_cases hc1 : (I 0 2) = 0
    · rw [if_pos hc1] at h
      refine mv_G_br (tgt := 34) rfl rfl (by decide) (fun _ => ?_) (fun z => absurd hc1 z)
      refine mv_G_run 1 (F' := (35, [some (.ref 0), some (.int v1), some (.int v2), some (.ref (kb false 5))], [.int (-1 : Int32)], 0, 0, kjS false I L)) rfl ?_
      obtain rfl := Option.some.inj h
      exact mv_G_ret rfl rfl rfl (Nat.le_refl _) trivial ⟨rfl, rfl⟩
    · rw [if_neg hc1] at h
      refine mv_G_br (tgt := 34) rfl rfl (by decide) (fun z => absurd z hc1) (fun _ => ?_)
      cases h
  · unfold kf9 at h
    refine mv_C_in kjM_9 (lc := [some (.ref 0), some (.int v1), some (.int v2), none]) rfl rfl rfl ?_
    refine mv_G_run 7 (F' := (15, [some (.ref 0), some (.int v1), some (.int v2), some (.ref (kb true 5))], [.int (I 0 2)], 0, 0, kjS true I L)) rfl ?_
    by_cases hc1 : (I 0 2) = 0
    · rw [if_pos hc1] at h
      refine mv_G_br (tgt := 34) rfl rfl (by decide) (fun _ => ?_) (fun z => absurd hc1 z)
      refine mv_G_run 1 (F' := (35, [some (.ref 0), some (.int v1), some (.int v2), some (.ref (kb true 5))], [.int (-1 : Int32)], 0, 0, kjS true I L)) rfl ?_
      obtain rfl := Option.some.inj h
      exact mv_G_ret rfl rfl rfl (Nat.le_refl _) trivial ⟨rfl, rfl⟩
    · rw [if_neg hc1] at h
      refine mv_G_br (tgt := 34) rfl rfl (by decide) (fun z => absurd z hc1) (fun _ => ?_)
      cases h
/-! KindJudge$Classes.has(I)Z on ('b', 5) -/
def kf37 (b : Bool) (I : kjI) (L : kjL) (v1 : Int32) : Option (Int32) :=
  if v1 < 0 then (some (0 : Int32)) else (if (I (kb b 5) 4) ≤ v1 then (some (0 : Int32)) else (none))
set_option maxRecDepth 100000 in
set_option maxHeartbeats 4000000 in
theorem kf37_ok (f : Bool) (b : Bool) (I : kjI) (L : kjL) (v1 : Int32) (d : Nat) (r : Int32) (h : kf37 b I L v1 = some r) : mv_C kjP kjSta (d + 1) 37 [.ref (kb b 5), .int v1] (kjS f I L) (kjQi f I L r) := by
  cases b
  · unfold kf37 at h
    refine mv_C_in kjM_37 (lc := [some (.ref (kb false 5)), some (.int v1)]) rfl rfl rfl ?_
    refine mv_G_run 1 (F' := (1, [some (.ref (kb false 5)), some (.int v1)], [.int v1], 0, 0, kjS f I L)) rfl ?_
    by_cases hc1 : v1 < 0
    · rw [if_pos hc1] at h
      refine mv_G_br (tgt := 16) rfl rfl (by decide) (fun _ => ?_) (fun z => absurd hc1 z)
      refine mv_G_run 1 (F' := (17, [some (.ref (kb false 5)), some (.int v1)], [.int (0 : Int32)], 0, 0, kjS f I L)) rfl ?_
      obtain rfl := Option.some.inj h
      exact mv_G_ret rfl rfl rfl (Nat.le_refl _) (Or.inl rfl) ⟨rfl, rfl⟩
    · rw [if_neg hc1] at h
      refine mv_G_br (tgt := 16) rfl rfl (by decide) (fun z => absurd z hc1) (fun _ => ?_)
      refine mv_G_run 3 (F' := (9, [some (.ref (kb false 5)), some (.int v1)], [.int (I (kb false 5) 4), .int v1], 0, 0, kjS f I L)) rfl ?_
      by_cases hc2 : (I (kb false 5) 4) ≤ v1
      · rw [if_pos hc2] at h
        refine mv_G_br (tgt := 16) rfl rfl (by decide) (fun _ => ?_) (fun z => absurd hc2 z)
        refine mv_G_run 1 (F' := (17, [some (.ref (kb false 5)), some (.int v1)], [.int (0 : Int32)], 0, 0, kjS f I L)) rfl ?_
        obtain rfl := Option.some.inj h
        exact mv_G_ret rfl rfl rfl (Nat.le_refl _) (Or.inl rfl) ⟨rfl, rfl⟩
      · rw [if_neg hc2] at h
        refine mv_G_br (tgt := 16) rfl rfl (by decide) (fun z => absurd z hc2) (fun _ => ?_)
        cases h
  · unfold kf37 at h
    refine mv_C_in kjM_37 (lc := [some (.ref (kb true 5)), some (.int v1)]) rfl rfl rfl ?_
    refine mv_G_run 1 (F' := (1, [some (.ref (kb true 5)), some (.int v1)], [.int v1], 0, 0, kjS f I L)) rfl ?_
    by_cases hc1 : v1 < 0
    · rw [if_pos hc1] at h
      refine mv_G_br (tgt := 16) rfl rfl (by decide) (fun _ => ?_) (fun z => absurd hc1 z)
      refine mv_G_run 1 (F' := (17, [some (.ref (kb true 5)), some (.int v1)], [.int (0 : Int32)], 0, 0, kjS f I L)) rfl ?_
      obtain rfl := Option.some.inj h
      exact mv_G_ret rfl rfl rfl (Nat.le_refl _) (Or.inl rfl) ⟨rfl, rfl⟩
    · rw [if_neg hc1] at h
      refine mv_G_br (tgt := 16) rfl rfl (by decide) (fun z => absurd z hc1) (fun _ => ?_)
      refine mv_G_run 3 (F' := (9, [some (.ref (kb true 5)), some (.int v1)], [.int (I (kb true 5) 4), .int v1], 0, 0, kjS f I L)) rfl ?_
      by_cases hc2 : (I (kb true 5) 4) ≤ v1
      · rw [if_pos hc2] at h
        refine mv_G_br (tgt := 16) rfl rfl (by decide) (fun _ => ?_) (fun z => absurd hc2 z)
        refine mv_G_run 1 (F' := (17, [some (.ref (kb true 5)), some (.int v1)], [.int (0 : Int32)], 0, 0, kjS f I L)) rfl ?_
        obtain rfl := Option.some.inj h
        exact mv_G_ret rfl rfl rfl (Nat.le_refl _) (Or.inl rfl) ⟨rfl, rfl⟩
      · rw [if_neg hc2] at h
        refine mv_G_br (tgt := 16) rfl rfl (by decide) (fun z => absurd z hc2) (fun _ => ?_)
        cases h
/-! KindJudge$Layout.methodFor(II)I on ('b', 4) -/
def kf29 (b : Bool) (I : kjI) (L : kjL) (v1 : Int32) (v2 : Int32) : Option (Int32) :=
  (kf37 b I L v1).bind fun r1 => if r1 = 0 then (some (-1 : Int32)) else (none)
set_option maxRecDepth 100000 in
set_option maxHeartbeats 4000000 in
theorem kf29_ok (f : Bool) (b : Bool) (I : kjI) (L : kjL) (v1 : Int32) (v2 : Int32) (d : Nat) (r : Int32) (h : kf29 b I L v1 v2 = some r) : mv_C kjP kjSta (d + 2) 29 [.ref (kb b 4), .int v1, .int v2] (kjS f I L) (kjQi f I L r) := by
  cases b
  · unfold kf29 at h
    refine mv_C_in kjM_29 (lc := [some (.ref (kb false 4)), some (.int v1), some (.int v2)]) rfl rfl rfl ?_
    refine mv_G_run 3 (F' := (5, [some (.ref (kb false 4)), some (.int v1), some (.int v2)], [.int v1, .ref (kb false 5)], 0, 0, kjS f I L)) rfl ?_
    obtain ⟨r1, hc2, h⟩ := mv_bd h
    refine mv_G_call (r := []) (kf37_ok _ _ _ _ _ _ _ hc2) rfl rfl rfl rfl rfl (Nat.le_of_ble_eq_true rfl) (Nat.le_of_ble_eq_true rfl) (Nat.le_of_ble_eq_true rfl) ?_
    rintro _ _ ⟨rfl, rfl⟩
    by_cases hc3 : r1 = 0
    · rw [if_pos hc3] at h
      refine mv_G_br (tgt := 36) rfl rfl (by decide) (fun _ => ?_) (fun z => absurd hc3 z)
      refine mv_G_run 1 (F' := (37, [some (.ref (kb false 4)), some (.int v1), some (.int v2)], [.int (-1 : Int32)], 0, 0, kjS f I L)) rfl ?_
      obtain rfl := Option.some.inj h
      exact mv_G_ret rfl rfl rfl (Nat.le_refl _) trivial ⟨rfl, rfl⟩
    · rw [if_neg hc3] at h
      refine mv_G_br (tgt := 36) rfl rfl (by decide) (fun z => absurd z hc3) (fun _ => ?_)
      cases h
  · unfold kf29 at h
    refine mv_C_in kjM_29 (lc := [some (.ref (kb true 4)), some (.int v1), some (.int v2)]) rfl rfl rfl ?_
    refine mv_G_run 3 (F' := (5, [some (.ref (kb true 4)), some (.int v1), some (.int v2)], [.int v1, .ref (kb true 5)], 0, 0, kjS f I L)) rfl ?_
    obtain ⟨r1, hc2, h⟩ := mv_bd h
    refine mv_G_call (r := []) (kf37_ok _ _ _ _ _ _ _ hc2) rfl rfl rfl rfl rfl (Nat.le_of_ble_eq_true rfl) (Nat.le_of_ble_eq_true rfl) (Nat.le_of_ble_eq_true rfl) ?_
    rintro _ _ ⟨rfl, rfl⟩
    by_cases hc3 : r1 = 0
    · rw [if_pos hc3] at h
      refine mv_G_br (tgt := 36) rfl rfl (by decide) (fun _ => ?_) (fun z => absurd hc3 z)
      refine mv_G_run 1 (F' := (37, [some (.ref (kb true 4)), some (.int v1), some (.int v2)], [.int (-1 : Int32)], 0, 0, kjS f I L)) rfl ?_
      obtain rfl := Option.some.inj h
      exact mv_G_ret rfl rfl rfl (Nat.le_refl _) trivial ⟨rfl, rfl⟩
    · rw [if_neg hc3] at h
      refine mv_G_br (tgt := 36) rfl rfl (by decide) (fun z => absurd z hc3) (fun _ => ?_)
      cases h
/-! KindJudge.method(II)I on ('c', 0) -/
def kf10 (f : Bool) (I : kjI) (L : kjL) (v1 : Int32) (v2 : Int32) : Option (Int32) :=
  (kf29 f I L v1 v2).bind fun r1 => some r1
set_option maxRecDepth 100000 in
set_option maxHeartbeats 4000000 in
theorem kf10_ok (f : Bool) (I : kjI) (L : kjL) (v1 : Int32) (v2 : Int32) (d : Nat) (r : Int32) (h : kf10 f I L v1 v2 = some r) : mv_C kjP kjSta (d + 3) 10 [.ref 0, .int v1, .int v2] (kjS f I L) (kjQi f I L r) := by
  cases f
  · unfold kf10 at h
    refine mv_C_in kjM_10 (lc := [some (.ref 0), some (.int v1), some (.int v2)]) rfl rfl rfl ?_
    refine mv_G_run 5 (F' := (9, [some (.ref 0), some (.int v1), some (.int v2)], [.int v2, .int v1, .ref (kb false 4)], 0, 0, kjS false I L)) rfl ?_
    obtain ⟨r1, hc2, h⟩ := mv_bd h
    refine mv_G_call (r := []) (kf29_ok _ _ _ _ _ _ _ _ hc2) rfl rfl rfl rfl rfl (Nat.le_of_ble_eq_true rfl) (Nat.le_of_ble_eq_true rfl) (Nat.le_of_ble_eq_true rfl) ?_
    rintro _ _ ⟨rfl, rfl⟩
    obtain rfl := Option.some.inj h
    exact mv_G_ret rfl rfl rfl (Nat.le_refl _) trivial ⟨rfl, rfl⟩
  · unfold kf10 at h
    refine mv_C_in kjM_10 (lc := [some (.ref 0), some (.int v1), some (.int v2)]) rfl rfl rfl ?_
    refine mv_G_run 5 (F' := (9, [some (.ref 0), some (.int v1), some (.int v2)], [.int v2, .int v1, .ref (kb true 4)], 0, 0, kjS true I L)) rfl ?_
    obtain ⟨r1, hc2, h⟩ := mv_bd h
    refine mv_G_call (r := []) (kf29_ok _ _ _ _ _ _ _ _ hc2) rfl rfl rfl rfl rfl (Nat.le_of_ble_eq_true rfl) (Nat.le_of_ble_eq_true rfl) (Nat.le_of_ble_eq_true rfl) ?_
    rintro _ _ ⟨rfl, rfl⟩
    obtain rfl := Option.some.inj h
    exact mv_G_ret rfl rfl rfl (Nat.le_refl _) trivial ⟨rfl, rfl⟩
/-! KindJudge.type(II)I on ('c', 0) -/
def kf11 (f : Bool) (I : kjI) (L : kjL) (v1 : Int32) (v2 : Int32) : Option (Int32) :=
  (kf37 f I L v1).bind fun r1 => if r1 = 0 then (some (-1 : Int32)) else (none)
set_option maxRecDepth 100000 in
set_option maxHeartbeats 4000000 in
theorem kf11_ok (f : Bool) (I : kjI) (L : kjL) (v1 : Int32) (v2 : Int32) (d : Nat) (r : Int32) (h : kf11 f I L v1 v2 = some r) : mv_C kjP kjSta (d + 3) 11 [.ref 0, .int v1, .int v2] (kjS f I L) (kjQi f I L r) := by
  cases f
  · unfold kf11 at h
    refine mv_C_in kjM_11 (lc := [some (.ref 0), some (.int v1), some (.int v2), none]) rfl rfl rfl ?_
    refine mv_G_run 7 (F' := (13, [some (.ref 0), some (.int v1), some (.int v2), some (.ref (kb false 5))], [.int v1, .ref (kb false 5)], 0, 0, kjS false I L)) rfl ?_
    obtain ⟨r1, hc2, h⟩ := mv_bd h
    refine mv_G_call (r := []) (kf37_ok _ _ _ _ _ _ _ hc2) rfl rfl rfl rfl rfl (Nat.le_of_ble_eq_true rfl) (Nat.le_of_ble_eq_true rfl) (Nat.le_of_ble_eq_true rfl) ?_
    rintro _ _ ⟨rfl, rfl⟩
    by_cases hc3 : r1 = 0
    · rw [if_pos hc3] at h
      refine mv_G_br (tgt := 23) rfl rfl (by decide) (fun _ => ?_) (fun z => absurd hc3 z)
      refine mv_G_run 1 (F' := (24, [some (.ref 0), some (.int v1), some (.int v2), some (.ref (kb false 5))], [.int (-1 : Int32)], 0, 0, kjS false I L)) rfl ?_
      obtain rfl := Option.some.inj h
      exact mv_G_ret rfl rfl rfl (Nat.le_refl _) trivial ⟨rfl, rfl⟩
    · rw [if_neg hc3] at h
      refine mv_G_br (tgt := 23) rfl rfl (by decide) (fun z => absurd z hc3) (fun _ => ?_)
      cases h
  · unfold kf11 at h
    refine mv_C_in kjM_11 (lc := [some (.ref 0), some (.int v1), some (.int v2), none]) rfl rfl rfl ?_
    refine mv_G_run 7 (F' := (13, [some (.ref 0), some (.int v1), some (.int v2), some (.ref (kb true 5))], [.int v1, .ref (kb true 5)], 0, 0, kjS true I L)) rfl ?_
    obtain ⟨r1, hc2, h⟩ := mv_bd h
    refine mv_G_call (r := []) (kf37_ok _ _ _ _ _ _ _ hc2) rfl rfl rfl rfl rfl (Nat.le_of_ble_eq_true rfl) (Nat.le_of_ble_eq_true rfl) (Nat.le_of_ble_eq_true rfl) ?_
    rintro _ _ ⟨rfl, rfl⟩
    by_cases hc3 : r1 = 0
    · rw [if_pos hc3] at h
      refine mv_G_br (tgt := 23) rfl rfl (by decide) (fun _ => ?_) (fun z => absurd hc3 z)
      refine mv_G_run 1 (F' := (24, [some (.ref 0), some (.int v1), some (.int v2), some (.ref (kb true 5))], [.int (-1 : Int32)], 0, 0, kjS true I L)) rfl ?_
      obtain rfl := Option.some.inj h
      exact mv_G_ret rfl rfl rfl (Nat.le_refl _) trivial ⟨rfl, rfl⟩
    · rw [if_neg hc3] at h
      refine mv_G_br (tgt := 23) rfl rfl (by decide) (fun z => absurd z hc3) (fun _ => ?_)
      cases h
/-! KindJudge.total(I)I on ('c', 0) -/
def kf12 (f : Bool) (I : kjI) (L : kjL) (v1 : Int32) : Option (Int32) :=
  if (v1).toInt = 0 then (some (I (kb f 14) 3)) else (if (v1).toInt = 1 then (some (I (kb f 5) 4)) else (if (v1).toInt = 2 then (some (I (kb f 10) 3)) else (if (v1).toInt = 3 then (some (I (kb (!f) 2) 1)) else (if (v1).toInt = 4 then (some (I 0 2)) else (some (-1 : Int32))))))
set_option maxRecDepth 100000 in
set_option maxHeartbeats 4000000 in
theorem kf12_ok (f : Bool) (I : kjI) (L : kjL) (v1 : Int32) (d : Nat) (r : Int32) (h : kf12 f I L v1 = some r) : mv_C kjP kjSta (d + 1) 12 [.ref 0, .int v1] (kjS f I L) (kjQi f I L r) := by
  cases f
  · unfold kf12 at h
    refine mv_C_in kjM_12 (lc := [some (.ref 0), some (.int v1)]) rfl rfl rfl ?_
    refine mv_G_run 1 (F' := (1, [some (.ref 0), some (.int v1)], [.int v1], 0, 0, kjS false I L)) rfl ?_
    by_cases hw1 : (v1).toInt = 0
    · rw [if_pos hw1] at h
      refine mv_G_sw (tgt := 36) (off := 35) rfl (by simp only [mv_sw, hw1]; rfl) (by decide) ?_
      refine mv_G_run 5 (F' := (49, [some (.ref 0), some (.int v1)], [.int (I (kb false 14) 3)], 0, 0, kjS false I L)) rfl ?_
      obtain rfl := Option.some.inj h
      exact mv_G_ret rfl rfl rfl (Nat.le_refl _) trivial ⟨rfl, rfl⟩
    rw [if_neg hw1] at h
    by_cases hw2 : (v1).toInt = 1
    · rw [if_pos hw2] at h
      refine mv_G_sw (tgt := 50) (off := 49) rfl (by simp only [mv_sw, hw2]; rfl) (by decide) ?_
      refine mv_G_run 5 (F' := (63, [some (.ref 0), some (.int v1)], [.int (I (kb false 5) 4)], 0, 0, kjS false I L)) rfl ?_
      obtain rfl := Option.some.inj h
      exact mv_G_ret rfl rfl rfl (Nat.le_refl _) trivial ⟨rfl, rfl⟩
    rw [if_neg hw2] at h
    by_cases hw3 : (v1).toInt = 2
    · rw [if_pos hw3] at h
      refine mv_G_sw (tgt := 64) (off := 63) rfl (by simp only [mv_sw, hw3]; rfl) (by decide) ?_
      refine mv_G_run 5 (F' := (77, [some (.ref 0), some (.int v1)], [.int (I (kb false 10) 3)], 0, 0, kjS false I L)) rfl ?_
      obtain rfl := Option.some.inj h
      exact mv_G_ret rfl rfl rfl (Nat.le_refl _) trivial ⟨rfl, rfl⟩
    rw [if_neg hw3] at h
    by_cases hw4 : (v1).toInt = 3
    · rw [if_pos hw4] at h
      refine mv_G_sw (tgt := 78) (off := 77) rfl (by simp only [mv_sw, hw4]; rfl) (by decide) ?_
      refine mv_G_run 4 (F' := (88, [some (.ref 0), some (.int v1)], [.int (I (kb (!false) 2) 1)], 0, 0, kjS false I L)) rfl ?_
      obtain rfl := Option.some.inj h
      exact mv_G_ret rfl rfl rfl (Nat.le_refl _) trivial ⟨rfl, rfl⟩
    rw [if_neg hw4] at h
    by_cases hw5 : (v1).toInt = 4
    · rw [if_pos hw5] at h
      refine mv_G_sw (tgt := 89) (off := 88) rfl (by simp only [mv_sw, hw5]; rfl) (by decide) ?_
      refine mv_G_run 2 (F' := (93, [some (.ref 0), some (.int v1)], [.int (I 0 2)], 0, 0, kjS false I L)) rfl ?_
      obtain rfl := Option.some.inj h
      exact mv_G_ret rfl rfl rfl (Nat.le_refl _) trivial ⟨rfl, rfl⟩
    rw [if_neg hw5] at h
    refine mv_G_sw (tgt := 94) (off := 93) rfl (by
    have hz6 : ((v1).toInt < 0 ∨ 4 < (v1).toInt) := by omega
    rcases hz6 with hz6
    · exact if_pos hz6) (by decide) ?_
    refine mv_G_run 1 (F' := (95, [some (.ref 0), some (.int v1)], [.int (-1 : Int32)], 0, 0, kjS false I L)) rfl ?_
    obtain rfl := Option.some.inj h
    exact mv_G_ret rfl rfl rfl (Nat.le_refl _) trivial ⟨rfl, rfl⟩
  · unfold kf12 at h
    refine mv_C_in kjM_12 (lc := [some (.ref 0), some (.int v1)]) rfl rfl rfl ?_
    refine mv_G_run 1 (F' := (1, [some (.ref 0), some (.int v1)], [.int v1], 0, 0, kjS true I L)) rfl ?_
    by_cases hw1 : (v1).toInt = 0
    · rw [if_pos hw1] at h
      refine mv_G_sw (tgt := 36) (off := 35) rfl (by simp only [mv_sw, hw1]; rfl) (by decide) ?_
      refine mv_G_run 5 (F' := (49, [some (.ref 0), some (.int v1)], [.int (I (kb true 14) 3)], 0, 0, kjS true I L)) rfl ?_
      obtain rfl := Option.some.inj h
      exact mv_G_ret rfl rfl rfl (Nat.le_refl _) trivial ⟨rfl, rfl⟩
    rw [if_neg hw1] at h
    by_cases hw2 : (v1).toInt = 1
    · rw [if_pos hw2] at h
      refine mv_G_sw (tgt := 50) (off := 49) rfl (by simp only [mv_sw, hw2]; rfl) (by decide) ?_
      refine mv_G_run 5 (F' := (63, [some (.ref 0), some (.int v1)], [.int (I (kb true 5) 4)], 0, 0, kjS true I L)) rfl ?_
      obtain rfl := Option.some.inj h
      exact mv_G_ret rfl rfl rfl (Nat.le_refl _) trivial ⟨rfl, rfl⟩
    rw [if_neg hw2] at h
    by_cases hw3 : (v1).toInt = 2
    · rw [if_pos hw3] at h
      refine mv_G_sw (tgt := 64) (off := 63) rfl (by simp only [mv_sw, hw3]; rfl) (by decide) ?_
      refine mv_G_run 5 (F' := (77, [some (.ref 0), some (.int v1)], [.int (I (kb true 10) 3)], 0, 0, kjS true I L)) rfl ?_
      obtain rfl := Option.some.inj h
      exact mv_G_ret rfl rfl rfl (Nat.le_refl _) trivial ⟨rfl, rfl⟩
    rw [if_neg hw3] at h
    by_cases hw4 : (v1).toInt = 3
    · rw [if_pos hw4] at h
      refine mv_G_sw (tgt := 78) (off := 77) rfl (by simp only [mv_sw, hw4]; rfl) (by decide) ?_
      refine mv_G_run 4 (F' := (88, [some (.ref 0), some (.int v1)], [.int (I (kb (!true) 2) 1)], 0, 0, kjS true I L)) rfl ?_
      obtain rfl := Option.some.inj h
      exact mv_G_ret rfl rfl rfl (Nat.le_refl _) trivial ⟨rfl, rfl⟩
    rw [if_neg hw4] at h
    by_cases hw5 : (v1).toInt = 4
    · rw [if_pos hw5] at h
      refine mv_G_sw (tgt := 89) (off := 88) rfl (by simp only [mv_sw, hw5]; rfl) (by decide) ?_
      refine mv_G_run 2 (F' := (93, [some (.ref 0), some (.int v1)], [.int (I 0 2)], 0, 0, kjS true I L)) rfl ?_
      obtain rfl := Option.some.inj h
      exact mv_G_ret rfl rfl rfl (Nat.le_refl _) trivial ⟨rfl, rfl⟩
    rw [if_neg hw5] at h
    refine mv_G_sw (tgt := 94) (off := 93) rfl (by
    have hz6 : ((v1).toInt < 0 ∨ 4 < (v1).toInt) := by omega
    rcases hz6 with hz6
    · exact if_pos hz6) (by decide) ?_
    refine mv_G_run 1 (F' := (95, [some (.ref 0), some (.int v1)], [.int (-1 : Int32)], 0, 0, kjS true I L)) rfl ?_
    obtain rfl := Option.some.inj h
    exact mv_G_ret rfl rfl rfl (Nat.le_refl _) trivial ⟨rfl, rfl⟩
/-! KindJudge.keepFault(III)V on ('c', 0) -/
def kf14 (f : Bool) (v1 : Int32) (v2 : Int32) (v3 : Int32) (I : kjI) (L : kjL) : Option (kjI × kjL) :=
  some ((mv_up (mv_up (mv_up I 0 3 v1) 0 4 v2) 0 5 v3), L)
set_option maxRecDepth 100000 in
set_option maxHeartbeats 4000000 in
theorem kf14_ok (f : Bool) (v1 : Int32) (v2 : Int32) (v3 : Int32) (I : kjI) (L : kjL) (d : Nat) (r : kjI × kjL) (h : kf14 f v1 v2 v3 I L = some r) : mv_C kjP kjSta (d + 1) 14 [.ref 0, .int v1, .int v2, .int v3] (kjS f I L) (kjQwv f r) := by
  cases f
  · unfold kf14 at h
    refine mv_C_in kjM_14 (lc := [some (.ref 0), some (.int v1), some (.int v2), some (.int v3)]) rfl rfl rfl ?_
    refine mv_G_run 9 (F' := (15, [some (.ref 0), some (.int v1), some (.int v2), some (.int v3)], [], 0, 0, kjS false (mv_up (mv_up (mv_up I 0 3 v1) 0 4 v2) 0 5 v3) L)) rfl ?_
    obtain rfl := Option.some.inj h
    exact mv_G_ret rfl rfl rfl (Nat.le_refl _) trivial ⟨rfl, rfl⟩
  · unfold kf14 at h
    refine mv_C_in kjM_14 (lc := [some (.ref 0), some (.int v1), some (.int v2), some (.int v3)]) rfl rfl rfl ?_
    refine mv_G_run 9 (F' := (15, [some (.ref 0), some (.int v1), some (.int v2), some (.int v3)], [], 0, 0, kjS true (mv_up (mv_up (mv_up I 0 3 v1) 0 4 v2) 0 5 v3) L)) rfl ?_
    obtain rfl := Option.some.inj h
    exact mv_G_ret rfl rfl rfl (Nat.le_refl _) trivial ⟨rfl, rfl⟩
/-! KindJudge$Reader.begin()V on ('b', 23) -/
def kf54 (b : Bool) (I : kjI) (L : kjL) : Option (kjI × kjL) :=
  some ((mv_up (mv_up I (kb b 23) 1 (0 : Int32)) (kb b 23) 2 (0 : Int32)), L)
set_option maxRecDepth 100000 in
set_option maxHeartbeats 4000000 in
theorem kf54_ok (f : Bool) (b : Bool) (I : kjI) (L : kjL) (d : Nat) (r : kjI × kjL) (h : kf54 b I L = some r) : mv_C kjP kjSta (d + 1) 54 [.ref (kb b 23)] (kjS f I L) (kjQwv f r) := by
  cases b
  · unfold kf54 at h
    refine mv_C_in kjM_54 (lc := [some (.ref (kb false 23))]) rfl rfl rfl ?_
    refine mv_G_run 6 (F' := (10, [some (.ref (kb false 23))], [], 0, 0, kjS f (mv_up (mv_up I (kb false 23) 1 (0 : Int32)) (kb false 23) 2 (0 : Int32)) L)) rfl ?_
    obtain rfl := Option.some.inj h
    exact mv_G_ret rfl rfl rfl (Nat.le_refl _) trivial ⟨rfl, rfl⟩
  · unfold kf54 at h
    refine mv_C_in kjM_54 (lc := [some (.ref (kb true 23))]) rfl rfl rfl ?_
    refine mv_G_run 6 (F' := (10, [some (.ref (kb true 23))], [], 0, 0, kjS f (mv_up (mv_up I (kb true 23) 1 (0 : Int32)) (kb true 23) 2 (0 : Int32)) L)) rfl ?_
    obtain rfl := Option.some.inj h
    exact mv_G_ret rfl rfl rfl (Nat.le_refl _) trivial ⟨rfl, rfl⟩
/-! KindJudge$Bytes.at(I)I on ('b', 2) -/
def kf22 (b : Bool) (I : kjI) (L : kjL) (v1 : Int32) : Option (Int32) :=
  if v1 < 0 then (some (-1 : Int32)) else (if (I (kb b 2) 1) ≤ v1 then (some (-1 : Int32)) else (none))
set_option maxRecDepth 100000 in
set_option maxHeartbeats 4000000 in
theorem kf22_ok (f : Bool) (b : Bool) (I : kjI) (L : kjL) (v1 : Int32) (d : Nat) (r : Int32) (h : kf22 b I L v1 = some r) : mv_C kjP kjSta (d + 1) 22 [.ref (kb b 2), .int v1] (kjS f I L) (kjQi f I L r) := by
  cases b
  · unfold kf22 at h
    refine mv_C_in kjM_22 (lc := [some (.ref (kb false 2)), some (.int v1)]) rfl rfl rfl ?_
    refine mv_G_run 1 (F' := (1, [some (.ref (kb false 2)), some (.int v1)], [.int v1], 0, 0, kjS f I L)) rfl ?_
    by_cases hc1 : v1 < 0
    · rw [if_pos hc1] at h
      refine mv_G_br (tgt := 25) rfl rfl (by decide) (fun _ => ?_) (fun z => absurd hc1 z)
      refine mv_G_run 1 (F' := (26, [some (.ref (kb false 2)), some (.int v1)], [.int (-1 : Int32)], 0, 0, kjS f I L)) rfl ?_
      obtain rfl := Option.some.inj h
      exact mv_G_ret rfl rfl rfl (Nat.le_refl _) trivial ⟨rfl, rfl⟩
    · rw [if_neg hc1] at h
      refine mv_G_br (tgt := 25) rfl rfl (by decide) (fun z => absurd z hc1) (fun _ => ?_)
      refine mv_G_run 3 (F' := (9, [some (.ref (kb false 2)), some (.int v1)], [.int (I (kb false 2) 1), .int v1], 0, 0, kjS f I L)) rfl ?_
      by_cases hc2 : (I (kb false 2) 1) ≤ v1
      · rw [if_pos hc2] at h
        refine mv_G_br (tgt := 25) rfl rfl (by decide) (fun _ => ?_) (fun z => absurd hc2 z)
        refine mv_G_run 1 (F' := (26, [some (.ref (kb false 2)), some (.int v1)], [.int (-1 : Int32)], 0, 0, kjS f I L)) rfl ?_
        obtain rfl := Option.some.inj h
        exact mv_G_ret rfl rfl rfl (Nat.le_refl _) trivial ⟨rfl, rfl⟩
      · rw [if_neg hc2] at h
        refine mv_G_br (tgt := 25) rfl rfl (by decide) (fun z => absurd z hc2) (fun _ => ?_)
        cases h
  · unfold kf22 at h
    refine mv_C_in kjM_22 (lc := [some (.ref (kb true 2)), some (.int v1)]) rfl rfl rfl ?_
    refine mv_G_run 1 (F' := (1, [some (.ref (kb true 2)), some (.int v1)], [.int v1], 0, 0, kjS f I L)) rfl ?_
    by_cases hc1 : v1 < 0
    · rw [if_pos hc1] at h
      refine mv_G_br (tgt := 25) rfl rfl (by decide) (fun _ => ?_) (fun z => absurd hc1 z)
      refine mv_G_run 1 (F' := (26, [some (.ref (kb true 2)), some (.int v1)], [.int (-1 : Int32)], 0, 0, kjS f I L)) rfl ?_
      obtain rfl := Option.some.inj h
      exact mv_G_ret rfl rfl rfl (Nat.le_refl _) trivial ⟨rfl, rfl⟩
    · rw [if_neg hc1] at h
      refine mv_G_br (tgt := 25) rfl rfl (by decide) (fun z => absurd z hc1) (fun _ => ?_)
      refine mv_G_run 3 (F' := (9, [some (.ref (kb true 2)), some (.int v1)], [.int (I (kb true 2) 1), .int v1], 0, 0, kjS f I L)) rfl ?_
      by_cases hc2 : (I (kb true 2) 1) ≤ v1
      · rw [if_pos hc2] at h
        refine mv_G_br (tgt := 25) rfl rfl (by decide) (fun _ => ?_) (fun z => absurd hc2 z)
        refine mv_G_run 1 (F' := (26, [some (.ref (kb true 2)), some (.int v1)], [.int (-1 : Int32)], 0, 0, kjS f I L)) rfl ?_
        obtain rfl := Option.some.inj h
        exact mv_G_ret rfl rfl rfl (Nat.le_refl _) trivial ⟨rfl, rfl⟩
      · rw [if_neg hc2] at h
        refine mv_G_br (tgt := 25) rfl rfl (by decide) (fun z => absurd z hc2) (fun _ => ?_)
        cases h
/-! KindJudge$Reader.ahead()I on ('b', 23) -/
def kf58 (b : Bool) (I : kjI) (L : kjL) : Option (Int32) :=
  if (I (kb b 23) 2) = 0 then ((kf22 b I L (I (kb b 23) 1)).bind fun r2 => some r2) else (some (-1 : Int32))
set_option maxRecDepth 100000 in
set_option maxHeartbeats 4000000 in
theorem kf58_ok (f : Bool) (b : Bool) (I : kjI) (L : kjL) (d : Nat) (r : Int32) (h : kf58 b I L = some r) : mv_C kjP kjSta (d + 2) 58 [.ref (kb b 23)] (kjS f I L) (kjQi f I L r) := by
  cases b
  · unfold kf58 at h
    refine mv_C_in kjM_58 (lc := [some (.ref (kb false 23))]) rfl rfl rfl ?_
    refine mv_G_run 2 (F' := (4, [some (.ref (kb false 23))], [.int (I (kb false 23) 2)], 0, 0, kjS f I L)) rfl ?_
    by_cases hc1 : (I (kb false 23) 2) = 0
    · rw [if_pos hc1] at h
      refine mv_G_br (tgt := 11) rfl rfl (by decide) (fun _ => ?_) (fun z => absurd hc1 z)
      refine mv_G_run 4 (F' := (19, [some (.ref (kb false 23))], [.int (I (kb false 23) 1), .ref (kb false 2)], 0, 0, kjS f I L)) rfl ?_
      obtain ⟨r2, hc3, h⟩ := mv_bd h
      refine mv_G_call (r := []) (kf22_ok _ _ _ _ _ _ _ hc3) rfl rfl rfl rfl rfl (Nat.le_of_ble_eq_true rfl) (Nat.le_of_ble_eq_true rfl) (Nat.le_of_ble_eq_true rfl) ?_
      rintro _ _ ⟨rfl, rfl⟩
      obtain rfl := Option.some.inj h
      exact mv_G_ret rfl rfl rfl (Nat.le_refl _) trivial ⟨rfl, rfl⟩
    · rw [if_neg hc1] at h
      refine mv_G_br (tgt := 11) rfl rfl (by decide) (fun z => absurd z hc1) (fun _ => ?_)
      refine mv_G_run 2 (F' := (22, [some (.ref (kb false 23))], [.int (-1 : Int32)], 0, 0, kjS f I L)) rfl ?_
      obtain rfl := Option.some.inj h
      exact mv_G_ret rfl rfl rfl (Nat.le_refl _) trivial ⟨rfl, rfl⟩
  · unfold kf58 at h
    refine mv_C_in kjM_58 (lc := [some (.ref (kb true 23))]) rfl rfl rfl ?_
    refine mv_G_run 2 (F' := (4, [some (.ref (kb true 23))], [.int (I (kb true 23) 2)], 0, 0, kjS f I L)) rfl ?_
    by_cases hc1 : (I (kb true 23) 2) = 0
    · rw [if_pos hc1] at h
      refine mv_G_br (tgt := 11) rfl rfl (by decide) (fun _ => ?_) (fun z => absurd hc1 z)
      refine mv_G_run 4 (F' := (19, [some (.ref (kb true 23))], [.int (I (kb true 23) 1), .ref (kb true 2)], 0, 0, kjS f I L)) rfl ?_
      obtain ⟨r2, hc3, h⟩ := mv_bd h
      refine mv_G_call (r := []) (kf22_ok _ _ _ _ _ _ _ hc3) rfl rfl rfl rfl rfl (Nat.le_of_ble_eq_true rfl) (Nat.le_of_ble_eq_true rfl) (Nat.le_of_ble_eq_true rfl) ?_
      rintro _ _ ⟨rfl, rfl⟩
      obtain rfl := Option.some.inj h
      exact mv_G_ret rfl rfl rfl (Nat.le_refl _) trivial ⟨rfl, rfl⟩
    · rw [if_neg hc1] at h
      refine mv_G_br (tgt := 11) rfl rfl (by decide) (fun z => absurd z hc1) (fun _ => ?_)
      refine mv_G_run 2 (F' := (22, [some (.ref (kb true 23))], [.int (-1 : Int32)], 0, 0, kjS f I L)) rfl ?_
      obtain rfl := Option.some.inj h
      exact mv_G_ret rfl rfl rfl (Nat.le_refl _) trivial ⟨rfl, rfl⟩
/-! KindJudge$Reader.pass(Z)Z on ('b', 23) -/
def kf59 (b : Bool) (v1 : Int32) (I : kjI) (L : kjL) : Option (Int32 × kjI × kjL) :=
  if v1 = 0 then (some ((0 : Int32), (mv_up I (kb b 23) 2 (1 : Int32)), L)) else (none)
set_option maxRecDepth 100000 in
set_option maxHeartbeats 4000000 in
theorem kf59_ok (f : Bool) (b : Bool) (v1 : Int32) (I : kjI) (L : kjL) (d : Nat) (r : Int32 × kjI × kjL) (h : kf59 b v1 I L = some r) : mv_C kjP kjSta (d + 1) 59 [.ref (kb b 23), .int v1] (kjS f I L) (kjQwi f r) := by
  cases b
  · unfold kf59 at h
    refine mv_C_in kjM_59 (lc := [some (.ref (kb false 23)), some (.int v1)]) rfl rfl rfl ?_
    refine mv_G_run 1 (F' := (1, [some (.ref (kb false 23)), some (.int v1)], [.int v1], 0, 0, kjS f I L)) rfl ?_
    by_cases hc1 : v1 = 0
    · rw [if_pos hc1] at h
      refine mv_G_br (tgt := 25) rfl rfl (by decide) (fun _ => ?_) (fun z => absurd hc1 z)
      refine mv_G_run 4 (F' := (31, [some (.ref (kb false 23)), some (.int v1)], [.int (0 : Int32)], 0, 0, kjS f (mv_up I (kb false 23) 2 (1 : Int32)) L)) rfl ?_
      obtain rfl := Option.some.inj h
      exact mv_G_ret rfl rfl rfl (Nat.le_refl _) (Or.inl rfl) ⟨rfl, rfl⟩
    · rw [if_neg hc1] at h
      refine mv_G_br (tgt := 25) rfl rfl (by decide) (fun z => absurd z hc1) (fun _ => ?_)
      cases h
  · unfold kf59 at h
    refine mv_C_in kjM_59 (lc := [some (.ref (kb true 23)), some (.int v1)]) rfl rfl rfl ?_
    refine mv_G_run 1 (F' := (1, [some (.ref (kb true 23)), some (.int v1)], [.int v1], 0, 0, kjS f I L)) rfl ?_
    by_cases hc1 : v1 = 0
    · rw [if_pos hc1] at h
      refine mv_G_br (tgt := 25) rfl rfl (by decide) (fun _ => ?_) (fun z => absurd hc1 z)
      refine mv_G_run 4 (F' := (31, [some (.ref (kb true 23)), some (.int v1)], [.int (0 : Int32)], 0, 0, kjS f (mv_up I (kb true 23) 2 (1 : Int32)) L)) rfl ?_
      obtain rfl := Option.some.inj h
      exact mv_G_ret rfl rfl rfl (Nat.le_refl _) (Or.inl rfl) ⟨rfl, rfl⟩
    · rw [if_neg hc1] at h
      refine mv_G_br (tgt := 25) rfl rfl (by decide) (fun z => absurd z hc1) (fun _ => ?_)
      cases h
/-! KindJudge$Reader.number(II)I on ('b', 23) -/
def kf60 (b : Bool) (v1 : Int32) (v2 : Int32) (I : kjI) (L : kjL) : Option (Int32 × kjI × kjL) :=
  (kf58 b I L).bind fun r1 => if r1 < v1 then ((kf59 b (0 : Int32) I L).bind fun r4 => if r4.1 = 0 then (some (v1, r4.2.1, r4.2.2)) else (none)) else (none)
set_option maxRecDepth 100000 in
set_option maxHeartbeats 4000000 in
theorem kf60_ok (f : Bool) (b : Bool) (v1 : Int32) (v2 : Int32) (I : kjI) (L : kjL) (d : Nat) (r : Int32 × kjI × kjL) (h : kf60 b v1 v2 I L = some r) : mv_C kjP kjSta (d + 3) 60 [.ref (kb b 23), .int v1, .int v2] (kjS f I L) (kjQwi f r) := by
  cases b
  · unfold kf60 at h
    refine mv_C_in kjM_60 (lc := [some (.ref (kb false 23)), some (.int v1), some (.int v2), none]) rfl rfl rfl ?_
    refine mv_G_run 1 (F' := (1, [some (.ref (kb false 23)), some (.int v1), some (.int v2), none], [.ref (kb false 23)], 0, 0, kjS f I L)) rfl ?_
    obtain ⟨r1, hc2, h⟩ := mv_bd h
    refine mv_G_call (r := []) (kf58_ok _ _ _ _ _ _ hc2) rfl rfl rfl rfl rfl (Nat.le_of_ble_eq_true rfl) (Nat.le_of_ble_eq_true rfl) (Nat.le_of_ble_eq_true rfl) ?_
    rintro _ _ ⟨rfl, rfl⟩
    refine mv_G_run 4 (F' := (8, [some (.ref (kb false 23)), some (.int v1), some (.int v2), some (.int r1)], [.int v1, .int r1, .ref (kb false 23)], 0, 0, kjS f I L)) rfl ?_
    by_cases hc3 : r1 < v1
    · rw [if_pos hc3] at h
      refine mv_G_br (tgt := 20) rfl rfl (by decide) (fun _ => ?_) (fun z => absurd hc3 z)
      refine mv_G_run 1 (F' := (21, [some (.ref (kb false 23)), some (.int v1), some (.int v2), some (.int r1)], [.int (0 : Int32), .ref (kb false 23)], 0, 0, kjS f I L)) rfl ?_
      obtain ⟨r4, hc5, h⟩ := mv_bd h
      refine mv_G_call (r := []) (kf59_ok _ _ _ _ _ _ _ hc5) rfl rfl rfl rfl rfl (Nat.le_of_ble_eq_true rfl) (Nat.le_of_ble_eq_true rfl) (Nat.le_of_ble_eq_true rfl) ?_
      rintro _ _ ⟨rfl, rfl⟩
      by_cases hc6 : r4.1 = 0
      · rw [if_pos hc6] at h
        refine mv_G_br (tgt := 31) rfl rfl (by decide) (fun _ => ?_) (fun z => absurd hc6 z)
        refine mv_G_run 1 (F' := (32, [some (.ref (kb false 23)), some (.int v1), some (.int v2), some (.int r1)], [.int v1], 0, 0, kjS f r4.2.1 r4.2.2)) rfl ?_
        obtain rfl := Option.some.inj h
        exact mv_G_ret rfl rfl rfl (Nat.le_refl _) trivial ⟨rfl, rfl⟩
      · rw [if_neg hc6] at h
        refine mv_G_br (tgt := 31) rfl rfl (by decide) (fun z => absurd z hc6) (fun _ => ?_)
        cases h
    · rw [if_neg hc3] at h
      refine mv_G_br (tgt := 20) rfl rfl (by decide) (fun z => absurd z hc3) (fun _ => ?_)
      cases h
  · unfold kf60 at h
    refine mv_C_in kjM_60 (lc := [some (.ref (kb true 23)), some (.int v1), some (.int v2), none]) rfl rfl rfl ?_
    refine mv_G_run 1 (F' := (1, [some (.ref (kb true 23)), some (.int v1), some (.int v2), none], [.ref (kb true 23)], 0, 0, kjS f I L)) rfl ?_
    obtain ⟨r1, hc2, h⟩ := mv_bd h
    refine mv_G_call (r := []) (kf58_ok _ _ _ _ _ _ hc2) rfl rfl rfl rfl rfl (Nat.le_of_ble_eq_true rfl) (Nat.le_of_ble_eq_true rfl) (Nat.le_of_ble_eq_true rfl) ?_
    rintro _ _ ⟨rfl, rfl⟩
    refine mv_G_run 4 (F' := (8, [some (.ref (kb true 23)), some (.int v1), some (.int v2), some (.int r1)], [.int v1, .int r1, .ref (kb true 23)], 0, 0, kjS f I L)) rfl ?_
    by_cases hc3 : r1 < v1
    · rw [if_pos hc3] at h
      refine mv_G_br (tgt := 20) rfl rfl (by decide) (fun _ => ?_) (fun z => absurd hc3 z)
      refine mv_G_run 1 (F' := (21, [some (.ref (kb true 23)), some (.int v1), some (.int v2), some (.int r1)], [.int (0 : Int32), .ref (kb true 23)], 0, 0, kjS f I L)) rfl ?_
      obtain ⟨r4, hc5, h⟩ := mv_bd h
      refine mv_G_call (r := []) (kf59_ok _ _ _ _ _ _ _ hc5) rfl rfl rfl rfl rfl (Nat.le_of_ble_eq_true rfl) (Nat.le_of_ble_eq_true rfl) (Nat.le_of_ble_eq_true rfl) ?_
      rintro _ _ ⟨rfl, rfl⟩
      by_cases hc6 : r4.1 = 0
      · rw [if_pos hc6] at h
        refine mv_G_br (tgt := 31) rfl rfl (by decide) (fun _ => ?_) (fun z => absurd hc6 z)
        refine mv_G_run 1 (F' := (32, [some (.ref (kb true 23)), some (.int v1), some (.int v2), some (.int r1)], [.int v1], 0, 0, kjS f r4.2.1 r4.2.2)) rfl ?_
        obtain rfl := Option.some.inj h
        exact mv_G_ret rfl rfl rfl (Nat.le_refl _) trivial ⟨rfl, rfl⟩
      · rw [if_neg hc6] at h
        refine mv_G_br (tgt := 31) rfl rfl (by decide) (fun z => absurd z hc6) (fun _ => ?_)
        cases h
    · rw [if_neg hc3] at h
      refine mv_G_br (tgt := 20) rfl rfl (by decide) (fun z => absurd z hc3) (fun _ => ?_)
      cases h
/-! KindJudge$Classes.read(LKindJudge$Reader;)V on ('b', 5) -/
def kf35 (b : Bool) (I : kjI) (L : kjL) : Option (kjI × kjL) :=
  (kf60 b (0 : Int32) (8 : Int32) I L).bind fun r1 => if ((mv_up r1.2.1 (kb b 5) 4 r1.1) (kb b 5) 4) ≤ (0 : Int32) then (some ((mv_up r1.2.1 (kb b 5) 4 r1.1), r1.2.2)) else (none)
set_option maxRecDepth 100000 in
set_option maxHeartbeats 4000000 in
theorem kf35_ok (f : Bool) (b : Bool) (I : kjI) (L : kjL) (d : Nat) (r : kjI × kjL) (h : kf35 b I L = some r) : mv_C kjP kjSta (d + 5) 35 [.ref (kb b 5), .ref (kb b 23)] (kjS f I L) (kjQwv f r) := by
  cases b
  · unfold kf35 at h
    refine mv_C_in kjM_35 (lc := [some (.ref (kb false 5)), some (.ref (kb false 23)), none]) rfl rfl rfl ?_
    refine mv_G_run 4 (F' := (5, [some (.ref (kb false 5)), some (.ref (kb false 23)), none], [.int (8 : Int32), .int (0 : Int32), .ref (kb false 23), .ref (kb false 5)], 0, 0, kjS f I L)) rfl ?_
    obtain ⟨r1, hc2, h⟩ := mv_bd h
    refine mv_G_call (r := [.ref (kb false 5)]) (kf60_ok _ _ _ _ _ _ _ _ hc2) rfl rfl rfl rfl rfl (Nat.le_of_ble_eq_true rfl) (Nat.le_of_ble_eq_true rfl) (Nat.le_of_ble_eq_true rfl) ?_
    rintro _ _ ⟨rfl, rfl⟩
    refine mv_G_run 6 (F' := (18, [some (.ref (kb false 5)), some (.ref (kb false 23)), some (.int (0 : Int32))], [.int ((mv_up r1.2.1 (kb false 5) 4 r1.1) (kb false 5) 4), .int (0 : Int32)], 0, 0, kjS f (mv_up r1.2.1 (kb false 5) 4 r1.1) r1.2.2)) rfl ?_
    by_cases hc3 : ((mv_up r1.2.1 (kb false 5) 4 r1.1) (kb false 5) 4) ≤ (0 : Int32)
    · rw [if_pos hc3] at h
      refine mv_G_br (tgt := 40) rfl rfl (by decide) (fun _ => ?_) (fun z => absurd hc3 z)
      obtain rfl := Option.some.inj h
      exact mv_G_ret rfl rfl rfl (Nat.le_refl _) trivial ⟨rfl, rfl⟩
    · rw [if_neg hc3] at h
      refine mv_G_br (tgt := 40) rfl rfl (by decide) (fun z => absurd z hc3) (fun _ => ?_)
      cases h
  · unfold kf35 at h
    refine mv_C_in kjM_35 (lc := [some (.ref (kb true 5)), some (.ref (kb true 23)), none]) rfl rfl rfl ?_
    refine mv_G_run 4 (F' := (5, [some (.ref (kb true 5)), some (.ref (kb true 23)), none], [.int (8 : Int32), .int (0 : Int32), .ref (kb true 23), .ref (kb true 5)], 0, 0, kjS f I L)) rfl ?_
    obtain ⟨r1, hc2, h⟩ := mv_bd h
    refine mv_G_call (r := [.ref (kb true 5)]) (kf60_ok _ _ _ _ _ _ _ _ hc2) rfl rfl rfl rfl rfl (Nat.le_of_ble_eq_true rfl) (Nat.le_of_ble_eq_true rfl) (Nat.le_of_ble_eq_true rfl) ?_
    rintro _ _ ⟨rfl, rfl⟩
    refine mv_G_run 6 (F' := (18, [some (.ref (kb true 5)), some (.ref (kb true 23)), some (.int (0 : Int32))], [.int ((mv_up r1.2.1 (kb true 5) 4 r1.1) (kb true 5) 4), .int (0 : Int32)], 0, 0, kjS f (mv_up r1.2.1 (kb true 5) 4 r1.1) r1.2.2)) rfl ?_
    by_cases hc3 : ((mv_up r1.2.1 (kb true 5) 4 r1.1) (kb true 5) 4) ≤ (0 : Int32)
    · rw [if_pos hc3] at h
      refine mv_G_br (tgt := 40) rfl rfl (by decide) (fun _ => ?_) (fun z => absurd hc3 z)
      obtain rfl := Option.some.inj h
      exact mv_G_ret rfl rfl rfl (Nat.le_refl _) trivial ⟨rfl, rfl⟩
    · rw [if_neg hc3] at h
      refine mv_G_br (tgt := 40) rfl rfl (by decide) (fun z => absurd z hc3) (fun _ => ?_)
      cases h
/-! KindJudge$Signatures.readNumber(LKindJudge$Reader;II)V on ('b', 10) -/
def kf47 (b : Bool) (v2 : Int32) (v3 : Int32) (I : kjI) (L : kjL) : Option (kjI × kjL) :=
  (kf60 b v2 (if (16 : Int32) < v3 then (16 : Int32) else v3) I L).bind fun r1 => some ((mv_up r1.2.1 (kb b 10) 3 r1.1), r1.2.2)
set_option maxRecDepth 100000 in
set_option maxHeartbeats 4000000 in
theorem kf47_ok (f : Bool) (b : Bool) (v2 : Int32) (v3 : Int32) (I : kjI) (L : kjL) (d : Nat) (r : kjI × kjL) (h : kf47 b v2 v3 I L = some r) : mv_C kjP kjSta (d + 4) 47 [.ref (kb b 10), .ref (kb b 23), .int v2, .int v3] (kjS f I L) (kjQwv f r) := by
  cases b
  · unfold kf47 at h
    refine mv_C_in kjM_47 (lc := [some (.ref (kb false 10)), some (.ref (kb false 23)), some (.int v2), some (.int v3)]) rfl rfl rfl ?_
    refine mv_G_run 6 (F' := (9, [some (.ref (kb false 10)), some (.ref (kb false 23)), some (.int v2), some (.int v3)], [.int (if (16 : Int32) < v3 then (16 : Int32) else v3), .int v2, .ref (kb false 23), .ref (kb false 10)], 0, 0, kjS f I L)) rfl ?_
    obtain ⟨r1, hc2, h⟩ := mv_bd h
    refine mv_G_call (r := [.ref (kb false 10)]) (kf60_ok _ _ _ _ _ _ _ _ hc2) rfl rfl rfl rfl rfl (Nat.le_of_ble_eq_true rfl) (Nat.le_of_ble_eq_true rfl) (Nat.le_of_ble_eq_true rfl) ?_
    rintro _ _ ⟨rfl, rfl⟩
    refine mv_G_run 1 (F' := (15, [some (.ref (kb false 10)), some (.ref (kb false 23)), some (.int v2), some (.int v3)], [], 0, 0, kjS f (mv_up r1.2.1 (kb false 10) 3 r1.1) r1.2.2)) rfl ?_
    obtain rfl := Option.some.inj h
    exact mv_G_ret rfl rfl rfl (Nat.le_refl _) trivial ⟨rfl, rfl⟩
  · unfold kf47 at h
    refine mv_C_in kjM_47 (lc := [some (.ref (kb true 10)), some (.ref (kb true 23)), some (.int v2), some (.int v3)]) rfl rfl rfl ?_
    refine mv_G_run 6 (F' := (9, [some (.ref (kb true 10)), some (.ref (kb true 23)), some (.int v2), some (.int v3)], [.int (if (16 : Int32) < v3 then (16 : Int32) else v3), .int v2, .ref (kb true 23), .ref (kb true 10)], 0, 0, kjS f I L)) rfl ?_
    obtain ⟨r1, hc2, h⟩ := mv_bd h
    refine mv_G_call (r := [.ref (kb true 10)]) (kf60_ok _ _ _ _ _ _ _ _ hc2) rfl rfl rfl rfl rfl (Nat.le_of_ble_eq_true rfl) (Nat.le_of_ble_eq_true rfl) (Nat.le_of_ble_eq_true rfl) ?_
    rintro _ _ ⟨rfl, rfl⟩
    refine mv_G_run 1 (F' := (15, [some (.ref (kb true 10)), some (.ref (kb true 23)), some (.int v2), some (.int v3)], [], 0, 0, kjS f (mv_up r1.2.1 (kb true 10) 3 r1.1) r1.2.2)) rfl ?_
    obtain rfl := Option.some.inj h
    exact mv_G_ret rfl rfl rfl (Nat.le_refl _) trivial ⟨rfl, rfl⟩
/-! KindJudge$Signatures.readNumber(LKindJudge$Reader;II)V on ('b', 14) -/
def kf47a (b : Bool) (v2 : Int32) (v3 : Int32) (I : kjI) (L : kjL) : Option (kjI × kjL) :=
  (kf60 b v2 (if (16 : Int32) < v3 then (16 : Int32) else v3) I L).bind fun r1 => some ((mv_up r1.2.1 (kb b 14) 3 r1.1), r1.2.2)
set_option maxRecDepth 100000 in
set_option maxHeartbeats 4000000 in
theorem kf47a_ok (f : Bool) (b : Bool) (v2 : Int32) (v3 : Int32) (I : kjI) (L : kjL) (d : Nat) (r : kjI × kjL) (h : kf47a b v2 v3 I L = some r) : mv_C kjP kjSta (d + 4) 47 [.ref (kb b 14), .ref (kb b 23), .int v2, .int v3] (kjS f I L) (kjQwv f r) := by
  cases b
  · unfold kf47a at h
    refine mv_C_in kjM_47 (lc := [some (.ref (kb false 14)), some (.ref (kb false 23)), some (.int v2), some (.int v3)]) rfl rfl rfl ?_
    refine mv_G_run 6 (F' := (9, [some (.ref (kb false 14)), some (.ref (kb false 23)), some (.int v2), some (.int v3)], [.int (if (16 : Int32) < v3 then (16 : Int32) else v3), .int v2, .ref (kb false 23), .ref (kb false 14)], 0, 0, kjS f I L)) rfl ?_
    obtain ⟨r1, hc2, h⟩ := mv_bd h
    refine mv_G_call (r := [.ref (kb false 14)]) (kf60_ok _ _ _ _ _ _ _ _ hc2) rfl rfl rfl rfl rfl (Nat.le_of_ble_eq_true rfl) (Nat.le_of_ble_eq_true rfl) (Nat.le_of_ble_eq_true rfl) ?_
    rintro _ _ ⟨rfl, rfl⟩
    refine mv_G_run 1 (F' := (15, [some (.ref (kb false 14)), some (.ref (kb false 23)), some (.int v2), some (.int v3)], [], 0, 0, kjS f (mv_up r1.2.1 (kb false 14) 3 r1.1) r1.2.2)) rfl ?_
    obtain rfl := Option.some.inj h
    exact mv_G_ret rfl rfl rfl (Nat.le_refl _) trivial ⟨rfl, rfl⟩
  · unfold kf47a at h
    refine mv_C_in kjM_47 (lc := [some (.ref (kb true 14)), some (.ref (kb true 23)), some (.int v2), some (.int v3)]) rfl rfl rfl ?_
    refine mv_G_run 6 (F' := (9, [some (.ref (kb true 14)), some (.ref (kb true 23)), some (.int v2), some (.int v3)], [.int (if (16 : Int32) < v3 then (16 : Int32) else v3), .int v2, .ref (kb true 23), .ref (kb true 14)], 0, 0, kjS f I L)) rfl ?_
    obtain ⟨r1, hc2, h⟩ := mv_bd h
    refine mv_G_call (r := [.ref (kb true 14)]) (kf60_ok _ _ _ _ _ _ _ _ hc2) rfl rfl rfl rfl rfl (Nat.le_of_ble_eq_true rfl) (Nat.le_of_ble_eq_true rfl) (Nat.le_of_ble_eq_true rfl) ?_
    rintro _ _ ⟨rfl, rfl⟩
    refine mv_G_run 1 (F' := (15, [some (.ref (kb true 14)), some (.ref (kb true 23)), some (.int v2), some (.int v3)], [], 0, 0, kjS f (mv_up r1.2.1 (kb true 14) 3 r1.1) r1.2.2)) rfl ?_
    obtain rfl := Option.some.inj h
    exact mv_G_ret rfl rfl rfl (Nat.le_refl _) trivial ⟨rfl, rfl⟩
/-! KindJudge$Reader.goesOn()Z on ('b', 23) -/
def kf55 (b : Bool) (I : kjI) (L : kjL) : Option (Int32) :=
  if ¬ (I (kb b 23) 2) = 0 then (some (0 : Int32)) else (none)
set_option maxRecDepth 100000 in
set_option maxHeartbeats 4000000 in
theorem kf55_ok (f : Bool) (b : Bool) (I : kjI) (L : kjL) (d : Nat) (r : Int32) (h : kf55 b I L = some r) : mv_C kjP kjSta (d + 1) 55 [.ref (kb b 23)] (kjS f I L) (kjQi f I L r) := by
  cases b
  · unfold kf55 at h
    refine mv_C_in kjM_55 (lc := [some (.ref (kb false 23))]) rfl rfl rfl ?_
    refine mv_G_run 2 (F' := (4, [some (.ref (kb false 23))], [.int (I (kb false 23) 2)], 0, 0, kjS f I L)) rfl ?_
    by_cases hc1 : ¬ (I (kb false 23) 2) = 0
    · rw [if_pos hc1] at h
      refine mv_G_br (tgt := 11) rfl rfl (by decide) (fun _ => ?_) (fun z => absurd hc1 z)
      refine mv_G_run 1 (F' := (12, [some (.ref (kb false 23))], [.int (0 : Int32)], 0, 0, kjS f I L)) rfl ?_
      obtain rfl := Option.some.inj h
      exact mv_G_ret rfl rfl rfl (Nat.le_refl _) (Or.inl rfl) ⟨rfl, rfl⟩
    · rw [if_neg hc1] at h
      refine mv_G_br (tgt := 11) rfl rfl (by decide) (fun z => absurd z hc1) (fun _ => ?_)
      cases h
  · unfold kf55 at h
    refine mv_C_in kjM_55 (lc := [some (.ref (kb true 23))]) rfl rfl rfl ?_
    refine mv_G_run 2 (F' := (4, [some (.ref (kb true 23))], [.int (I (kb true 23) 2)], 0, 0, kjS f I L)) rfl ?_
    by_cases hc1 : ¬ (I (kb true 23) 2) = 0
    · rw [if_pos hc1] at h
      refine mv_G_br (tgt := 11) rfl rfl (by decide) (fun _ => ?_) (fun z => absurd hc1 z)
      refine mv_G_run 1 (F' := (12, [some (.ref (kb true 23))], [.int (0 : Int32)], 0, 0, kjS f I L)) rfl ?_
      obtain rfl := Option.some.inj h
      exact mv_G_ret rfl rfl rfl (Nat.le_refl _) (Or.inl rfl) ⟨rfl, rfl⟩
    · rw [if_neg hc1] at h
      refine mv_G_br (tgt := 11) rfl rfl (by decide) (fun z => absurd z hc1) (fun _ => ?_)
      cases h
/-! KindJudge$Reader.isAtEnd()Z on ('b', 23) -/
def kf56 (b : Bool) (I : kjI) (L : kjL) : Option (Int32) :=
  if ¬ (I (kb b 23) 2) = 0 then (some (0 : Int32)) else (none)
set_option maxRecDepth 100000 in
set_option maxHeartbeats 4000000 in
theorem kf56_ok (f : Bool) (b : Bool) (I : kjI) (L : kjL) (d : Nat) (r : Int32) (h : kf56 b I L = some r) : mv_C kjP kjSta (d + 1) 56 [.ref (kb b 23)] (kjS f I L) (kjQi f I L r) := by
  cases b
  · unfold kf56 at h
    refine mv_C_in kjM_56 (lc := [some (.ref (kb false 23))]) rfl rfl rfl ?_
    refine mv_G_run 2 (F' := (4, [some (.ref (kb false 23))], [.int (I (kb false 23) 2)], 0, 0, kjS f I L)) rfl ?_
    by_cases hc1 : ¬ (I (kb false 23) 2) = 0
    · rw [if_pos hc1] at h
      refine mv_G_br (tgt := 25) rfl rfl (by decide) (fun _ => ?_) (fun z => absurd hc1 z)
      refine mv_G_run 1 (F' := (26, [some (.ref (kb false 23))], [.int (0 : Int32)], 0, 0, kjS f I L)) rfl ?_
      obtain rfl := Option.some.inj h
      exact mv_G_ret rfl rfl rfl (Nat.le_refl _) (Or.inl rfl) ⟨rfl, rfl⟩
    · rw [if_neg hc1] at h
      refine mv_G_br (tgt := 25) rfl rfl (by decide) (fun z => absurd z hc1) (fun _ => ?_)
      cases h
  · unfold kf56 at h
    refine mv_C_in kjM_56 (lc := [some (.ref (kb true 23))]) rfl rfl rfl ?_
    refine mv_G_run 2 (F' := (4, [some (.ref (kb true 23))], [.int (I (kb true 23) 2)], 0, 0, kjS f I L)) rfl ?_
    by_cases hc1 : ¬ (I (kb true 23) 2) = 0
    · rw [if_pos hc1] at h
      refine mv_G_br (tgt := 25) rfl rfl (by decide) (fun _ => ?_) (fun z => absurd hc1 z)
      refine mv_G_run 1 (F' := (26, [some (.ref (kb true 23))], [.int (0 : Int32)], 0, 0, kjS f I L)) rfl ?_
      obtain rfl := Option.some.inj h
      exact mv_G_ret rfl rfl rfl (Nat.le_refl _) (Or.inl rfl) ⟨rfl, rfl⟩
    · rw [if_neg hc1] at h
      refine mv_G_br (tgt := 25) rfl rfl (by decide) (fun z => absurd z hc1) (fun _ => ?_)
      cases h
/-! KindJudge$Layout.read()Z on ('b', 4) -/
def kf24_129 (b : Bool) (I : kjI) (L : kjL) : Option (Int32 × kjI × kjL) :=
  if (I (kb b 5) 4) ≤ (0 : Int32) then ((kf56 b I L).bind fun r2 => if r2 = 0 ∨ r2 = 1 then some (r2, I, L) else none) else (none)
set_option maxRecDepth 100000 in
set_option maxHeartbeats 4000000 in
theorem kf24_129_ok (f : Bool) (b : Bool) (d : Nat)  (I : kjI) (L : kjL) (r : Int32 × kjI × kjL) (h : kf24_129 b I L = some r) : mv_G kjP kjSta (mv_C kjP kjSta (d + 5)) kjM_24 (kjQwi f r) (129, [some (.ref (kb b 4)), none], [], 0, 0, kjS f I L) := by
  cases b
  · unfold kf24_129 at h
    refine mv_G_run 6 (F' := (139, [some (.ref (kb false 4)), some (.int (0 : Int32))], [.int (I (kb false 5) 4), .int (0 : Int32)], 0, 0, kjS f I L)) rfl ?_
    by_cases hc1 : (I (kb false 5) 4) ≤ (0 : Int32)
    · rw [if_pos hc1] at h
      refine mv_G_br (tgt := 163) rfl rfl (by decide) (fun _ => ?_) (fun z => absurd hc1 z)
      refine mv_G_run 2 (F' := (167, [some (.ref (kb false 4)), some (.int (0 : Int32))], [.ref (kb false 23)], 0, 0, kjS f I L)) rfl ?_
      obtain ⟨r2, hc3, h⟩ := mv_bd h
      refine mv_G_call (r := []) (kf56_ok _ _ _ _ _ _ hc3) rfl rfl rfl rfl rfl (Nat.le_of_ble_eq_true rfl) (Nat.le_of_ble_eq_true rfl) (Nat.le_of_ble_eq_true rfl) ?_
      rintro _ _ ⟨rfl, rfl⟩
      obtain ⟨hb4, h⟩ := mv_ifs h
      obtain rfl := Option.some.inj h
      exact mv_G_ret rfl rfl rfl (Nat.le_refl _) hb4 ⟨rfl, rfl⟩
    · rw [if_neg hc1] at h
      refine mv_G_br (tgt := 163) rfl rfl (by decide) (fun z => absurd z hc1) (fun _ => ?_)
      cases h
  · unfold kf24_129 at h
    refine mv_G_run 6 (F' := (139, [some (.ref (kb true 4)), some (.int (0 : Int32))], [.int (I (kb true 5) 4), .int (0 : Int32)], 0, 0, kjS f I L)) rfl ?_
    by_cases hc1 : (I (kb true 5) 4) ≤ (0 : Int32)
    · rw [if_pos hc1] at h
      refine mv_G_br (tgt := 163) rfl rfl (by decide) (fun _ => ?_) (fun z => absurd hc1 z)
      refine mv_G_run 2 (F' := (167, [some (.ref (kb true 4)), some (.int (0 : Int32))], [.ref (kb true 23)], 0, 0, kjS f I L)) rfl ?_
      obtain ⟨r2, hc3, h⟩ := mv_bd h
      refine mv_G_call (r := []) (kf56_ok _ _ _ _ _ _ hc3) rfl rfl rfl rfl rfl (Nat.le_of_ble_eq_true rfl) (Nat.le_of_ble_eq_true rfl) (Nat.le_of_ble_eq_true rfl) ?_
      rintro _ _ ⟨rfl, rfl⟩
      obtain ⟨hb4, h⟩ := mv_ifs h
      obtain rfl := Option.some.inj h
      exact mv_G_ret rfl rfl rfl (Nat.le_refl _) hb4 ⟨rfl, rfl⟩
    · rw [if_neg hc1] at h
      refine mv_G_br (tgt := 163) rfl rfl (by decide) (fun z => absurd z hc1) (fun _ => ?_)
      cases h
def kf24 (b : Bool) (I : kjI) (L : kjL) : Option (Int32 × kjI × kjL) :=
  (kf54 b I L).bind fun r1 => (kf35 b r1.1 r1.2).bind fun r3 => (kf47 b (0 : Int32) (8 : Int32) r3.1 r3.2).bind fun r5 => if (r5.1 (kb b 10) 3) ≤ (0 : Int32) then ((kf47a b (1 : Int32) (16 : Int32) r5.1 r5.2).bind fun r8 => if (r8.1 (kb b 14) 3) ≤ (0 : Int32) then (kf24_129 b r8.1 r8.2) else ((kf55 b r8.1 r8.2).bind fun r11 => if r11 = 0 then (kf24_129 b r8.1 r8.2) else (none))) else (none)
set_option maxRecDepth 100000 in
set_option maxHeartbeats 4000000 in
theorem kf24_ok (f : Bool) (b : Bool) (I : kjI) (L : kjL) (d : Nat) (r : Int32 × kjI × kjL) (h : kf24 b I L = some r) : mv_C kjP kjSta (d + 6) 24 [.ref (kb b 4)] (kjS f I L) (kjQwi f r) := by
  cases b
  · unfold kf24 at h
    refine mv_C_in kjM_24 (lc := [some (.ref (kb false 4)), none]) rfl rfl rfl ?_
    refine mv_G_run 2 (F' := (4, [some (.ref (kb false 4)), none], [.ref (kb false 23)], 0, 0, kjS f I L)) rfl ?_
    obtain ⟨r1, hc2, h⟩ := mv_bd h
    refine mv_G_call (r := []) (kf54_ok _ _ _ _ _ _ hc2) rfl rfl rfl rfl rfl (Nat.le_of_ble_eq_true rfl) (Nat.le_of_ble_eq_true rfl) (Nat.le_of_ble_eq_true rfl) ?_
    rintro _ _ ⟨rfl, rfl⟩
    refine mv_G_run 4 (F' := (15, [some (.ref (kb false 4)), none], [.ref (kb false 23), .ref (kb false 5)], 0, 0, kjS f r1.1 r1.2)) rfl ?_
    obtain ⟨r3, hc4, h⟩ := mv_bd h
    refine mv_G_call (r := []) (kf35_ok _ _ _ _ _ _ hc4) rfl rfl rfl rfl rfl (Nat.le_of_ble_eq_true rfl) (Nat.le_of_ble_eq_true rfl) (Nat.le_of_ble_eq_true rfl) ?_
    rintro _ _ ⟨rfl, rfl⟩
    refine mv_G_run 6 (F' := (29, [some (.ref (kb false 4)), none], [.int (8 : Int32), .int (0 : Int32), .ref (kb false 23), .ref (kb false 10)], 0, 0, kjS f r3.1 r3.2)) rfl ?_
    obtain ⟨r5, hc6, h⟩ := mv_bd h
    refine mv_G_call (r := []) (kf47_ok _ _ _ _ _ _ _ _ hc6) rfl rfl rfl rfl rfl (Nat.le_of_ble_eq_true rfl) (Nat.le_of_ble_eq_true rfl) (Nat.le_of_ble_eq_true rfl) ?_
    rintro _ _ ⟨rfl, rfl⟩
    refine mv_G_run 6 (F' := (42, [some (.ref (kb false 4)), some (.int (0 : Int32))], [.int (r5.1 (kb false 10) 3), .int (0 : Int32)], 0, 0, kjS f r5.1 r5.2)) rfl ?_
    by_cases hc7 : (r5.1 (kb false 10) 3) ≤ (0 : Int32)
    · rw [if_pos hc7] at h
      refine mv_G_br (tgt := 81) rfl rfl (by decide) (fun _ => ?_) (fun z => absurd hc7 z)
      refine mv_G_run 6 (F' := (92, [some (.ref (kb false 4)), some (.int (0 : Int32))], [.int (16 : Int32), .int (1 : Int32), .ref (kb false 23), .ref (kb false 14)], 0, 0, kjS f r5.1 r5.2)) rfl ?_
      obtain ⟨r8, hc9, h⟩ := mv_bd h
      refine mv_G_call (r := []) (kf47a_ok _ _ _ _ _ _ _ _ hc9) rfl rfl rfl rfl rfl (Nat.le_of_ble_eq_true rfl) (Nat.le_of_ble_eq_true rfl) (Nat.le_of_ble_eq_true rfl) ?_
      rintro _ _ ⟨rfl, rfl⟩
      refine mv_G_run 6 (F' := (105, [some (.ref (kb false 4)), some (.int (0 : Int32))], [.int (r8.1 (kb false 14) 3), .int (0 : Int32)], 0, 0, kjS f r8.1 r8.2)) rfl ?_
      by_cases hc10 : (r8.1 (kb false 14) 3) ≤ (0 : Int32)
      · rw [if_pos hc10] at h
        refine mv_G_br (tgt := 129) rfl rfl (by decide) (fun _ => ?_) (fun z => absurd hc10 z)
        refine mv_G_fg (lc' := [some (.ref (kb false 4)), none]) (And.intro rfl trivial) ?_
        exact kf24_129_ok _ _ d _ _ _ h
      · rw [if_neg hc10] at h
        refine mv_G_br (tgt := 129) rfl rfl (by decide) (fun z => absurd z hc10) (fun _ => ?_)
        refine mv_G_run 2 (F' := (112, [some (.ref (kb false 4)), some (.int (0 : Int32))], [.ref (kb false 23)], 0, 0, kjS f r8.1 r8.2)) rfl ?_
        obtain ⟨r11, hc12, h⟩ := mv_bd h
        refine mv_G_call (r := []) (kf55_ok _ _ _ _ _ _ hc12) rfl rfl rfl rfl rfl (Nat.le_of_ble_eq_true rfl) (Nat.le_of_ble_eq_true rfl) (Nat.le_of_ble_eq_true rfl) ?_
        rintro _ _ ⟨rfl, rfl⟩
        by_cases hc13 : r11 = 0
        · rw [if_pos hc13] at h
          refine mv_G_br (tgt := 129) rfl rfl (by decide) (fun _ => ?_) (fun z => absurd hc13 z)
          refine mv_G_fg (lc' := [some (.ref (kb false 4)), none]) (And.intro rfl trivial) ?_
          exact kf24_129_ok _ _ d _ _ _ h
        · rw [if_neg hc13] at h
          refine mv_G_br (tgt := 129) rfl rfl (by decide) (fun z => absurd z hc13) (fun _ => ?_)
          cases h
    · rw [if_neg hc7] at h
      refine mv_G_br (tgt := 81) rfl rfl (by decide) (fun z => absurd z hc7) (fun _ => ?_)
      cases h
  · unfold kf24 at h
    refine mv_C_in kjM_24 (lc := [some (.ref (kb true 4)), none]) rfl rfl rfl ?_
    refine mv_G_run 2 (F' := (4, [some (.ref (kb true 4)), none], [.ref (kb true 23)], 0, 0, kjS f I L)) rfl ?_
    obtain ⟨r1, hc2, h⟩ := mv_bd h
    refine mv_G_call (r := []) (kf54_ok _ _ _ _ _ _ hc2) rfl rfl rfl rfl rfl (Nat.le_of_ble_eq_true rfl) (Nat.le_of_ble_eq_true rfl) (Nat.le_of_ble_eq_true rfl) ?_
    rintro _ _ ⟨rfl, rfl⟩
    refine mv_G_run 4 (F' := (15, [some (.ref (kb true 4)), none], [.ref (kb true 23), .ref (kb true 5)], 0, 0, kjS f r1.1 r1.2)) rfl ?_
    obtain ⟨r3, hc4, h⟩ := mv_bd h
    refine mv_G_call (r := []) (kf35_ok _ _ _ _ _ _ hc4) rfl rfl rfl rfl rfl (Nat.le_of_ble_eq_true rfl) (Nat.le_of_ble_eq_true rfl) (Nat.le_of_ble_eq_true rfl) ?_
    rintro _ _ ⟨rfl, rfl⟩
    refine mv_G_run 6 (F' := (29, [some (.ref (kb true 4)), none], [.int (8 : Int32), .int (0 : Int32), .ref (kb true 23), .ref (kb true 10)], 0, 0, kjS f r3.1 r3.2)) rfl ?_
    obtain ⟨r5, hc6, h⟩ := mv_bd h
    refine mv_G_call (r := []) (kf47_ok _ _ _ _ _ _ _ _ hc6) rfl rfl rfl rfl rfl (Nat.le_of_ble_eq_true rfl) (Nat.le_of_ble_eq_true rfl) (Nat.le_of_ble_eq_true rfl) ?_
    rintro _ _ ⟨rfl, rfl⟩
    refine mv_G_run 6 (F' := (42, [some (.ref (kb true 4)), some (.int (0 : Int32))], [.int (r5.1 (kb true 10) 3), .int (0 : Int32)], 0, 0, kjS f r5.1 r5.2)) rfl ?_
    by_cases hc7 : (r5.1 (kb true 10) 3) ≤ (0 : Int32)
    · rw [if_pos hc7] at h
      refine mv_G_br (tgt := 81) rfl rfl (by decide) (fun _ => ?_) (fun z => absurd hc7 z)
      refine mv_G_run 6 (F' := (92, [some (.ref (kb true 4)), some (.int (0 : Int32))], [.int (16 : Int32), .int (1 : Int32), .ref (kb true 23), .ref (kb true 14)], 0, 0, kjS f r5.1 r5.2)) rfl ?_
      obtain ⟨r8, hc9, h⟩ := mv_bd h
      refine mv_G_call (r := []) (kf47a_ok _ _ _ _ _ _ _ _ hc9) rfl rfl rfl rfl rfl (Nat.le_of_ble_eq_true rfl) (Nat.le_of_ble_eq_true rfl) (Nat.le_of_ble_eq_true rfl) ?_
      rintro _ _ ⟨rfl, rfl⟩
      refine mv_G_run 6 (F' := (105, [some (.ref (kb true 4)), some (.int (0 : Int32))], [.int (r8.1 (kb true 14) 3), .int (0 : Int32)], 0, 0, kjS f r8.1 r8.2)) rfl ?_
      by_cases hc10 : (r8.1 (kb true 14) 3) ≤ (0 : Int32)
      · rw [if_pos hc10] at h
        refine mv_G_br (tgt := 129) rfl rfl (by decide) (fun _ => ?_) (fun z => absurd hc10 z)
        refine mv_G_fg (lc' := [some (.ref (kb true 4)), none]) (And.intro rfl trivial) ?_
        exact kf24_129_ok _ _ d _ _ _ h
      · rw [if_neg hc10] at h
        refine mv_G_br (tgt := 129) rfl rfl (by decide) (fun z => absurd z hc10) (fun _ => ?_)
        refine mv_G_run 2 (F' := (112, [some (.ref (kb true 4)), some (.int (0 : Int32))], [.ref (kb true 23)], 0, 0, kjS f r8.1 r8.2)) rfl ?_
        obtain ⟨r11, hc12, h⟩ := mv_bd h
        refine mv_G_call (r := []) (kf55_ok _ _ _ _ _ _ hc12) rfl rfl rfl rfl rfl (Nat.le_of_ble_eq_true rfl) (Nat.le_of_ble_eq_true rfl) (Nat.le_of_ble_eq_true rfl) ?_
        rintro _ _ ⟨rfl, rfl⟩
        by_cases hc13 : r11 = 0
        · rw [if_pos hc13] at h
          refine mv_G_br (tgt := 129) rfl rfl (by decide) (fun _ => ?_) (fun z => absurd hc13 z)
          refine mv_G_fg (lc' := [some (.ref (kb true 4)), none]) (And.intro rfl trivial) ?_
          exact kf24_129_ok _ _ d _ _ _ h
        · rw [if_neg hc13] at h
          refine mv_G_br (tgt := 129) rfl rfl (by decide) (fun z => absurd z hc13) (fun _ => ?_)
          cases h
    · rw [if_neg hc7] at h
      refine mv_G_br (tgt := 81) rfl rfl (by decide) (fun z => absurd z hc7) (fun _ => ?_)
      cases h
/-! KindJudge$Reader.place()I on ('b', 23) -/
def kf57 (b : Bool) (I : kjI) (L : kjL) : Option (Int32) :=
  some (I (kb b 23) 1)
set_option maxRecDepth 100000 in
set_option maxHeartbeats 4000000 in
theorem kf57_ok (f : Bool) (b : Bool) (I : kjI) (L : kjL) (d : Nat) (r : Int32) (h : kf57 b I L = some r) : mv_C kjP kjSta (d + 1) 57 [.ref (kb b 23)] (kjS f I L) (kjQi f I L r) := by
  cases b
  · unfold kf57 at h
    refine mv_C_in kjM_57 (lc := [some (.ref (kb false 23))]) rfl rfl rfl ?_
    refine mv_G_run 2 (F' := (4, [some (.ref (kb false 23))], [.int (I (kb false 23) 1)], 0, 0, kjS f I L)) rfl ?_
    obtain rfl := Option.some.inj h
    exact mv_G_ret rfl rfl rfl (Nat.le_refl _) trivial ⟨rfl, rfl⟩
  · unfold kf57 at h
    refine mv_C_in kjM_57 (lc := [some (.ref (kb true 23))]) rfl rfl rfl ?_
    refine mv_G_run 2 (F' := (4, [some (.ref (kb true 23))], [.int (I (kb true 23) 1)], 0, 0, kjS f I L)) rfl ?_
    obtain rfl := Option.some.inj h
    exact mv_G_ret rfl rfl rfl (Nat.le_refl _) trivial ⟨rfl, rfl⟩
/-! KindJudge$Layout.faultPlace()I on ('b', 4) -/
def kf25 (b : Bool) (I : kjI) (L : kjL) : Option (Int32) :=
  (kf57 b I L).bind fun r1 => some r1
set_option maxRecDepth 100000 in
set_option maxHeartbeats 4000000 in
theorem kf25_ok (f : Bool) (b : Bool) (I : kjI) (L : kjL) (d : Nat) (r : Int32) (h : kf25 b I L = some r) : mv_C kjP kjSta (d + 2) 25 [.ref (kb b 4)] (kjS f I L) (kjQi f I L r) := by
  cases b
  · unfold kf25 at h
    refine mv_C_in kjM_25 (lc := [some (.ref (kb false 4))]) rfl rfl rfl ?_
    refine mv_G_run 2 (F' := (4, [some (.ref (kb false 4))], [.ref (kb false 23)], 0, 0, kjS f I L)) rfl ?_
    obtain ⟨r1, hc2, h⟩ := mv_bd h
    refine mv_G_call (r := []) (kf57_ok _ _ _ _ _ _ hc2) rfl rfl rfl rfl rfl (Nat.le_of_ble_eq_true rfl) (Nat.le_of_ble_eq_true rfl) (Nat.le_of_ble_eq_true rfl) ?_
    rintro _ _ ⟨rfl, rfl⟩
    obtain rfl := Option.some.inj h
    exact mv_G_ret rfl rfl rfl (Nat.le_refl _) trivial ⟨rfl, rfl⟩
  · unfold kf25 at h
    refine mv_C_in kjM_25 (lc := [some (.ref (kb true 4))]) rfl rfl rfl ?_
    refine mv_G_run 2 (F' := (4, [some (.ref (kb true 4))], [.ref (kb true 23)], 0, 0, kjS f I L)) rfl ?_
    obtain ⟨r1, hc2, h⟩ := mv_bd h
    refine mv_G_call (r := []) (kf57_ok _ _ _ _ _ _ hc2) rfl rfl rfl rfl rfl (Nat.le_of_ble_eq_true rfl) (Nat.le_of_ble_eq_true rfl) (Nat.le_of_ble_eq_true rfl) ?_
    rintro _ _ ⟨rfl, rfl⟩
    obtain rfl := Option.some.inj h
    exact mv_G_ret rfl rfl rfl (Nat.le_refl _) trivial ⟨rfl, rfl⟩
/-! KindJudge.findFault()V on ('c', 0) -/
def kf13 (f : Bool) (I : kjI) (L : kjL) : Option (kjI × kjL) :=
  (kf14 f (0 : Int32) (0 : Int32) (0 : Int32) I L).bind fun r1 => (kf24 (!f) r1.1 r1.2).bind fun r3 => if ¬ r3.1 = 0 then (none) else ((kf25 (!f) r3.2.1 r3.2.2).bind fun r6 => (kf14 f (1 : Int32) r6 (0 : Int32) r3.2.1 r3.2.2).bind fun r8 => some (r8.1, r8.2))
set_option maxRecDepth 100000 in
set_option maxHeartbeats 4000000 in
theorem kf13_ok (f : Bool) (I : kjI) (L : kjL) (d : Nat) (r : kjI × kjL) (h : kf13 f I L = some r) : mv_C kjP kjSta (d + 7) 13 [.ref 0] (kjS f I L) (kjQwv f r) := by
  cases f
  · unfold kf13 at h
    refine mv_C_in kjM_13 (lc := [some (.ref 0), none, none, none]) rfl rfl rfl ?_
    refine mv_G_run 4 (F' := (4, [some (.ref 0), none, none, none], [.int (0 : Int32), .int (0 : Int32), .int (0 : Int32), .ref 0], 0, 0, kjS false I L)) rfl ?_
    obtain ⟨r1, hc2, h⟩ := mv_bd h
    refine mv_G_call (r := []) (kf14_ok _ _ _ _ _ _ _ _ hc2) rfl rfl rfl rfl rfl (Nat.le_of_ble_eq_true rfl) (Nat.le_of_ble_eq_true rfl) (Nat.le_of_ble_eq_true rfl) ?_
    rintro _ _ ⟨rfl, rfl⟩
    refine mv_G_run 3 (F' := (14, [some (.ref 0), none, none, none], [.ref (kb (!false) 4)], 0, 0, kjS false r1.1 r1.2)) rfl ?_
    obtain ⟨r3, hc4, h⟩ := mv_bd h
    refine mv_G_call (r := []) (kf24_ok _ _ _ _ _ _ hc4) rfl rfl rfl rfl rfl (Nat.le_of_ble_eq_true rfl) (Nat.le_of_ble_eq_true rfl) (Nat.le_of_ble_eq_true rfl) ?_
    rintro _ _ ⟨rfl, rfl⟩
    by_cases hc5 : ¬ r3.1 = 0
    · rw [if_pos hc5] at h
      refine mv_G_br (tgt := 37) rfl rfl (by decide) (fun _ => ?_) (fun z => absurd hc5 z)
      cases h
    · rw [if_neg hc5] at h
      refine mv_G_br (tgt := 37) rfl rfl (by decide) (fun z => absurd z hc5) (fun _ => ?_)
      refine mv_G_run 5 (F' := (29, [some (.ref 0), none, none, none], [.ref (kb (!false) 4), .int (1 : Int32), .ref 0], 0, 0, kjS false r3.2.1 r3.2.2)) rfl ?_
      obtain ⟨r6, hc7, h⟩ := mv_bd h
      refine mv_G_call (r := [.int (1 : Int32), .ref 0]) (kf25_ok _ _ _ _ _ _ hc7) rfl rfl rfl rfl rfl (Nat.le_of_ble_eq_true rfl) (Nat.le_of_ble_eq_true rfl) (Nat.le_of_ble_eq_true rfl) ?_
      rintro _ _ ⟨rfl, rfl⟩
      refine mv_G_run 1 (F' := (33, [some (.ref 0), none, none, none], [.int (0 : Int32), .int r6, .int (1 : Int32), .ref 0], 0, 0, kjS false r3.2.1 r3.2.2)) rfl ?_
      obtain ⟨r8, hc9, h⟩ := mv_bd h
      refine mv_G_call (r := []) (kf14_ok _ _ _ _ _ _ _ _ hc9) rfl rfl rfl rfl rfl (Nat.le_of_ble_eq_true rfl) (Nat.le_of_ble_eq_true rfl) (Nat.le_of_ble_eq_true rfl) ?_
      rintro _ _ ⟨rfl, rfl⟩
      obtain rfl := Option.some.inj h
      exact mv_G_ret rfl rfl rfl (Nat.le_refl _) trivial ⟨rfl, rfl⟩
  · unfold kf13 at h
    refine mv_C_in kjM_13 (lc := [some (.ref 0), none, none, none]) rfl rfl rfl ?_
    refine mv_G_run 4 (F' := (4, [some (.ref 0), none, none, none], [.int (0 : Int32), .int (0 : Int32), .int (0 : Int32), .ref 0], 0, 0, kjS true I L)) rfl ?_
    obtain ⟨r1, hc2, h⟩ := mv_bd h
    refine mv_G_call (r := []) (kf14_ok _ _ _ _ _ _ _ _ hc2) rfl rfl rfl rfl rfl (Nat.le_of_ble_eq_true rfl) (Nat.le_of_ble_eq_true rfl) (Nat.le_of_ble_eq_true rfl) ?_
    rintro _ _ ⟨rfl, rfl⟩
    refine mv_G_run 3 (F' := (14, [some (.ref 0), none, none, none], [.ref (kb (!true) 4)], 0, 0, kjS true r1.1 r1.2)) rfl ?_
    obtain ⟨r3, hc4, h⟩ := mv_bd h
    refine mv_G_call (r := []) (kf24_ok _ _ _ _ _ _ hc4) rfl rfl rfl rfl rfl (Nat.le_of_ble_eq_true rfl) (Nat.le_of_ble_eq_true rfl) (Nat.le_of_ble_eq_true rfl) ?_
    rintro _ _ ⟨rfl, rfl⟩
    by_cases hc5 : ¬ r3.1 = 0
    · rw [if_pos hc5] at h
      refine mv_G_br (tgt := 37) rfl rfl (by decide) (fun _ => ?_) (fun z => absurd hc5 z)
      cases h
    · rw [if_neg hc5] at h
      refine mv_G_br (tgt := 37) rfl rfl (by decide) (fun z => absurd z hc5) (fun _ => ?_)
      refine mv_G_run 5 (F' := (29, [some (.ref 0), none, none, none], [.ref (kb (!true) 4), .int (1 : Int32), .ref 0], 0, 0, kjS true r3.2.1 r3.2.2)) rfl ?_
      obtain ⟨r6, hc7, h⟩ := mv_bd h
      refine mv_G_call (r := [.int (1 : Int32), .ref 0]) (kf25_ok _ _ _ _ _ _ hc7) rfl rfl rfl rfl rfl (Nat.le_of_ble_eq_true rfl) (Nat.le_of_ble_eq_true rfl) (Nat.le_of_ble_eq_true rfl) ?_
      rintro _ _ ⟨rfl, rfl⟩
      refine mv_G_run 1 (F' := (33, [some (.ref 0), none, none, none], [.int (0 : Int32), .int r6, .int (1 : Int32), .ref 0], 0, 0, kjS true r3.2.1 r3.2.2)) rfl ?_
      obtain ⟨r8, hc9, h⟩ := mv_bd h
      refine mv_G_call (r := []) (kf14_ok _ _ _ _ _ _ _ _ hc9) rfl rfl rfl rfl rfl (Nat.le_of_ble_eq_true rfl) (Nat.le_of_ble_eq_true rfl) (Nat.le_of_ble_eq_true rfl) ?_
      rintro _ _ ⟨rfl, rfl⟩
      obtain rfl := Option.some.inj h
      exact mv_G_ret rfl rfl rfl (Nat.le_refl _) trivial ⟨rfl, rfl⟩
/-! KindJudge$Bytes.clear()V on ('b', 2) -/
def kf21 (b : Bool) (I : kjI) (L : kjL) : Option (kjI × kjL) :=
  some ((mv_up I (kb b 2) 1 (0 : Int32)), L)
set_option maxRecDepth 100000 in
set_option maxHeartbeats 4000000 in
theorem kf21_ok (f : Bool) (b : Bool) (I : kjI) (L : kjL) (d : Nat) (r : kjI × kjL) (h : kf21 b I L = some r) : mv_C kjP kjSta (d + 1) 21 [.ref (kb b 2)] (kjS f I L) (kjQwv f r) := by
  cases b
  · unfold kf21 at h
    refine mv_C_in kjM_21 (lc := [some (.ref (kb false 2))]) rfl rfl rfl ?_
    refine mv_G_run 3 (F' := (5, [some (.ref (kb false 2))], [], 0, 0, kjS f (mv_up I (kb false 2) 1 (0 : Int32)) L)) rfl ?_
    obtain rfl := Option.some.inj h
    exact mv_G_ret rfl rfl rfl (Nat.le_refl _) trivial ⟨rfl, rfl⟩
  · unfold kf21 at h
    refine mv_C_in kjM_21 (lc := [some (.ref (kb true 2))]) rfl rfl rfl ?_
    refine mv_G_run 3 (F' := (5, [some (.ref (kb true 2))], [], 0, 0, kjS f (mv_up I (kb true 2) 1 (0 : Int32)) L)) rfl ?_
    obtain rfl := Option.some.inj h
    exact mv_G_ret rfl rfl rfl (Nat.le_refl _) trivial ⟨rfl, rfl⟩
end
section
/-! KindJudgeModel.thrown()I on ('c', 59) -/
def kf101 (I : kjI) (L : kjL) : Option (Int32) :=
  some (I 59 0)
set_option maxRecDepth 100000 in
set_option maxHeartbeats 4000000 in
theorem kf101_ok (f : Bool) (I : kjI) (L : kjL) (d : Nat) (r : Int32) (h : kf101 I L = some r) : mv_C kjP kjSta (d + 1) 101 [.ref 59] (kjS f I L) (kjQi f I L r) := by
  unfold kf101 at h
  refine mv_C_in kjM_101 (lc := [some (.ref 59)]) rfl rfl rfl ?_
  refine mv_G_run 2 (F' := (4, [some (.ref 59)], [.int (I 59 0)], 0, 0, kjS f I L)) rfl ?_
  obtain rfl := Option.some.inj h
  exact mv_G_ret rfl rfl rfl (Nat.le_refl _) trivial ⟨rfl, rfl⟩
/-! KindJudgeModel.raise(I)I on ('c', 59) -/
def kf102 (v1 : Int32) (I : kjI) (L : kjL) : Option (Int32 × kjI × kjL) :=
  some ((0 : Int32), (mv_up I 59 0 v1), L)
set_option maxRecDepth 100000 in
set_option maxHeartbeats 4000000 in
theorem kf102_ok (f : Bool) (v1 : Int32) (I : kjI) (L : kjL) (d : Nat) (r : Int32 × kjI × kjL) (h : kf102 v1 I L = some r) : mv_C kjP kjSta (d + 1) 102 [.ref 59, .int v1] (kjS f I L) (kjQwi f r) := by
  unfold kf102 at h
  refine mv_C_in kjM_102 (lc := [some (.ref 59), some (.int v1)]) rfl rfl rfl ?_
  refine mv_G_run 4 (F' := (6, [some (.ref 59), some (.int v1)], [.int (0 : Int32)], 0, 0, kjS f (mv_up I 59 0 v1) L)) rfl ?_
  obtain rfl := Option.some.inj h
  exact mv_G_ret rfl rfl rfl (Nat.le_refl _) trivial ⟨rfl, rfl⟩
/-! KindJudgeModel.put(JI)Z on ('c', 59) -/
def kf104_35 (N : Nat) : Nat → Int64 → Int32 → kjI → kjL → Option (Int32 × kjI × kjL)
  | 0, _, _, _, _ => none
  | n + 1, v1, v4, I, L => if v4 < 0 then (some ((1 : Int32), I, L)) else (bif mv_in (I 59 2) 1500 then ((fun v1 v4 I L => kf104_35 N n v1 v4 I L) v1 (v4 + (-1 : Int32)) (mv_up (mv_up I 60 (Int32.toNatClampNeg (I 59 2)) (Int64.toInt32 ((v1 >>> (Int32.toInt64 ((8 : Int32) * v4) &&& 63)) &&& (255 : Int64)))) 59 2 (((mv_up I 60 (Int32.toNatClampNeg (I 59 2)) (Int64.toInt32 ((v1 >>> (Int32.toInt64 ((8 : Int32) * v4) &&& 63)) &&& (255 : Int64)))) 59 2) + (1 : Int32))) L) else none)
set_option maxRecDepth 100000 in
set_option maxHeartbeats 4000000 in
theorem kf104_35_ok (f : Bool) (N : Nat) (d : Nat)  : ∀ (n : Nat) (v1 : Int64) (v4 : Int32) (I : kjI) (L : kjL) (r : Int32 × kjI × kjL), kf104_35 N n v1 v4 I L = some r → mv_G kjP kjSta (mv_C kjP kjSta (d + 0)) kjM_104 (kjQwi f r) (35, [some (.ref 59), some (.long v1), none, none, some (.int v4)], [], 0, 0, kjS f I L) := by
  intro n
  induction n with
  | zero => intro v1 v4 I L r h; cases h
  | succ n ih =>
    have hk35 := ih
    intro v1 v4 I L r h
    unfold kf104_35 at h
    refine mv_G_run 1 (F' := (37, [some (.ref 59), some (.long v1), none, none, some (.int v4)], [.int v4], 0, 0, kjS f I L)) rfl ?_
    by_cases hc1 : v4 < 0
    · rw [if_pos hc1] at h
      refine mv_G_br (tgt := 77) rfl rfl (by decide) (fun _ => ?_) (fun z => absurd hc1 z)
      refine mv_G_run 1 (F' := (78, [some (.ref 59), some (.long v1), none, none, some (.int v4)], [.int (1 : Int32)], 0, 0, kjS f I L)) rfl ?_
      obtain rfl := Option.some.inj h
      exact mv_G_ret rfl rfl rfl (Nat.le_refl _) (Or.inr rfl) ⟨rfl, rfl⟩
    · rw [if_neg hc1] at h
      refine mv_G_br (tgt := 77) rfl rfl (by decide) (fun z => absurd z hc1) (fun _ => ?_)
      refine mv_G_run 12 (F' := (60, [some (.ref 59), some (.long v1), none, none, some (.int v4)], [.int (Int64.toInt32 ((v1 >>> (Int32.toInt64 ((8 : Int32) * v4) &&& 63)) &&& (255 : Int64))), .int (I 59 2), .ref 60], 0, 0, kjS f I L)) rfl ?_
      obtain ⟨hi2, h⟩ := mv_bifs h
      refine mv_G_ast rfl rfl (mv_in_ok hi2) ?_
      refine mv_G_run 8 (F' := (35, [some (.ref 59), some (.long v1), none, none, some (.int (v4 + (-1 : Int32)))], [], 0, 0, kjS f (mv_up (mv_up I 60 (Int32.toNatClampNeg (I 59 2)) (Int64.toInt32 ((v1 >>> (Int32.toInt64 ((8 : Int32) * v4) &&& 63)) &&& (255 : Int64)))) 59 2 (((mv_up I 60 (Int32.toNatClampNeg (I 59 2)) (Int64.toInt32 ((v1 >>> (Int32.toInt64 ((8 : Int32) * v4) &&& 63)) &&& (255 : Int64)))) 59 2) + (1 : Int32))) L)) rfl ?_
      exact hk35 v1 (v4 + (-1 : Int32)) (mv_up (mv_up I 60 (Int32.toNatClampNeg (I 59 2)) (Int64.toInt32 ((v1 >>> (Int32.toInt64 ((8 : Int32) * v4) &&& 63)) &&& (255 : Int64)))) 59 2 (((mv_up I 60 (Int32.toNatClampNeg (I 59 2)) (Int64.toInt32 ((v1 >>> (Int32.toInt64 ((8 : Int32) * v4) &&& 63)) &&& (255 : Int64)))) 59 2) + (1 : Int32))) L _ h
def kf104 (N : Nat) (v1 : Int64) (v3 : Int32) (I : kjI) (L : kjL) : Option (Int32 × kjI × kjL) :=
  if v3 < (1 : Int32) then (some ((0 : Int32), (mv_up I 59 0 (0 : Int32)), L)) else (if (8 : Int32) < v3 then (some ((0 : Int32), (mv_up I 59 0 (0 : Int32)), L)) else (if (((mv_up I 59 0 (0 : Int32)) 59 2) + v3) ≤ (1500 : Int32) then (kf104_35 N N v1 (v3 - (1 : Int32)) (mv_up I 59 0 (0 : Int32)) L) else (some ((0 : Int32), (mv_up I 59 0 (0 : Int32)), L))))
set_option maxRecDepth 100000 in
set_option maxHeartbeats 4000000 in
theorem kf104_ok (f : Bool) (N : Nat) (v1 : Int64) (v3 : Int32) (I : kjI) (L : kjL) (d : Nat) (r : Int32 × kjI × kjL) (h : kf104 N v1 v3 I L = some r) : mv_C kjP kjSta (d + 1) 104 [.ref 59, .long v1, .int v3] (kjS f I L) (kjQwi f r) := by
  unfold kf104 at h
  refine mv_C_in kjM_104 (lc := [some (.ref 59), some (.long v1), none, some (.int v3), none]) rfl rfl rfl ?_
  refine mv_G_run 5 (F' := (7, [some (.ref 59), some (.long v1), none, some (.int v3), none], [.int (1 : Int32), .int v3], 0, 0, kjS f (mv_up I 59 0 (0 : Int32)) L)) rfl ?_
  by_cases hc1 : v3 < (1 : Int32)
  · rw [if_pos hc1] at h
    refine mv_G_br (tgt := 28) rfl rfl (by decide) (fun _ => ?_) (fun z => absurd hc1 z)
    refine mv_G_run 1 (F' := (29, [some (.ref 59), some (.long v1), none, some (.int v3), none], [.int (0 : Int32)], 0, 0, kjS f (mv_up I 59 0 (0 : Int32)) L)) rfl ?_
    obtain rfl := Option.some.inj h
    exact mv_G_ret rfl rfl rfl (Nat.le_refl _) (Or.inl rfl) ⟨rfl, rfl⟩
  · rw [if_neg hc1] at h
    refine mv_G_br (tgt := 28) rfl rfl (by decide) (fun z => absurd z hc1) (fun _ => ?_)
    refine mv_G_run 2 (F' := (13, [some (.ref 59), some (.long v1), none, some (.int v3), none], [.int (8 : Int32), .int v3], 0, 0, kjS f (mv_up I 59 0 (0 : Int32)) L)) rfl ?_
    by_cases hc2 : (8 : Int32) < v3
    · rw [if_pos hc2] at h
      refine mv_G_br (tgt := 28) rfl rfl (by decide) (fun _ => ?_) (fun z => absurd hc2 z)
      refine mv_G_run 1 (F' := (29, [some (.ref 59), some (.long v1), none, some (.int v3), none], [.int (0 : Int32)], 0, 0, kjS f (mv_up I 59 0 (0 : Int32)) L)) rfl ?_
      obtain rfl := Option.some.inj h
      exact mv_G_ret rfl rfl rfl (Nat.le_refl _) (Or.inl rfl) ⟨rfl, rfl⟩
    · rw [if_neg hc2] at h
      refine mv_G_br (tgt := 28) rfl rfl (by decide) (fun z => absurd z hc2) (fun _ => ?_)
      refine mv_G_run 5 (F' := (25, [some (.ref 59), some (.long v1), none, some (.int v3), none], [.int (1500 : Int32), .int (((mv_up I 59 0 (0 : Int32)) 59 2) + v3)], 0, 0, kjS f (mv_up I 59 0 (0 : Int32)) L)) rfl ?_
      by_cases hc3 : (((mv_up I 59 0 (0 : Int32)) 59 2) + v3) ≤ (1500 : Int32)
      · rw [if_pos hc3] at h
        refine mv_G_br (tgt := 30) rfl rfl (by decide) (fun _ => ?_) (fun z => absurd hc3 z)
        refine mv_G_run 4 (F' := (35, [some (.ref 59), some (.long v1), none, some (.int v3), some (.int (v3 - (1 : Int32)))], [], 0, 0, kjS f (mv_up I 59 0 (0 : Int32)) L)) rfl ?_
        refine mv_G_fg (lc' := [some (.ref 59), some (.long v1), none, none, some (.int (v3 - (1 : Int32)))]) (And.intro rfl (And.intro rfl (And.intro rfl trivial))) ?_
        exact kf104_35_ok _ _ d _ _ _ _ _ _ h
      · rw [if_neg hc3] at h
        refine mv_G_br (tgt := 30) rfl rfl (by decide) (fun z => absurd z hc3) (fun _ => ?_)
        refine mv_G_run 1 (F' := (29, [some (.ref 59), some (.long v1), none, some (.int v3), none], [.int (0 : Int32)], 0, 0, kjS f (mv_up I 59 0 (0 : Int32)) L)) rfl ?_
        obtain rfl := Option.some.inj h
        exact mv_G_ret rfl rfl rfl (Nat.le_refl _) (Or.inl rfl) ⟨rfl, rfl⟩
/-! KindJudgeModel.next(II)I on ('c', 59) -/
def kf105 (v1 : Int32) (v2 : Int32) (I : kjI) (L : kjL) : Option (Int32 × kjI × kjL) :=
  if (I 59 36) = 0 then (if (I 59 5) ≤ (I 59 35) then (some ((0 : Int32), (mv_up I 59 36 (1 : Int32)), L)) else (none)) else (some ((0 : Int32), I, L))
set_option maxRecDepth 100000 in
set_option maxHeartbeats 4000000 in
theorem kf105_ok (f : Bool) (v1 : Int32) (v2 : Int32) (I : kjI) (L : kjL) (d : Nat) (r : Int32 × kjI × kjL) (h : kf105 v1 v2 I L = some r) : mv_C kjP kjSta (d + 2) 105 [.ref 59, .int v1, .int v2] (kjS f I L) (kjQwi f r) := by
  unfold kf105 at h
  refine mv_C_in kjM_105 (lc := [some (.ref 59), some (.int v1), some (.int v2)]) rfl rfl rfl ?_
  refine mv_G_run 2 (F' := (4, [some (.ref 59), some (.int v1), some (.int v2)], [.int (I 59 36)], 0, 0, kjS f I L)) rfl ?_
  by_cases hc1 : (I 59 36) = 0
  · rw [if_pos hc1] at h
    refine mv_G_br (tgt := 9) rfl rfl (by decide) (fun _ => ?_) (fun z => absurd hc1 z)
    refine mv_G_run 4 (F' := (17, [some (.ref 59), some (.int v1), some (.int v2)], [.int (I 59 5), .int (I 59 35)], 0, 0, kjS f I L)) rfl ?_
    by_cases hc2 : (I 59 5) ≤ (I 59 35)
    · rw [if_pos hc2] at h
      refine mv_G_br (tgt := 37) rfl rfl (by decide) (fun _ => ?_) (fun z => absurd hc2 z)
      refine mv_G_run 4 (F' := (43, [some (.ref 59), some (.int v1), some (.int v2)], [.int (0 : Int32)], 0, 0, kjS f (mv_up I 59 36 (1 : Int32)) L)) rfl ?_
      obtain rfl := Option.some.inj h
      exact mv_G_ret rfl rfl rfl (Nat.le_refl _) trivial ⟨rfl, rfl⟩
    · rw [if_neg hc2] at h
      refine mv_G_br (tgt := 37) rfl rfl (by decide) (fun z => absurd z hc2) (fun _ => ?_)
      cases h
  · rw [if_neg hc1] at h
    refine mv_G_br (tgt := 9) rfl rfl (by decide) (fun z => absurd z hc1) (fun _ => ?_)
    refine mv_G_run 1 (F' := (8, [some (.ref 59), some (.int v1), some (.int v2)], [.int (0 : Int32)], 0, 0, kjS f I L)) rfl ?_
    obtain rfl := Option.some.inj h
    exact mv_G_ret rfl rfl rfl (Nat.le_refl _) trivial ⟨rfl, rfl⟩
/-! KindJudgeModel.takeApart()Z on ('c', 59) -/
def kf114 (I : kjI) (L : kjL) : Option (Int32 × kjI × kjL) :=
  (kf105 (0 : Int32) (8 : Int32) (mv_up (mv_up (mv_up I 59 35 (0 : Int32)) 59 36 (0 : Int32)) 59 12 (0 : Int32)) L).bind fun r1 => if ((mv_up r1.2.1 59 12 r1.1) 59 12) ≤ (0 : Int32) then ((kf105 (0 : Int32) (8 : Int32) (mv_up r1.2.1 59 12 r1.1) r1.2.2).bind fun r4 => if ((mv_up r4.2.1 59 16 r4.1) 59 16) ≤ (0 : Int32) then ((kf105 (1 : Int32) (16 : Int32) (mv_up r4.2.1 59 16 r4.1) r4.2.2).bind fun r7 => if ((mv_up r7.2.1 59 20 r7.1) 59 20) ≤ (0 : Int32) then (if (((mv_up r7.2.1 59 20 r7.1) 59 12) * ((mv_up r7.2.1 59 20 r7.1) 59 16)) ≤ (0 : Int32) then (if ¬ ((mv_up r7.2.1 59 20 r7.1) 59 36) = 0 then (if ¬ ((mv_up r7.2.1 59 20 r7.1) 59 36) = 0 then (some ((0 : Int32), (mv_up r7.2.1 59 20 r7.1), r7.2.2)) else (none)) else (none)) else (none)) else (none)) else (none)) else (none)
set_option maxRecDepth 100000 in
set_option maxHeartbeats 4000000 in
theorem kf114_ok (f : Bool) (I : kjI) (L : kjL) (d : Nat) (r : Int32 × kjI × kjL) (h : kf114 I L = some r) : mv_C kjP kjSta (d + 5) 114 [.ref 59] (kjS f I L) (kjQwi f r) := by
  unfold kf114 at h
  refine mv_C_in kjM_114 (lc := [some (.ref 59), none]) rfl rfl rfl ?_
  refine mv_G_run 13 (F' := (20, [some (.ref 59), none], [.int (8 : Int32), .int (0 : Int32), .ref 59, .ref 59], 0, 0, kjS f (mv_up (mv_up (mv_up I 59 35 (0 : Int32)) 59 36 (0 : Int32)) 59 12 (0 : Int32)) L)) rfl ?_
  obtain ⟨r1, hc2, h⟩ := mv_bd h
  refine mv_G_call (r := [.ref 59]) (kf105_ok _ _ _ _ _ _ _ hc2) rfl rfl rfl rfl rfl (Nat.le_of_ble_eq_true rfl) (Nat.le_of_ble_eq_true rfl) (Nat.le_of_ble_eq_true rfl) ?_
  rintro _ _ ⟨rfl, rfl⟩
  refine mv_G_run 6 (F' := (33, [some (.ref 59), some (.int (0 : Int32))], [.int ((mv_up r1.2.1 59 12 r1.1) 59 12), .int (0 : Int32)], 0, 0, kjS f (mv_up r1.2.1 59 12 r1.1) r1.2.2)) rfl ?_
  by_cases hc3 : ((mv_up r1.2.1 59 12 r1.1) 59 12) ≤ (0 : Int32)
  · rw [if_pos hc3] at h
    refine mv_G_br (tgt := 54) rfl rfl (by decide) (fun _ => ?_) (fun z => absurd hc3 z)
    refine mv_G_run 4 (F' := (59, [some (.ref 59), some (.int (0 : Int32))], [.int (8 : Int32), .int (0 : Int32), .ref 59, .ref 59], 0, 0, kjS f (mv_up r1.2.1 59 12 r1.1) r1.2.2)) rfl ?_
    obtain ⟨r4, hc5, h⟩ := mv_bd h
    refine mv_G_call (r := [.ref 59]) (kf105_ok _ _ _ _ _ _ _ hc5) rfl rfl rfl rfl rfl (Nat.le_of_ble_eq_true rfl) (Nat.le_of_ble_eq_true rfl) (Nat.le_of_ble_eq_true rfl) ?_
    rintro _ _ ⟨rfl, rfl⟩
    refine mv_G_run 6 (F' := (72, [some (.ref 59), some (.int (0 : Int32))], [.int ((mv_up r4.2.1 59 16 r4.1) 59 16), .int (0 : Int32)], 0, 0, kjS f (mv_up r4.2.1 59 16 r4.1) r4.2.2)) rfl ?_
    by_cases hc6 : ((mv_up r4.2.1 59 16 r4.1) 59 16) ≤ (0 : Int32)
    · rw [if_pos hc6] at h
      refine mv_G_br (tgt := 93) rfl rfl (by decide) (fun _ => ?_) (fun z => absurd hc6 z)
      refine mv_G_run 4 (F' := (98, [some (.ref 59), some (.int (0 : Int32))], [.int (16 : Int32), .int (1 : Int32), .ref 59, .ref 59], 0, 0, kjS f (mv_up r4.2.1 59 16 r4.1) r4.2.2)) rfl ?_
      obtain ⟨r7, hc8, h⟩ := mv_bd h
      refine mv_G_call (r := [.ref 59]) (kf105_ok _ _ _ _ _ _ _ hc8) rfl rfl rfl rfl rfl (Nat.le_of_ble_eq_true rfl) (Nat.le_of_ble_eq_true rfl) (Nat.le_of_ble_eq_true rfl) ?_
      rintro _ _ ⟨rfl, rfl⟩
      refine mv_G_run 6 (F' := (111, [some (.ref 59), some (.int (0 : Int32))], [.int ((mv_up r7.2.1 59 20 r7.1) 59 20), .int (0 : Int32)], 0, 0, kjS f (mv_up r7.2.1 59 20 r7.1) r7.2.2)) rfl ?_
      by_cases hc9 : ((mv_up r7.2.1 59 20 r7.1) 59 20) ≤ (0 : Int32)
      · rw [if_pos hc9] at h
        refine mv_G_br (tgt := 132) rfl rfl (by decide) (fun _ => ?_) (fun z => absurd hc9 z)
        refine mv_G_run 8 (F' := (144, [some (.ref 59), some (.int (0 : Int32))], [.int (((mv_up r7.2.1 59 20 r7.1) 59 12) * ((mv_up r7.2.1 59 20 r7.1) 59 16)), .int (0 : Int32)], 0, 0, kjS f (mv_up r7.2.1 59 20 r7.1) r7.2.2)) rfl ?_
        by_cases hc10 : (((mv_up r7.2.1 59 20 r7.1) 59 12) * ((mv_up r7.2.1 59 20 r7.1) 59 16)) ≤ (0 : Int32)
        · rw [if_pos hc10] at h
          refine mv_G_br (tgt := 176) rfl rfl (by decide) (fun _ => ?_) (fun z => absurd hc10 z)
          refine mv_G_run 2 (F' := (180, [some (.ref 59), some (.int (0 : Int32))], [.int ((mv_up r7.2.1 59 20 r7.1) 59 36)], 0, 0, kjS f (mv_up r7.2.1 59 20 r7.1) r7.2.2)) rfl ?_
          by_cases hc11 : ¬ ((mv_up r7.2.1 59 20 r7.1) 59 36) = 0
          · rw [if_pos hc11] at h
            refine mv_G_br (tgt := 199) rfl rfl (by decide) (fun _ => ?_) (fun z => absurd hc11 z)
            refine mv_G_run 2 (F' := (203, [some (.ref 59), some (.int (0 : Int32))], [.int ((mv_up r7.2.1 59 20 r7.1) 59 36)], 0, 0, kjS f (mv_up r7.2.1 59 20 r7.1) r7.2.2)) rfl ?_
            by_cases hc12 : ¬ ((mv_up r7.2.1 59 20 r7.1) 59 36) = 0
            · rw [if_pos hc12] at h
              refine mv_G_br (tgt := 210) rfl rfl (by decide) (fun _ => ?_) (fun z => absurd hc12 z)
              refine mv_G_run 1 (F' := (211, [some (.ref 59), some (.int (0 : Int32))], [.int (0 : Int32)], 0, 0, kjS f (mv_up r7.2.1 59 20 r7.1) r7.2.2)) rfl ?_
              obtain rfl := Option.some.inj h
              exact mv_G_ret rfl rfl rfl (Nat.le_refl _) (Or.inl rfl) ⟨rfl, rfl⟩
            · rw [if_neg hc12] at h
              refine mv_G_br (tgt := 210) rfl rfl (by decide) (fun z => absurd z hc12) (fun _ => ?_)
              cases h
          · rw [if_neg hc11] at h
            refine mv_G_br (tgt := 199) rfl rfl (by decide) (fun z => absurd z hc11) (fun _ => ?_)
            cases h
        · rw [if_neg hc10] at h
          refine mv_G_br (tgt := 176) rfl rfl (by decide) (fun z => absurd z hc10) (fun _ => ?_)
          cases h
      · rw [if_neg hc9] at h
        refine mv_G_br (tgt := 132) rfl rfl (by decide) (fun z => absurd z hc9) (fun _ => ?_)
        cases h
    · rw [if_neg hc6] at h
      refine mv_G_br (tgt := 93) rfl rfl (by decide) (fun z => absurd z hc6) (fun _ => ?_)
      cases h
  · rw [if_neg hc3] at h
    refine mv_G_br (tgt := 54) rfl rfl (by decide) (fun z => absurd z hc3) (fun _ => ?_)
    cases h
/-! KindJudgeModel.findFault(III)Z on ('c', 59) -/
def kf121 (v1 : Int32) (v2 : Int32) (v3 : Int32) (I : kjI) (L : kjL) : Option (Int32 × kjI × kjL) :=
  some ((0 : Int32), (mv_up (mv_up (mv_up I 59 9 v1) 59 11 v2) 59 10 v3), L)
set_option maxRecDepth 100000 in
set_option maxHeartbeats 4000000 in
theorem kf121_ok (f : Bool) (v1 : Int32) (v2 : Int32) (v3 : Int32) (I : kjI) (L : kjL) (d : Nat) (r : Int32 × kjI × kjL) (h : kf121 v1 v2 v3 I L = some r) : mv_C kjP kjSta (d + 1) 121 [.ref 59, .int v1, .int v2, .int v3] (kjS f I L) (kjQwi f r) := by
  unfold kf121 at h
  refine mv_C_in kjM_121 (lc := [some (.ref 59), some (.int v1), some (.int v2), some (.int v3)]) rfl rfl rfl ?_
  refine mv_G_run 10 (F' := (16, [some (.ref 59), some (.int v1), some (.int v2), some (.int v3)], [.int (0 : Int32)], 0, 0, kjS f (mv_up (mv_up (mv_up I 59 9 v1) 59 11 v2) 59 10 v3) L)) rfl ?_
  obtain rfl := Option.some.inj h
  exact mv_G_ret rfl rfl rfl (Nat.le_refl _) (Or.inl rfl) ⟨rfl, rfl⟩
/-! KindJudgeModel.isFine()Z on ('c', 59) -/
def kf122 (I : kjI) (L : kjL) : Option (Int32 × kjI × kjL) :=
  (kf114 I L).bind fun r1 => if ¬ r1.1 = 0 then (none) else ((kf121 (1 : Int32) (0 : Int32) (r1.2.1 59 35) r1.2.1 r1.2.2).bind fun r4 => if r4.1 = 0 ∨ r4.1 = 1 then some (r4.1, r4.2.1, r4.2.2) else none)
set_option maxRecDepth 100000 in
set_option maxHeartbeats 4000000 in
theorem kf122_ok (f : Bool) (I : kjI) (L : kjL) (d : Nat) (r : Int32 × kjI × kjL) (h : kf122 I L = some r) : mv_C kjP kjSta (d + 7) 122 [.ref 59] (kjS f I L) (kjQwi f r) := by
  unfold kf122 at h
  refine mv_C_in kjM_122 (lc := [some (.ref 59), none, none]) rfl rfl rfl ?_
  refine mv_G_run 1 (F' := (1, [some (.ref 59), none, none], [.ref 59], 0, 0, kjS f I L)) rfl ?_
  obtain ⟨r1, hc2, h⟩ := mv_bd h
  refine mv_G_call (r := []) (kf114_ok _ _ _ _ _ hc2) rfl rfl rfl rfl rfl (Nat.le_of_ble_eq_true rfl) (Nat.le_of_ble_eq_true rfl) (Nat.le_of_ble_eq_true rfl) ?_
  rintro _ _ ⟨rfl, rfl⟩
  by_cases hc3 : ¬ r1.1 = 0
  · rw [if_pos hc3] at h
    refine mv_G_br (tgt := 18) rfl rfl (by decide) (fun _ => ?_) (fun z => absurd hc3 z)
    cases h
  · rw [if_neg hc3] at h
    refine mv_G_br (tgt := 18) rfl rfl (by decide) (fun z => absurd z hc3) (fun _ => ?_)
    refine mv_G_run 5 (F' := (14, [some (.ref 59), none, none], [.int (r1.2.1 59 35), .int (0 : Int32), .int (1 : Int32), .ref 59], 0, 0, kjS f r1.2.1 r1.2.2)) rfl ?_
    obtain ⟨r4, hc5, h⟩ := mv_bd h
    refine mv_G_call (r := []) (kf121_ok _ _ _ _ _ _ _ _ hc5) rfl rfl rfl rfl rfl (Nat.le_of_ble_eq_true rfl) (Nat.le_of_ble_eq_true rfl) (Nat.le_of_ble_eq_true rfl) ?_
    rintro _ _ ⟨rfl, rfl⟩
    obtain ⟨hb6, h⟩ := mv_ifs h
    obtain rfl := Option.some.inj h
    exact mv_G_ret rfl rfl rfl (Nat.le_refl _) hb6 ⟨rfl, rfl⟩
/-! KindJudgeModel.load()I on ('c', 59) -/
def kf123 (I : kjI) (L : kjL) : Option (Int32 × kjI × kjL) :=
  if ((mv_up I 59 5 (I 59 2)) 59 2) ≤ (0 : Int32) then ((kf122 (mv_up (mv_up I 59 5 (I 59 2)) 59 2 (0 : Int32)) L).bind fun r2 => if r2.1 = 0 then (if (r2.2.1 59 8) = 0 then ((kf102 (1 : Int32) r2.2.1 r2.2.2).bind fun r6 => some (r6.1, r6.2.1, r6.2.2)) else (none)) else (none)) else (none)
set_option maxRecDepth 100000 in
set_option maxHeartbeats 4000000 in
theorem kf123_ok (f : Bool) (I : kjI) (L : kjL) (d : Nat) (r : Int32 × kjI × kjL) (h : kf123 I L = some r) : mv_C kjP kjSta (d + 9) 123 [.ref 59] (kjS f I L) (kjQwi f r) := by
  unfold kf123 at h
  refine mv_C_in kjM_123 (lc := [some (.ref 59), none, none]) rfl rfl rfl ?_
  refine mv_G_run 9 (F' := (15, [some (.ref 59), some (.int (0 : Int32)), none], [.int ((mv_up I 59 5 (I 59 2)) 59 2), .int (0 : Int32)], 0, 0, kjS f (mv_up I 59 5 (I 59 2)) L)) rfl ?_
  by_cases hc1 : ((mv_up I 59 5 (I 59 2)) 59 2) ≤ (0 : Int32)
  · rw [if_pos hc1] at h
    refine mv_G_br (tgt := 36) rfl rfl (by decide) (fun _ => ?_) (fun z => absurd hc1 z)
    refine mv_G_run 4 (F' := (42, [some (.ref 59), some (.int (0 : Int32)), none], [.ref 59], 0, 0, kjS f (mv_up (mv_up I 59 5 (I 59 2)) 59 2 (0 : Int32)) L)) rfl ?_
    obtain ⟨r2, hc3, h⟩ := mv_bd h
    refine mv_G_call (r := []) (kf122_ok _ _ _ _ _ hc3) rfl rfl rfl rfl rfl (Nat.le_of_ble_eq_true rfl) (Nat.le_of_ble_eq_true rfl) (Nat.le_of_ble_eq_true rfl) ?_
    rintro _ _ ⟨rfl, rfl⟩
    refine mv_G_run 2 (F' := (47, [some (.ref 59), some (.int r2.1), none], [.int r2.1], 0, 0, kjS f r2.2.1 r2.2.2)) rfl ?_
    by_cases hc4 : r2.1 = 0
    · rw [if_pos hc4] at h
      refine mv_G_br (tgt := 126) rfl rfl (by decide) (fun _ => ?_) (fun z => absurd hc4 z)
      refine mv_G_run 2 (F' := (130, [some (.ref 59), some (.int r2.1), none], [.int (r2.2.1 59 8)], 0, 0, kjS f r2.2.1 r2.2.2)) rfl ?_
      by_cases hc5 : (r2.2.1 59 8) = 0
      · rw [if_pos hc5] at h
        refine mv_G_br (tgt := 137) rfl rfl (by decide) (fun _ => ?_) (fun z => absurd hc5 z)
        refine mv_G_run 2 (F' := (139, [some (.ref 59), some (.int r2.1), none], [.int (1 : Int32), .ref 59], 0, 0, kjS f r2.2.1 r2.2.2)) rfl ?_
        obtain ⟨r6, hc7, h⟩ := mv_bd h
        refine mv_G_call (r := []) (kf102_ok _ _ _ _ _ _ hc7) rfl rfl rfl rfl rfl (Nat.le_of_ble_eq_true rfl) (Nat.le_of_ble_eq_true rfl) (Nat.le_of_ble_eq_true rfl) ?_
        rintro _ _ ⟨rfl, rfl⟩
        obtain rfl := Option.some.inj h
        exact mv_G_ret rfl rfl rfl (Nat.le_refl _) trivial ⟨rfl, rfl⟩
      · rw [if_neg hc5] at h
        refine mv_G_br (tgt := 137) rfl rfl (by decide) (fun z => absurd z hc5) (fun _ => ?_)
        cases h
    · rw [if_neg hc4] at h
      refine mv_G_br (tgt := 126) rfl rfl (by decide) (fun z => absurd z hc4) (fun _ => ?_)
      cases h
  · rw [if_neg hc1] at h
    refine mv_G_br (tgt := 36) rfl rfl (by decide) (fun z => absurd z hc1) (fun _ => ?_)
    cases h
/-! KindJudgeModel.fault(I)I on ('c', 59) -/
def kf125 (v1 : Int32) (I : kjI) (L : kjL) : Option (Int32 × kjI × kjL) :=
  if ¬ v1 = 0 then (if ¬ v1 = (1 : Int32) then (if ¬ v1 = (2 : Int32) then (some ((-1 : Int32), (mv_up I 59 0 (0 : Int32)), L)) else (some (((mv_up I 59 0 (0 : Int32)) 59 11), (mv_up I 59 0 (0 : Int32)), L))) else (some (((mv_up I 59 0 (0 : Int32)) 59 10), (mv_up I 59 0 (0 : Int32)), L))) else (some (((mv_up I 59 0 (0 : Int32)) 59 9), (mv_up I 59 0 (0 : Int32)), L))
set_option maxRecDepth 100000 in
set_option maxHeartbeats 4000000 in
theorem kf125_ok (f : Bool) (v1 : Int32) (I : kjI) (L : kjL) (d : Nat) (r : Int32 × kjI × kjL) (h : kf125 v1 I L = some r) : mv_C kjP kjSta (d + 1) 125 [.ref 59, .int v1] (kjS f I L) (kjQwi f r) := by
  unfold kf125 at h
  refine mv_C_in kjM_125 (lc := [some (.ref 59), some (.int v1)]) rfl rfl rfl ?_
  refine mv_G_run 4 (F' := (6, [some (.ref 59), some (.int v1)], [.int v1], 0, 0, kjS f (mv_up I 59 0 (0 : Int32)) L)) rfl ?_
  by_cases hc1 : ¬ v1 = 0
  · rw [if_pos hc1] at h
    refine mv_G_br (tgt := 16) rfl rfl (by decide) (fun _ => ?_) (fun z => absurd hc1 z)
    refine mv_G_run 2 (F' := (18, [some (.ref 59), some (.int v1)], [.int (1 : Int32), .int v1], 0, 0, kjS f (mv_up I 59 0 (0 : Int32)) L)) rfl ?_
    by_cases hc2 : ¬ v1 = (1 : Int32)
    · rw [if_pos hc2] at h
      refine mv_G_br (tgt := 28) rfl rfl (by decide) (fun _ => ?_) (fun z => absurd hc2 z)
      refine mv_G_run 2 (F' := (30, [some (.ref 59), some (.int v1)], [.int (2 : Int32), .int v1], 0, 0, kjS f (mv_up I 59 0 (0 : Int32)) L)) rfl ?_
      by_cases hc3 : ¬ v1 = (2 : Int32)
      · rw [if_pos hc3] at h
        refine mv_G_br (tgt := 40) rfl rfl (by decide) (fun _ => ?_) (fun z => absurd hc3 z)
        refine mv_G_run 1 (F' := (41, [some (.ref 59), some (.int v1)], [.int (-1 : Int32)], 0, 0, kjS f (mv_up I 59 0 (0 : Int32)) L)) rfl ?_
        obtain rfl := Option.some.inj h
        exact mv_G_ret rfl rfl rfl (Nat.le_refl _) trivial ⟨rfl, rfl⟩
      · rw [if_neg hc3] at h
        refine mv_G_br (tgt := 40) rfl rfl (by decide) (fun z => absurd z hc3) (fun _ => ?_)
        refine mv_G_run 3 (F' := (41, [some (.ref 59), some (.int v1)], [.int ((mv_up I 59 0 (0 : Int32)) 59 11)], 0, 0, kjS f (mv_up I 59 0 (0 : Int32)) L)) rfl ?_
        obtain rfl := Option.some.inj h
        exact mv_G_ret rfl rfl rfl (Nat.le_refl _) trivial ⟨rfl, rfl⟩
    · rw [if_neg hc2] at h
      refine mv_G_br (tgt := 28) rfl rfl (by decide) (fun z => absurd z hc2) (fun _ => ?_)
      refine mv_G_run 3 (F' := (41, [some (.ref 59), some (.int v1)], [.int ((mv_up I 59 0 (0 : Int32)) 59 10)], 0, 0, kjS f (mv_up I 59 0 (0 : Int32)) L)) rfl ?_
      obtain rfl := Option.some.inj h
      exact mv_G_ret rfl rfl rfl (Nat.le_refl _) trivial ⟨rfl, rfl⟩
  · rw [if_neg hc1] at h
    refine mv_G_br (tgt := 16) rfl rfl (by decide) (fun z => absurd z hc1) (fun _ => ?_)
    refine mv_G_run 3 (F' := (41, [some (.ref 59), some (.int v1)], [.int ((mv_up I 59 0 (0 : Int32)) 59 9)], 0, 0, kjS f (mv_up I 59 0 (0 : Int32)) L)) rfl ?_
    obtain rfl := Option.some.inj h
    exact mv_G_ret rfl rfl rfl (Nat.le_refl _) trivial ⟨rfl, rfl⟩
/-! KindJudgeModel.kind(III)I on ('c', 59) -/
def kf139 (v1 : Int32) (v2 : Int32) (v3 : Int32) (I : kjI) (L : kjL) : Option (Int32 × kjI × kjL) :=
  if ((mv_up I 59 0 (0 : Int32)) 59 8) = 0 then (some ((-1 : Int32), (mv_up I 59 0 (0 : Int32)), L)) else (none)
set_option maxRecDepth 100000 in
set_option maxHeartbeats 4000000 in
theorem kf139_ok (f : Bool) (v1 : Int32) (v2 : Int32) (v3 : Int32) (I : kjI) (L : kjL) (d : Nat) (r : Int32 × kjI × kjL) (h : kf139 v1 v2 v3 I L = some r) : mv_C kjP kjSta (d + 2) 139 [.ref 59, .int v1, .int v2, .int v3] (kjS f I L) (kjQwi f r) := by
  unfold kf139 at h
  refine mv_C_in kjM_139 (lc := [some (.ref 59), some (.int v1), some (.int v2), some (.int v3), none]) rfl rfl rfl ?_
  refine mv_G_run 5 (F' := (9, [some (.ref 59), some (.int v1), some (.int v2), some (.int v3), none], [.int ((mv_up I 59 0 (0 : Int32)) 59 8)], 0, 0, kjS f (mv_up I 59 0 (0 : Int32)) L)) rfl ?_
  by_cases hc1 : ((mv_up I 59 0 (0 : Int32)) 59 8) = 0
  · rw [if_pos hc1] at h
    refine mv_G_br (tgt := 71) rfl rfl (by decide) (fun _ => ?_) (fun z => absurd hc1 z)
    refine mv_G_run 1 (F' := (72, [some (.ref 59), some (.int v1), some (.int v2), some (.int v3), none], [.int (-1 : Int32)], 0, 0, kjS f (mv_up I 59 0 (0 : Int32)) L)) rfl ?_
    obtain rfl := Option.some.inj h
    exact mv_G_ret rfl rfl rfl (Nat.le_refl _) trivial ⟨rfl, rfl⟩
  · rw [if_neg hc1] at h
    refine mv_G_br (tgt := 71) rfl rfl (by decide) (fun z => absurd z hc1) (fun _ => ?_)
    cases h
/-! KindJudgeModel.isMethod(I)Z on ('c', 59) -/
def kf140 (I : kjI) (L : kjL) (v1 : Int32) : Option (Int32) :=
  if (I 59 8) = 0 then (some (0 : Int32)) else (none)
set_option maxRecDepth 100000 in
set_option maxHeartbeats 4000000 in
theorem kf140_ok (f : Bool) (I : kjI) (L : kjL) (v1 : Int32) (d : Nat) (r : Int32) (h : kf140 I L v1 = some r) : mv_C kjP kjSta (d + 2) 140 [.ref 59, .int v1] (kjS f I L) (kjQi f I L r) := by
  unfold kf140 at h
  refine mv_C_in kjM_140 (lc := [some (.ref 59), some (.int v1)]) rfl rfl rfl ?_
  refine mv_G_run 2 (F' := (4, [some (.ref 59), some (.int v1)], [.int (I 59 8)], 0, 0, kjS f I L)) rfl ?_
  by_cases hc1 : (I 59 8) = 0
  · rw [if_pos hc1] at h
    refine mv_G_br (tgt := 25) rfl rfl (by decide) (fun _ => ?_) (fun z => absurd hc1 z)
    refine mv_G_run 1 (F' := (26, [some (.ref 59), some (.int v1)], [.int (0 : Int32)], 0, 0, kjS f I L)) rfl ?_
    obtain rfl := Option.some.inj h
    exact mv_G_ret rfl rfl rfl (Nat.le_refl _) (Or.inl rfl) ⟨rfl, rfl⟩
  · rw [if_neg hc1] at h
    refine mv_G_br (tgt := 25) rfl rfl (by decide) (fun z => absurd z hc1) (fun _ => ?_)
    cases h
/-! KindJudgeModel.isBegun(II)Z on ('c', 59) -/
def kf141 (I : kjI) (L : kjL) (v1 : Int32) (v2 : Int32) : Option (Int32) :=
  (kf140 I L v1).bind fun r1 => if r1 = 0 then (some (0 : Int32)) else (none)
set_option maxRecDepth 100000 in
set_option maxHeartbeats 4000000 in
theorem kf141_ok (f : Bool) (I : kjI) (L : kjL) (v1 : Int32) (v2 : Int32) (d : Nat) (r : Int32) (h : kf141 I L v1 v2 = some r) : mv_C kjP kjSta (d + 3) 141 [.ref 59, .int v1, .int v2] (kjS f I L) (kjQi f I L r) := by
  unfold kf141 at h
  refine mv_C_in kjM_141 (lc := [some (.ref 59), some (.int v1), some (.int v2)]) rfl rfl rfl ?_
  refine mv_G_run 2 (F' := (2, [some (.ref 59), some (.int v1), some (.int v2)], [.int v1, .ref 59], 0, 0, kjS f I L)) rfl ?_
  obtain ⟨r1, hc2, h⟩ := mv_bd h
  refine mv_G_call (r := []) (kf140_ok _ _ _ _ _ _ hc2) rfl rfl rfl rfl rfl (Nat.le_of_ble_eq_true rfl) (Nat.le_of_ble_eq_true rfl) (Nat.le_of_ble_eq_true rfl) ?_
  rintro _ _ ⟨rfl, rfl⟩
  by_cases hc3 : r1 = 0
  · rw [if_pos hc3] at h
    refine mv_G_br (tgt := 42) rfl rfl (by decide) (fun _ => ?_) (fun z => absurd hc3 z)
    refine mv_G_run 1 (F' := (43, [some (.ref 59), some (.int v1), some (.int v2)], [.int (0 : Int32)], 0, 0, kjS f I L)) rfl ?_
    obtain rfl := Option.some.inj h
    exact mv_G_ret rfl rfl rfl (Nat.le_refl _) (Or.inl rfl) ⟨rfl, rfl⟩
  · rw [if_neg hc3] at h
    refine mv_G_br (tgt := 42) rfl rfl (by decide) (fun z => absurd z hc3) (fun _ => ?_)
    cases h
/-! KindJudgeModel.look(III)I on ('c', 59) -/
def kf144 (v1 : Int32) (v2 : Int32) (v3 : Int32) (I : kjI) (L : kjL) : Option (Int32 × kjI × kjL) :=
  (kf141 I L v1 v2).bind fun r1 => if r1 = 0 then (if ((mv_up I 59 0 (1 : Int32)) 59 0) = 0 then (none) else (some ((0 : Int32), (mv_up I 59 0 (1 : Int32)), L))) else (none)
set_option maxRecDepth 100000 in
set_option maxHeartbeats 4000000 in
theorem kf144_ok (f : Bool) (v1 : Int32) (v2 : Int32) (v3 : Int32) (I : kjI) (L : kjL) (d : Nat) (r : Int32 × kjI × kjL) (h : kf144 v1 v2 v3 I L = some r) : mv_C kjP kjSta (d + 4) 144 [.ref 59, .int v1, .int v2, .int v3] (kjS f I L) (kjQwi f r) := by
  unfold kf144 at h
  refine mv_C_in kjM_144 (lc := [some (.ref 59), some (.int v1), some (.int v2), some (.int v3)]) rfl rfl rfl ?_
  refine mv_G_run 4 (F' := (4, [some (.ref 59), some (.int v1), some (.int v2), some (.int v3)], [.int v2, .int v1, .ref 59, .ref 59], 0, 0, kjS f I L)) rfl ?_
  obtain ⟨r1, hc2, h⟩ := mv_bd h
  refine mv_G_call (r := [.ref 59]) (kf141_ok _ _ _ _ _ _ _ hc2) rfl rfl rfl rfl rfl (Nat.le_of_ble_eq_true rfl) (Nat.le_of_ble_eq_true rfl) (Nat.le_of_ble_eq_true rfl) ?_
  rintro _ _ ⟨rfl, rfl⟩
  by_cases hc3 : r1 = 0
  · rw [if_pos hc3] at h
    refine mv_G_br (tgt := 23) rfl rfl (by decide) (fun _ => ?_) (fun z => absurd hc3 z)
    refine mv_G_run 4 (F' := (31, [some (.ref 59), some (.int v1), some (.int v2), some (.int v3)], [.int ((mv_up I 59 0 (1 : Int32)) 59 0)], 0, 0, kjS f (mv_up I 59 0 (1 : Int32)) L)) rfl ?_
    by_cases hc4 : ((mv_up I 59 0 (1 : Int32)) 59 0) = 0
    · rw [if_pos hc4] at h
      refine mv_G_br (tgt := 36) rfl rfl (by decide) (fun _ => ?_) (fun z => absurd hc4 z)
      cases h
    · rw [if_neg hc4] at h
      refine mv_G_br (tgt := 36) rfl rfl (by decide) (fun z => absurd z hc4) (fun _ => ?_)
      refine mv_G_run 1 (F' := (35, [some (.ref 59), some (.int v1), some (.int v2), some (.int v3)], [.int (0 : Int32)], 0, 0, kjS f (mv_up I 59 0 (1 : Int32)) L)) rfl ?_
      obtain rfl := Option.some.inj h
      exact mv_G_ret rfl rfl rfl (Nat.le_refl _) trivial ⟨rfl, rfl⟩
  · rw [if_neg hc3] at h
    refine mv_G_br (tgt := 23) rfl rfl (by decide) (fun z => absurd z hc3) (fun _ => ?_)
    cases h
/-! KindJudgeModel.ways(II)I on ('c', 59) -/
def kf146 (v1 : Int32) (v2 : Int32) (I : kjI) (L : kjL) : Option (Int32 × kjI × kjL) :=
  (kf141 (mv_up I 59 0 (0 : Int32)) L v1 v2).bind fun r1 => if ¬ r1 = 0 then (none) else (some ((-1 : Int32), (mv_up I 59 0 (0 : Int32)), L))
set_option maxRecDepth 100000 in
set_option maxHeartbeats 4000000 in
theorem kf146_ok (f : Bool) (v1 : Int32) (v2 : Int32) (I : kjI) (L : kjL) (d : Nat) (r : Int32 × kjI × kjL) (h : kf146 v1 v2 I L = some r) : mv_C kjP kjSta (d + 4) 146 [.ref 59, .int v1, .int v2] (kjS f I L) (kjQwi f r) := by
  unfold kf146 at h
  refine mv_C_in kjM_146 (lc := [some (.ref 59), some (.int v1), some (.int v2), none, none]) rfl rfl rfl ?_
  refine mv_G_run 6 (F' := (8, [some (.ref 59), some (.int v1), some (.int v2), none, none], [.int v2, .int v1, .ref 59], 0, 0, kjS f (mv_up I 59 0 (0 : Int32)) L)) rfl ?_
  obtain ⟨r1, hc2, h⟩ := mv_bd h
  refine mv_G_call (r := []) (kf141_ok _ _ _ _ _ _ _ hc2) rfl rfl rfl rfl rfl (Nat.le_of_ble_eq_true rfl) (Nat.le_of_ble_eq_true rfl) (Nat.le_of_ble_eq_true rfl) ?_
  rintro _ _ ⟨rfl, rfl⟩
  by_cases hc3 : ¬ r1 = 0
  · rw [if_pos hc3] at h
    refine mv_G_br (tgt := 16) rfl rfl (by decide) (fun _ => ?_) (fun z => absurd hc3 z)
    cases h
  · rw [if_neg hc3] at h
    refine mv_G_br (tgt := 16) rfl rfl (by decide) (fun z => absurd z hc3) (fun _ => ?_)
    refine mv_G_run 1 (F' := (15, [some (.ref 59), some (.int v1), some (.int v2), none, none], [.int (-1 : Int32)], 0, 0, kjS f (mv_up I 59 0 (0 : Int32)) L)) rfl ?_
    obtain rfl := Option.some.inj h
    exact mv_G_ret rfl rfl rfl (Nat.le_refl _) trivial ⟨rfl, rfl⟩
/-! KindJudgeModel.count(II)I on ('c', 59) -/
def kf147 (v1 : Int32) (v2 : Int32) (I : kjI) (L : kjL) : Option (Int32 × kjI × kjL) :=
  (kf140 (mv_up I 59 0 (0 : Int32)) L v1).bind fun r1 => if r1 = 0 then (some ((-1 : Int32), (mv_up I 59 0 (0 : Int32)), L)) else (none)
set_option maxRecDepth 100000 in
set_option maxHeartbeats 4000000 in
theorem kf147_ok (f : Bool) (v1 : Int32) (v2 : Int32) (I : kjI) (L : kjL) (d : Nat) (r : Int32 × kjI × kjL) (h : kf147 v1 v2 I L = some r) : mv_C kjP kjSta (d + 3) 147 [.ref 59, .int v1, .int v2] (kjS f I L) (kjQwi f r) := by
  unfold kf147 at h
  refine mv_C_in kjM_147 (lc := [some (.ref 59), some (.int v1), some (.int v2), none, none, none, none, none]) rfl rfl rfl ?_
  refine mv_G_run 5 (F' := (7, [some (.ref 59), some (.int v1), some (.int v2), none, none, none, none, none], [.int v1, .ref 59], 0, 0, kjS f (mv_up I 59 0 (0 : Int32)) L)) rfl ?_
  obtain ⟨r1, hc2, h⟩ := mv_bd h
  refine mv_G_call (r := []) (kf140_ok _ _ _ _ _ _ hc2) rfl rfl rfl rfl rfl (Nat.le_of_ble_eq_true rfl) (Nat.le_of_ble_eq_true rfl) (Nat.le_of_ble_eq_true rfl) ?_
  rintro _ _ ⟨rfl, rfl⟩
  by_cases hc3 : r1 = 0
  · rw [if_pos hc3] at h
    refine mv_G_br (tgt := 22) rfl rfl (by decide) (fun _ => ?_) (fun z => absurd hc3 z)
    refine mv_G_run 1 (F' := (23, [some (.ref 59), some (.int v1), some (.int v2), none, none, none, none, none], [.int (-1 : Int32)], 0, 0, kjS f (mv_up I 59 0 (0 : Int32)) L)) rfl ?_
    obtain rfl := Option.some.inj h
    exact mv_G_ret rfl rfl rfl (Nat.le_refl _) trivial ⟨rfl, rfl⟩
  · rw [if_neg hc3] at h
    refine mv_G_br (tgt := 22) rfl rfl (by decide) (fun z => absurd z hc3) (fun _ => ?_)
    cases h
/-! KindJudgeModel.fits(II)I on ('c', 59) -/
def kf149 (v1 : Int32) (v2 : Int32) (I : kjI) (L : kjL) : Option (Int32 × kjI × kjL) :=
  if ((mv_up I 59 0 (0 : Int32)) 59 8) = 0 then (some ((-1 : Int32), (mv_up I 59 0 (0 : Int32)), L)) else (none)
set_option maxRecDepth 100000 in
set_option maxHeartbeats 4000000 in
theorem kf149_ok (f : Bool) (v1 : Int32) (v2 : Int32) (I : kjI) (L : kjL) (d : Nat) (r : Int32 × kjI × kjL) (h : kf149 v1 v2 I L = some r) : mv_C kjP kjSta (d + 3) 149 [.ref 59, .int v1, .int v2] (kjS f I L) (kjQwi f r) := by
  unfold kf149 at h
  refine mv_C_in kjM_149 (lc := [some (.ref 59), some (.int v1), some (.int v2)]) rfl rfl rfl ?_
  refine mv_G_run 5 (F' := (9, [some (.ref 59), some (.int v1), some (.int v2)], [.int ((mv_up I 59 0 (0 : Int32)) 59 8)], 0, 0, kjS f (mv_up I 59 0 (0 : Int32)) L)) rfl ?_
  by_cases hc1 : ((mv_up I 59 0 (0 : Int32)) 59 8) = 0
  · rw [if_pos hc1] at h
    refine mv_G_br (tgt := 33) rfl rfl (by decide) (fun _ => ?_) (fun z => absurd hc1 z)
    refine mv_G_run 1 (F' := (34, [some (.ref 59), some (.int v1), some (.int v2)], [.int (-1 : Int32)], 0, 0, kjS f (mv_up I 59 0 (0 : Int32)) L)) rfl ?_
    obtain rfl := Option.some.inj h
    exact mv_G_ret rfl rfl rfl (Nat.le_refl _) trivial ⟨rfl, rfl⟩
  · rw [if_neg hc1] at h
    refine mv_G_br (tgt := 33) rfl rfl (by decide) (fun z => absurd z hc1) (fun _ => ?_)
    cases h
/-! KindJudgeModel.meet(II)I on ('c', 59) -/
def kf150 (v1 : Int32) (v2 : Int32) (I : kjI) (L : kjL) : Option (Int32 × kjI × kjL) :=
  if ((mv_up I 59 0 (0 : Int32)) 59 8) = 0 then (some ((-1 : Int32), (mv_up I 59 0 (0 : Int32)), L)) else (none)
set_option maxRecDepth 100000 in
set_option maxHeartbeats 4000000 in
theorem kf150_ok (f : Bool) (v1 : Int32) (v2 : Int32) (I : kjI) (L : kjL) (d : Nat) (r : Int32 × kjI × kjL) (h : kf150 v1 v2 I L = some r) : mv_C kjP kjSta (d + 4) 150 [.ref 59, .int v1, .int v2] (kjS f I L) (kjQwi f r) := by
  unfold kf150 at h
  refine mv_C_in kjM_150 (lc := [some (.ref 59), some (.int v1), some (.int v2)]) rfl rfl rfl ?_
  refine mv_G_run 5 (F' := (9, [some (.ref 59), some (.int v1), some (.int v2)], [.int ((mv_up I 59 0 (0 : Int32)) 59 8)], 0, 0, kjS f (mv_up I 59 0 (0 : Int32)) L)) rfl ?_
  by_cases hc1 : ((mv_up I 59 0 (0 : Int32)) 59 8) = 0
  · rw [if_pos hc1] at h
    refine mv_G_br (tgt := 45) rfl rfl (by decide) (fun _ => ?_) (fun z => absurd hc1 z)
    refine mv_G_run 1 (F' := (46, [some (.ref 59), some (.int v1), some (.int v2)], [.int (-1 : Int32)], 0, 0, kjS f (mv_up I 59 0 (0 : Int32)) L)) rfl ?_
    obtain rfl := Option.some.inj h
    exact mv_G_ret rfl rfl rfl (Nat.le_refl _) trivial ⟨rfl, rfl⟩
  · rw [if_neg hc1] at h
    refine mv_G_br (tgt := 45) rfl rfl (by decide) (fun z => absurd z hc1) (fun _ => ?_)
    cases h
/-! KindJudgeModel.method(II)I on ('c', 59) -/
def kf151 (v1 : Int32) (v2 : Int32) (I : kjI) (L : kjL) : Option (Int32 × kjI × kjL) :=
  if ((mv_up I 59 0 (0 : Int32)) 59 8) = 0 then (some ((-1 : Int32), (mv_up I 59 0 (0 : Int32)), L)) else (none)
set_option maxRecDepth 100000 in
set_option maxHeartbeats 4000000 in
theorem kf151_ok (f : Bool) (v1 : Int32) (v2 : Int32) (I : kjI) (L : kjL) (d : Nat) (r : Int32 × kjI × kjL) (h : kf151 v1 v2 I L = some r) : mv_C kjP kjSta (d + 2) 151 [.ref 59, .int v1, .int v2] (kjS f I L) (kjQwi f r) := by
  unfold kf151 at h
  refine mv_C_in kjM_151 (lc := [some (.ref 59), some (.int v1), some (.int v2)]) rfl rfl rfl ?_
  refine mv_G_run 5 (F' := (9, [some (.ref 59), some (.int v1), some (.int v2)], [.int ((mv_up I 59 0 (0 : Int32)) 59 8)], 0, 0, kjS f (mv_up I 59 0 (0 : Int32)) L)) rfl ?_
  by_cases hc1 : ((mv_up I 59 0 (0 : Int32)) 59 8) = 0
  · rw [if_pos hc1] at h
    refine mv_G_br (tgt := 49) rfl rfl (by decide) (fun _ => ?_) (fun z => absurd hc1 z)
    refine mv_G_run 1 (F' := (50, [some (.ref 59), some (.int v1), some (.int v2)], [.int (-1 : Int32)], 0, 0, kjS f (mv_up I 59 0 (0 : Int32)) L)) rfl ?_
    obtain rfl := Option.some.inj h
    exact mv_G_ret rfl rfl rfl (Nat.le_refl _) trivial ⟨rfl, rfl⟩
  · rw [if_neg hc1] at h
    refine mv_G_br (tgt := 49) rfl rfl (by decide) (fun z => absurd z hc1) (fun _ => ?_)
    cases h
/-! KindJudgeModel.type(II)I on ('c', 59) -/
def kf152 (v1 : Int32) (v2 : Int32) (I : kjI) (L : kjL) : Option (Int32 × kjI × kjL) :=
  if ((mv_up I 59 0 (0 : Int32)) 59 8) = 0 then (some ((-1 : Int32), (mv_up I 59 0 (0 : Int32)), L)) else (none)
set_option maxRecDepth 100000 in
set_option maxHeartbeats 4000000 in
theorem kf152_ok (f : Bool) (v1 : Int32) (v2 : Int32) (I : kjI) (L : kjL) (d : Nat) (r : Int32 × kjI × kjL) (h : kf152 v1 v2 I L = some r) : mv_C kjP kjSta (d + 2) 152 [.ref 59, .int v1, .int v2] (kjS f I L) (kjQwi f r) := by
  unfold kf152 at h
  refine mv_C_in kjM_152 (lc := [some (.ref 59), some (.int v1), some (.int v2)]) rfl rfl rfl ?_
  refine mv_G_run 5 (F' := (9, [some (.ref 59), some (.int v1), some (.int v2)], [.int ((mv_up I 59 0 (0 : Int32)) 59 8)], 0, 0, kjS f (mv_up I 59 0 (0 : Int32)) L)) rfl ?_
  by_cases hc1 : ((mv_up I 59 0 (0 : Int32)) 59 8) = 0
  · rw [if_pos hc1] at h
    refine mv_G_br (tgt := 26) rfl rfl (by decide) (fun _ => ?_) (fun z => absurd hc1 z)
    refine mv_G_run 1 (F' := (27, [some (.ref 59), some (.int v1), some (.int v2)], [.int (-1 : Int32)], 0, 0, kjS f (mv_up I 59 0 (0 : Int32)) L)) rfl ?_
    obtain rfl := Option.some.inj h
    exact mv_G_ret rfl rfl rfl (Nat.le_refl _) trivial ⟨rfl, rfl⟩
  · rw [if_neg hc1] at h
    refine mv_G_br (tgt := 26) rfl rfl (by decide) (fun z => absurd z hc1) (fun _ => ?_)
    cases h
/-! KindJudgeModel.total(I)I on ('c', 59) -/
def kf153 (v1 : Int32) (I : kjI) (L : kjL) : Option (Int32 × kjI × kjL) :=
  if (v1).toInt = 0 then (if ((mv_up I 59 0 (0 : Int32)) 59 8) = 0 then (some ((0 : Int32), (mv_up I 59 0 (0 : Int32)), L)) else (none)) else (if (v1).toInt = 1 then (if ((mv_up I 59 0 (0 : Int32)) 59 8) = 0 then (some ((0 : Int32), (mv_up I 59 0 (0 : Int32)), L)) else (none)) else (if (v1).toInt = 2 then (if ((mv_up I 59 0 (0 : Int32)) 59 8) = 0 then (some ((0 : Int32), (mv_up I 59 0 (0 : Int32)), L)) else (none)) else (if (v1).toInt = 3 then (some (((mv_up I 59 0 (0 : Int32)) 59 2), (mv_up I 59 0 (0 : Int32)), L)) else (if (v1).toInt = 4 then (some (((mv_up I 59 0 (0 : Int32)) 59 1), (mv_up I 59 0 (0 : Int32)), L)) else (some ((-1 : Int32), (mv_up I 59 0 (0 : Int32)), L))))))
set_option maxRecDepth 100000 in
set_option maxHeartbeats 4000000 in
theorem kf153_ok (f : Bool) (v1 : Int32) (I : kjI) (L : kjL) (d : Nat) (r : Int32 × kjI × kjL) (h : kf153 v1 I L = some r) : mv_C kjP kjSta (d + 1) 153 [.ref 59, .int v1] (kjS f I L) (kjQwi f r) := by
  unfold kf153 at h
  refine mv_C_in kjM_153 (lc := [some (.ref 59), some (.int v1)]) rfl rfl rfl ?_
  refine mv_G_run 4 (F' := (6, [some (.ref 59), some (.int v1)], [.int v1], 0, 0, kjS f (mv_up I 59 0 (0 : Int32)) L)) rfl ?_
  by_cases hw1 : (v1).toInt = 0
  · rw [if_pos hw1] at h
    refine mv_G_sw (tgt := 40) (off := 34) rfl (by simp only [mv_sw, hw1]; rfl) (by decide) ?_
    refine mv_G_run 2 (F' := (44, [some (.ref 59), some (.int v1)], [.int ((mv_up I 59 0 (0 : Int32)) 59 8)], 0, 0, kjS f (mv_up I 59 0 (0 : Int32)) L)) rfl ?_
    by_cases hc2 : ((mv_up I 59 0 (0 : Int32)) 59 8) = 0
    · rw [if_pos hc2] at h
      refine mv_G_br (tgt := 54) rfl rfl (by decide) (fun _ => ?_) (fun z => absurd hc2 z)
      refine mv_G_run 1 (F' := (55, [some (.ref 59), some (.int v1)], [.int (0 : Int32)], 0, 0, kjS f (mv_up I 59 0 (0 : Int32)) L)) rfl ?_
      obtain rfl := Option.some.inj h
      exact mv_G_ret rfl rfl rfl (Nat.le_refl _) trivial ⟨rfl, rfl⟩
    · rw [if_neg hc2] at h
      refine mv_G_br (tgt := 54) rfl rfl (by decide) (fun z => absurd z hc2) (fun _ => ?_)
      cases h
  rw [if_neg hw1] at h
  by_cases hw3 : (v1).toInt = 1
  · rw [if_pos hw3] at h
    refine mv_G_sw (tgt := 56) (off := 50) rfl (by simp only [mv_sw, hw3]; rfl) (by decide) ?_
    refine mv_G_run 2 (F' := (60, [some (.ref 59), some (.int v1)], [.int ((mv_up I 59 0 (0 : Int32)) 59 8)], 0, 0, kjS f (mv_up I 59 0 (0 : Int32)) L)) rfl ?_
    by_cases hc4 : ((mv_up I 59 0 (0 : Int32)) 59 8) = 0
    · rw [if_pos hc4] at h
      refine mv_G_br (tgt := 70) rfl rfl (by decide) (fun _ => ?_) (fun z => absurd hc4 z)
      refine mv_G_run 1 (F' := (71, [some (.ref 59), some (.int v1)], [.int (0 : Int32)], 0, 0, kjS f (mv_up I 59 0 (0 : Int32)) L)) rfl ?_
      obtain rfl := Option.some.inj h
      exact mv_G_ret rfl rfl rfl (Nat.le_refl _) trivial ⟨rfl, rfl⟩
    · rw [if_neg hc4] at h
      refine mv_G_br (tgt := 70) rfl rfl (by decide) (fun z => absurd z hc4) (fun _ => ?_)
      cases h
  rw [if_neg hw3] at h
  by_cases hw5 : (v1).toInt = 2
  · rw [if_pos hw5] at h
    refine mv_G_sw (tgt := 72) (off := 66) rfl (by simp only [mv_sw, hw5]; rfl) (by decide) ?_
    refine mv_G_run 2 (F' := (76, [some (.ref 59), some (.int v1)], [.int ((mv_up I 59 0 (0 : Int32)) 59 8)], 0, 0, kjS f (mv_up I 59 0 (0 : Int32)) L)) rfl ?_
    by_cases hc6 : ((mv_up I 59 0 (0 : Int32)) 59 8) = 0
    · rw [if_pos hc6] at h
      refine mv_G_br (tgt := 86) rfl rfl (by decide) (fun _ => ?_) (fun z => absurd hc6 z)
      refine mv_G_run 1 (F' := (87, [some (.ref 59), some (.int v1)], [.int (0 : Int32)], 0, 0, kjS f (mv_up I 59 0 (0 : Int32)) L)) rfl ?_
      obtain rfl := Option.some.inj h
      exact mv_G_ret rfl rfl rfl (Nat.le_refl _) trivial ⟨rfl, rfl⟩
    · rw [if_neg hc6] at h
      refine mv_G_br (tgt := 86) rfl rfl (by decide) (fun z => absurd z hc6) (fun _ => ?_)
      cases h
  rw [if_neg hw5] at h
  by_cases hw7 : (v1).toInt = 3
  · rw [if_pos hw7] at h
    refine mv_G_sw (tgt := 88) (off := 82) rfl (by simp only [mv_sw, hw7]; rfl) (by decide) ?_
    refine mv_G_run 2 (F' := (92, [some (.ref 59), some (.int v1)], [.int ((mv_up I 59 0 (0 : Int32)) 59 2)], 0, 0, kjS f (mv_up I 59 0 (0 : Int32)) L)) rfl ?_
    obtain rfl := Option.some.inj h
    exact mv_G_ret rfl rfl rfl (Nat.le_refl _) trivial ⟨rfl, rfl⟩
  rw [if_neg hw7] at h
  by_cases hw8 : (v1).toInt = 4
  · rw [if_pos hw8] at h
    refine mv_G_sw (tgt := 93) (off := 87) rfl (by simp only [mv_sw, hw8]; rfl) (by decide) ?_
    refine mv_G_run 2 (F' := (97, [some (.ref 59), some (.int v1)], [.int ((mv_up I 59 0 (0 : Int32)) 59 1)], 0, 0, kjS f (mv_up I 59 0 (0 : Int32)) L)) rfl ?_
    obtain rfl := Option.some.inj h
    exact mv_G_ret rfl rfl rfl (Nat.le_refl _) trivial ⟨rfl, rfl⟩
  rw [if_neg hw8] at h
  refine mv_G_sw (tgt := 98) (off := 92) rfl (by
    have hz9 : ((v1).toInt < 0 ∨ 4 < (v1).toInt) := by omega
    rcases hz9 with hz9
    · exact if_pos hz9) (by decide) ?_
  refine mv_G_run 1 (F' := (99, [some (.ref 59), some (.int v1)], [.int (-1 : Int32)], 0, 0, kjS f (mv_up I 59 0 (0 : Int32)) L)) rfl ?_
  obtain rfl := Option.some.inj h
  exact mv_G_ret rfl rfl rfl (Nat.le_refl _) trivial ⟨rfl, rfl⟩
end
section
/-! Words: an int of the machine as a whole number; what its instructions do there. -/
def w (z : Int) : Int32 := Int32.ofInt z
theorem w_toInt {z : Int} (h : -2147483648 ≤ z ∧ z < 2147483648) : (w z).toInt = z := by
  unfold w
  rw [Int32.toInt_ofInt]
  simp only [Int32.size]
  rw [Int.bmod_eq_of_le] <;> omega
theorem w_of (x : Int32) : w x.toInt = x := Int32.ofInt_toInt x
theorem w_rng (x : Int32) : -2147483648 ≤ x.toInt ∧ x.toInt < 2147483648 := by
  have h1 := Int32.le_toInt x
  have h2 := Int32.toInt_lt x
  omega
theorem w_add (a b : Int) : w a + w b = w (a + b) := (Int32.ofInt_add a b).symm
theorem w_sub (a b : Int) : w a - w b = w (a - b) := (Int32.ofInt_sub a b).symm
theorem w_mul (a b : Int) : w a * w b = w (a * b) := (Int32.ofInt_mul a b).symm
theorem w_neg (a : Int) : -(w a) = w (-a) := (Int32.ofInt_neg a).symm
theorem w_lt {a b : Int} (ha : -2147483648 ≤ a ∧ a < 2147483648) (hb : -2147483648 ≤ b ∧ b < 2147483648) : (w a < w b) = (a < b) := by
  rw [Int32.lt_iff_toInt_lt, w_toInt ha, w_toInt hb]
theorem w_le {a b : Int} (ha : -2147483648 ≤ a ∧ a < 2147483648) (hb : -2147483648 ≤ b ∧ b < 2147483648) : (w a ≤ w b) = (a ≤ b) := by
  rw [Int32.le_iff_toInt_le, w_toInt ha, w_toInt hb]
theorem w_eq {a b : Int} (ha : -2147483648 ≤ a ∧ a < 2147483648) (hb : -2147483648 ≤ b ∧ b < 2147483648) : (w a = w b) = (a = b) := by
  rw [← Int32.toInt_inj, w_toInt ha, w_toInt hb]
theorem w_clamp {a : Int} (ha : -2147483648 ≤ a ∧ a < 2147483648) : (w a).toNatClampNeg = a.toNat := by
  show (w a).toInt.toNat = _
  rw [w_toInt ha]
theorem w_in {a : Int} {n : Nat} (ha : -2147483648 ≤ a ∧ a < 2147483648) : mv_in (w a) n = decide (0 ≤ a ∧ a < n) := by
  unfold mv_in
  rw [w_clamp ha]
  have h0 : (0 : Int32) = w 0 := rfl
  rw [h0]
  simp only [w_lt ha (show -2147483648 ≤ (0:Int) ∧ (0:Int) < 2147483648 by omega)]
  rw [Bool.eq_iff_iff, Bool.and_eq_true, Nat.blt_eq]
  simp only [Bool.not_eq_true', decide_eq_false_iff_not, decide_eq_true_eq]
  omega
theorem w_in_t {a : Int} {n : Nat} (ha : 0 ≤ a ∧ a < n) (hn : n < 2147483648 := by decide) : mv_in (w a) n = true := by
  rw [w_in (by omega)]
  simp [ha]

theorem w_lit (n : Nat) : (OfNat.ofNat n : Int32) = w (OfNat.ofNat n : Int) := by
  show Int32.ofNat n = Int32.ofInt (n : Int)
  exact (Int32.ofInt_eq_ofNat).symm
theorem kb_inj (b : Bool) (i j : Nat) : (kb b i = kb b j) = (i = j) := by
  cases b <;> simp [kb]
theorem kb_lt (b : Bool) (i : Nat) (h : i < 30) : kb b i < 59 := by
  cases b <;> simp [kb] <;> omega
theorem kb_pos (b : Bool) (i : Nat) (h : 0 < i) : 0 < kb b i := by
  cases b <;> simp [kb] <;> omega
theorem kb_ne_not (b : Bool) (i j : Nat) (hi : 0 < i ∧ i < 30) (hj : 0 < j ∧ j < 30) : kb b i ≠ kb (!b) j := by
  cases b <;> simp [kb] <;> omega
theorem bif_in {α : Type} {a : Int} {n : Nat} {x y : α} (ha : 0 ≤ a ∧ a < n) (hn : n < 2147483648) : (bif mv_in (w a) n then x else y) = x := by
  rw [w_in_t ha hn]
  rfl
theorem sbind {α β : Type} (x : α) (g : α → Option β) : (some x).bind g = g x := by simp
theorem up_eq (I : kjI) (k j : Nat) (v : Int32) : mv_up I k j v k j = v := by simp [mv_up]
theorem up_k {I : kjI} {k j k' j' : Nat} {v : Int32} (h : k' ≠ k) : mv_up I k j v k' j' = I k' j' := by simp [mv_up, h]
theorem up_j {I : kjI} {k j k' j' : Nat} {v : Int32} (h : j' ≠ j) : mv_up I k j v k' j' = I k' j' := by
  unfold mv_up
  split <;> simp [h]
theorem up1_ne {I : kjI} {k j q i : Nat} {v : Int32} (h : ¬ (q = k ∧ i = j)) : mv_up I k j v q i = I q i := by
  unfold mv_up
  by_cases h1 : q = k
  · rw [if_pos h1, if_neg (fun z => h ⟨h1, z⟩)]
  · rw [if_neg h1]
theorem up3_ne {I : kjI} {k j k2 j2 k3 j3 q i : Nat} {v v2 v3 : Int32} (h : ¬ (q = k ∧ i = j) ∧ ¬ (q = k2 ∧ i = j2) ∧ ¬ (q = k3 ∧ i = j3)) : mv_up (mv_up (mv_up I k j v) k2 j2 v2) k3 j3 v3 q i = I q i := by
  rw [up1_ne h.2.2, up1_ne h.2.1, up1_ne h.1]
theorem up_self (I : kjI) (k j : Nat) : mv_up I k j (I k j) = I := by
  funext a c
  unfold mv_up
  split
  · split
    · subst_vars; rfl
    · rfl
  · rfl
theorem kb_ne {b : Bool} {i j : Nat} (h : i ≠ j) : kb b i ≠ kb b j := by rw [Ne, kb_inj]; exact h
theorem kb_59 {b : Bool} {i : Nat} {j : Nat} (h : i < 30 ∧ 59 ≤ j) : kb b i ≠ j := by have := kb_lt b i h.1; omega
theorem kb_59' {b : Bool} {i : Nat} {j : Nat} (h : i < 30 ∧ 59 ≤ j) : j ≠ kb b i := by have := kb_lt b i h.1; omega
end
section
/-! Bytes, and put. -/
theorem k_byte_eq (x : Int64) : (Int8.toInt32 (Int32.toInt8 (Int8.toInt32 (Int32.toInt8 (Int64.toInt32 x))))) &&& 255 = Int64.toInt32 (x &&& 255) := by
  apply Int32.toBitVec_inj.mp
  simp only [Int32.toBitVec_and, Int8.toBitVec_toInt32, Int32.toBitVec_toInt8, Int64.toBitVec_toInt32, Int64.toBitVec_and]
  apply BitVec.eq_of_getLsbD_eq
  intro i hi
  simp only [BitVec.getLsbD_and, BitVec.getLsbD_setWidth, BitVec.getLsbD_signExtend]
  have h1 : (255 : Int32).toBitVec = BitVec.ofNat 32 255 := rfl
  have h2 : (255 : Int64).toBitVec = BitVec.ofNat 64 255 := rfl
  rw [h1, h2]
  by_cases h : i < 8
  · have h3 : i < 64 := by omega
    simp only [hi, h, BitVec.getLsbD_ofNat, h3, decide_true, Bool.true_and, if_true]
  · have e : (255 : Nat).testBit i = false := by
      apply Nat.testBit_lt_two_pow
      calc 255 < 2 ^ 8 := by decide
        _ ≤ 2 ^ i := Nat.pow_le_pow_right (by decide) (by omega)
    simp [BitVec.getLsbD_ofNat, e]
    omega
theorem k_byte_rng (x : Int64) : ∃ v : Nat, v < 256 ∧ Int64.toInt32 (x &&& 255) = w v := by
  refine ⟨(x &&& 255).toBitVec.toNat, ?_, ?_⟩
  · simp only [Int64.toBitVec_and, BitVec.toNat_and]
    have : (255 : Int64).toBitVec.toNat = 255 := by decide
    rw [this]
    exact Nat.lt_of_le_of_lt Nat.and_le_right (by decide)
  · apply Int32.toBitVec_inj.mp
    show _ = (Int32.ofInt _).toBitVec
    rw [Int64.toBitVec_toInt32]
    simp
    rw [BitVec.signExtend_eq_setWidth_of_le _ (by decide)]
/-- n bytes B lie in the row of a Book -/
def k_row (b : Bool) (n : Nat) (B : Nat → Nat) (I : kjI) : Prop := n ≤ 1500 ∧ I (kb b 2) 1 = w n ∧ ∀ i, i < n → I (kb b 3) i &&& 255 = w (B i) ∧ B i < 256
def k_mrow (n : Nat) (B : Nat → Nat) (J : kjI) : Prop := J 59 2 = w n ∧ ∀ i, i < n → J 60 i = w (B i)
def k_fr (Z : Nat → Prop) (I I' : kjI) : Prop := ∀ k, ¬ Z k → I' k = I k
theorem k_put_loop (b : Bool) (N : Nat) (x : Int64) (L L' : kjL) : ∀ (k m m' : Nat) (n : Nat) (B : Nat → Nat) (I J : kjI), k < m → k < m' → k ≤ 8 → n + k ≤ 1500 → k_row b n B I → k_mrow n B J →
    ∃ (B' : Nat → Nat) (I' J' : kjI), kf20_33 b N m x (w (8 * (k : Int) - 8)) I L = some (1, I', L) ∧ kf104_35 N m' x (w ((k : Int) - 1)) J L' = some (1, J', L') ∧ k_row b (n + k) B' I' ∧ k_mrow (n + k) B' J' ∧ k_fr (fun q => q = kb b 2 ∨ q = kb b 3) I I' ∧ k_fr (fun q => q = 59 ∨ q = 60) J J' ∧ (∀ j, j ≠ 2 → J' 59 j = J 59 j) := by
  intro k
  induction k with
  | zero =>
    intro m m' n B I J h1 h2 h3 h4 hr hm
    obtain ⟨m, rfl⟩ : ∃ q, m = q + 1 := ⟨m - 1, by omega⟩
    obtain ⟨m', rfl⟩ : ∃ q, m' = q + 1 := ⟨m' - 1, by omega⟩
    refine ⟨B, I, J, ?_, ?_, hr, hm, fun _ _ => rfl, fun _ _ => rfl, fun _ _ => rfl⟩
    · unfold kf20_33
      rw [if_pos (by (simp (disch := omega) only [w_lit, w_neg, w_add, w_sub, w_mul, w_lt, w_le, w_eq, w_clamp, w_in, not_true_eq_false, not_false_eq_true, Classical.not_not]); omega)]
    · unfold kf104_35
      rw [if_pos (by (simp (disch := omega) only [w_lit, w_neg, w_add, w_sub, w_mul, w_lt, w_le, w_eq, w_clamp, w_in, not_true_eq_false, not_false_eq_true, Classical.not_not]); omega)]
  | succ k ih =>
    intro m m' n B I J h1 h2 h3 h4 hr hm
    obtain ⟨m, rfl⟩ : ∃ q, m = q + 1 := ⟨m - 1, by omega⟩
    obtain ⟨m', rfl⟩ : ∃ q, m' = q + 1 := ⟨m' - 1, by omega⟩
    obtain ⟨hr1, hr2, hr3⟩ := hr
    obtain ⟨hm1, hm2⟩ := hm
    unfold kf20_33 kf104_35
    have hx : Int32.toInt64 ((8 : Int32) * w (((k + 1 : Nat) : Int) - 1)) = Int32.toInt64 (w (8 * ((k + 1 : Nat) : Int) - 8)) := by
      (simp only [w_lit, w_neg, w_add, w_sub, w_mul])
      congr 2
      omega
    rw [if_neg (by (simp (disch := omega) only [w_lit, w_neg, w_add, w_sub, w_mul, w_lt, w_le, w_eq, w_clamp, w_in, not_true_eq_false, not_false_eq_true, Classical.not_not]); omega), if_neg (by (simp (disch := omega) only [w_lit, w_neg, w_add, w_sub, w_mul, w_lt, w_le, w_eq, w_clamp, w_in, not_true_eq_false, not_false_eq_true, Classical.not_not]); omega), hx, hr2, hm1, w_in_t (by omega)]
    simp only [cond_true, w_clamp (show -2147483648 ≤ (n : Int) ∧ (n : Int) < 2147483648 by omega)]
    generalize x >>> (Int32.toInt64 (w (8 * ((k + 1 : Nat) : Int) - 8)) &&& 63) = y
    obtain ⟨v, hv1, hv2⟩ := k_byte_rng y
    have hv3 := k_byte_eq y
    have e1 : w (8 * ((k + 1 : Nat) : Int) - 8) + (-8 : Int32) = w (8 * (k : Int) - 8) := by
      (simp only [w_lit, w_neg, w_add, w_sub, w_mul])
      congr 1
      omega
    have e2 : w (((k + 1 : Nat) : Int) - 1) + (-1 : Int32) = w ((k : Int) - 1) := by
      (simp only [w_lit, w_neg, w_add, w_sub, w_mul])
      congr 1
      omega
    have e3 : w (n : Int) + 1 = w ((n + 1 : Nat) : Int) := by
      (simp only [w_lit, w_neg, w_add, w_sub, w_mul])
      congr 1
    have ne1 : (kb b 2 = kb b 3) = False := by rw [kb_inj]; simp
    have ne2 : (kb b 3 = kb b 2) = False := by rw [kb_inj]; simp
    rw [e1, e2, hv2]
    generalize hI1 : mv_up (mv_up I (kb b 3) (Int.toNat n) (Int8.toInt32 (Int32.toInt8 (Int8.toInt32 (Int32.toInt8 (Int64.toInt32 y)))))) (kb b 2) 1 (((mv_up I (kb b 3) (Int.toNat n) (Int8.toInt32 (Int32.toInt8 (Int8.toInt32 (Int32.toInt8 (Int64.toInt32 y)))))) (kb b 2) 1) + (1 : Int32)) = I1
    generalize hJ1 : mv_up (mv_up J 60 (Int.toNat n) (w v)) 59 2 (((mv_up J 60 (Int.toNat n) (w v)) 59 2) + (1 : Int32)) = J1
    have a1 : k_row b (n + 1) (fun i => if i = n then v else B i) I1 := by
      subst hI1
      refine ⟨by omega, ?_, ?_⟩
      · simp only [mv_up, ne1, if_true, if_false, hr2, e3]
      · intro i hi
        simp only [mv_up, ne2, if_true, if_false, Int.toNat_natCast]
        by_cases hin : i = n
        · simp only [hin, if_true]
          exact ⟨by rw [hv3, hv2], hv1⟩
        · simp only [hin, if_false]
          exact hr3 i (by omega)
    have a2 : k_mrow (n + 1) (fun i => if i = n then v else B i) J1 := by
      subst hJ1
      refine ⟨?_, ?_⟩
      · simp [mv_up, hm1, e3]
      · intro i hi
        simp only [mv_up, if_true, Int.toNat_natCast]
        by_cases hin : i = n
        · simp [hin]
        · simp [hin]
          exact hm2 i (by omega)
    obtain ⟨B', I', J', q1, q2, q3, q4, q5, q6, q7⟩ := ih m m' (n + 1) _ I1 J1 (by omega) (by omega) (by omega) (by omega) a1 a2
    refine ⟨B', I', J', q1, q2, by rw [show n + (k + 1) = n + 1 + k by omega]; exact q3, by rw [show n + (k + 1) = n + 1 + k by omega]; exact q4, ?_, ?_, ?_⟩
    · intro q hq
      rw [q5 q hq]
      simp only [not_or] at hq
      funext j
      simp only [← hI1, mv_up, hq.1, hq.2, if_false]
    · intro q hq
      rw [q6 q hq]
      simp only [not_or] at hq
      funext j
      simp only [← hJ1, mv_up, hq.1, hq.2, if_false]
    · intro j hj
      rw [q7 j hj]
      simp [← hJ1, mv_up, hj]
theorem k_put (b : Bool) (N : Nat) (hN : 9 ≤ N) (x : Int64) (v : Int32) (L L' : kjL) (n : Nat) (B : Nat → Nat) (I J : kjI) (hr : k_row b n B I) (hm : k_mrow n B J) :
    ∃ (r : Int32) (n' : Nat) (B' : Nat → Nat) (I' J' : kjI), kf20 b N x v I L = some (r, I', L) ∧ kf104 N x v J L' = some (r, J', L') ∧ (r = 0 ∨ r = 1) ∧ k_row b n' B' I' ∧ k_mrow n' B' J' ∧ k_fr (fun q => q = kb b 2 ∨ q = kb b 3) I I' ∧ k_fr (fun q => q = 59 ∨ q = 60) J J' ∧ (∀ j, j ≠ 2 → j ≠ 0 → J' 59 j = J 59 j) ∧ J' 59 0 = 0 := by
  have hm' : k_mrow n B (mv_up J 59 0 0) := ⟨by simp [mv_up]; exact hm.1, fun i hi => by simp [mv_up]; exact hm.2 i hi⟩
  have hf0 : k_fr (fun q => q = 59 ∨ q = 60) J (mv_up J 59 0 0) := by
    intro q hq
    simp only [not_or] at hq
    funext j
    simp [mv_up, hq.1]
  have hz : ∀ j, j ≠ 2 → j ≠ 0 → (mv_up J 59 0 0) 59 j = J 59 j := fun j _ h => by simp [mv_up, h]
  have hout : kf20 b N x v I L = some (0, I, L) → kf104 N x v J L' = some (0, mv_up J 59 0 0, L') → ∃ (r : Int32) (n' : Nat) (B' : Nat → Nat) (I' J' : kjI), kf20 b N x v I L = some (r, I', L) ∧ kf104 N x v J L' = some (r, J', L') ∧ (r = 0 ∨ r = 1) ∧ k_row b n' B' I' ∧ k_mrow n' B' J' ∧ k_fr (fun q => q = kb b 2 ∨ q = kb b 3) I I' ∧ k_fr (fun q => q = 59 ∨ q = 60) J J' ∧ (∀ j, j ≠ 2 → j ≠ 0 → J' 59 j = J 59 j) ∧ J' 59 0 = 0 :=
    fun h1 h2 => ⟨0, n, B, I, _, h1, h2, Or.inl rfl, hr, hm', fun _ _ => rfl, hf0, hz, by simp [mv_up]⟩
  obtain ⟨z, hz1, rfl⟩ : ∃ z : Int, (-2147483648 ≤ z ∧ z < 2147483648) ∧ v = w z := ⟨v.toInt, w_rng v, (w_of v).symm⟩
  have hs1 : (mv_up J 59 0 0) 59 2 = w n := hm'.1
  by_cases c1 : z < 1
  · refine hout ?_ ?_
    · unfold kf20; rw [if_pos (by (simp (disch := omega) only [w_lit, w_neg, w_add, w_sub, w_mul, w_lt, w_le, w_eq, w_clamp, w_in, not_true_eq_false, not_false_eq_true, Classical.not_not]); exact c1)]
    · unfold kf104; rw [if_pos (by (simp (disch := omega) only [w_lit, w_neg, w_add, w_sub, w_mul, w_lt, w_le, w_eq, w_clamp, w_in, not_true_eq_false, not_false_eq_true, Classical.not_not]); exact c1)]
  by_cases c2 : 8 < z
  · refine hout ?_ ?_
    · unfold kf20; rw [if_neg (by (simp (disch := omega) only [w_lit, w_neg, w_add, w_sub, w_mul, w_lt, w_le, w_eq, w_clamp, w_in, not_true_eq_false, not_false_eq_true, Classical.not_not]); exact c1), if_pos (by (simp (disch := omega) only [w_lit, w_neg, w_add, w_sub, w_mul, w_lt, w_le, w_eq, w_clamp, w_in, not_true_eq_false, not_false_eq_true, Classical.not_not]); exact c2)]
    · unfold kf104; rw [if_neg (by (simp (disch := omega) only [w_lit, w_neg, w_add, w_sub, w_mul, w_lt, w_le, w_eq, w_clamp, w_in, not_true_eq_false, not_false_eq_true, Classical.not_not]); exact c1), if_pos (by (simp (disch := omega) only [w_lit, w_neg, w_add, w_sub, w_mul, w_lt, w_le, w_eq, w_clamp, w_in, not_true_eq_false, not_false_eq_true, Classical.not_not]); exact c2)]
  have hn := hr.1
  by_cases c3 : z ≤ 1500 - n
  · obtain ⟨k, rfl⟩ : ∃ k : Nat, z = k := ⟨z.toNat, by omega⟩
    obtain ⟨B', I', J', q1, q2, q3, q4, q5, q6, q7⟩ := k_put_loop b N x L L' k N N n B I (mv_up J 59 0 0) (by omega) (by omega) (by omega) (by omega) hr hm'
    refine ⟨1, n + k, B', I', J', ?_, ?_, Or.inr rfl, q3, q4, q5, ?_, ?_, ?_⟩
    · unfold kf20
      rw [if_neg (by (simp (disch := omega) only [w_lit, w_neg, w_add, w_sub, w_mul, w_lt, w_le, w_eq, w_clamp, w_in, not_true_eq_false, not_false_eq_true, Classical.not_not]); exact c1), if_neg (by (simp (disch := omega) only [w_lit, w_neg, w_add, w_sub, w_mul, w_lt, w_le, w_eq, w_clamp, w_in, not_true_eq_false, not_false_eq_true, Classical.not_not]); exact c2), hr.2.1, if_pos (by (simp (disch := omega) only [w_lit, w_neg, w_add, w_sub, w_mul, w_lt, w_le, w_eq, w_clamp, w_in, not_true_eq_false, not_false_eq_true, Classical.not_not]); omega), ← q1]
      congr 1
      (simp only [w_lit, w_neg, w_add, w_sub, w_mul])
      congr 1
      omega
    · unfold kf104
      rw [if_neg (by (simp (disch := omega) only [w_lit, w_neg, w_add, w_sub, w_mul, w_lt, w_le, w_eq, w_clamp, w_in, not_true_eq_false, not_false_eq_true, Classical.not_not]); exact c1), if_neg (by (simp (disch := omega) only [w_lit, w_neg, w_add, w_sub, w_mul, w_lt, w_le, w_eq, w_clamp, w_in, not_true_eq_false, not_false_eq_true, Classical.not_not]); exact c2), hs1, if_pos (by (simp (disch := omega) only [w_lit, w_neg, w_add, w_sub, w_mul, w_lt, w_le, w_eq, w_clamp, w_in, not_true_eq_false, not_false_eq_true, Classical.not_not]); omega), ← q2]
      congr 1
      (simp only [w_lit, w_neg, w_add, w_sub, w_mul])
    · intro q hq
      rw [q6 q hq, hf0 q hq]
    · intro j h1 h2
      rw [q7 j h1, hz j h1 h2]
    · rw [q7 0 (by decide)]
      simp [mv_up]
  · refine hout ?_ ?_
    · unfold kf20; rw [if_neg (by (simp (disch := omega) only [w_lit, w_neg, w_add, w_sub, w_mul, w_lt, w_le, w_eq, w_clamp, w_in, not_true_eq_false, not_false_eq_true, Classical.not_not]); exact c1), if_neg (by (simp (disch := omega) only [w_lit, w_neg, w_add, w_sub, w_mul, w_lt, w_le, w_eq, w_clamp, w_in, not_true_eq_false, not_false_eq_true, Classical.not_not]); exact c2), hr.2.1, if_neg (by (simp (disch := omega) only [w_lit, w_neg, w_add, w_sub, w_mul, w_lt, w_le, w_eq, w_clamp, w_in, not_true_eq_false, not_false_eq_true, Classical.not_not]); omega)]
    · unfold kf104; rw [if_neg (by (simp (disch := omega) only [w_lit, w_neg, w_add, w_sub, w_mul, w_lt, w_le, w_eq, w_clamp, w_in, not_true_eq_false, not_false_eq_true, Classical.not_not]); exact c1), if_neg (by (simp (disch := omega) only [w_lit, w_neg, w_add, w_sub, w_mul, w_lt, w_le, w_eq, w_clamp, w_in, not_true_eq_false, not_false_eq_true, Classical.not_not]); exact c2), hs1, if_neg (by (simp (disch := omega) only [w_lit, w_neg, w_add, w_sub, w_mul, w_lt, w_le, w_eq, w_clamp, w_in, not_true_eq_false, not_false_eq_true, Classical.not_not]); omega)]
end
section
/-! Checks; the tables of large methods in pieces. -/
def mv_rowB (tb : List Jvm.Cond) (cl : List vw_C) (kd : List (List Nat)) (prog : List mv_Me) (stn : List (String × String × String)) (M : mv_Me) (e : mv_E) : Bool := decide (decode (mv_cc M) e.1 = .ok (e.2.1, e.2.2.1)) && mv_rwB tb cl kd prog stn M e.2.1 e.2.2.1 e.2.2.2.1 e.2.2.2.2.1 e.2.2.2.2.2.1 e.2.2.2.2.2.2
def mv_hdB (tb : List Jvm.Cond) (M : mv_Me) : Bool := Jvm.plainName M.1.cls && (decide (M.1.cls = mv_ow M) && (mv_has tb (.code M.1 (mv_cc M) (mv_ml M) (mv_rt M)) && (mv_has tb (.initialized M.1.cls) && (decide (M.1.cls ≠ "java/lang/invoke/MethodHandle") && decide (M.1.cls ≠ "java/lang/invoke/VarHandle")))))
theorem mv_mkB_of {tb : List Jvm.Cond} {cl : List vw_C} {kd : List (List Nat)} {prog : List mv_Me} {stn : List (String × String × String)} {M : mv_Me} (h : mv_hdB tb M = true) (h2 : (mv_tb M).all (mv_rowB tb cl kd prog stn M) = true) : mv_mkB tb cl kd prog stn M = true := by
  unfold mv_hdB at h
  unfold mv_mkB
  simp only [Bool.and_eq_true] at h ⊢
  obtain ⟨a1, a2, a3, a4, a5, a6⟩ := h
  exact ⟨a1, a2, a3, a4, a5, a6, h2⟩
theorem mv_all_split {α : Type} {f : α → Bool} {l : List α} (n : Nat) (h1 : (l.take n).all f = true) (h2 : (l.drop n).all f = true) : l.all f = true := by
  rw [← List.take_append_drop n l, List.all_append, h1, h2]
  rfl
def kjW_0 : List Jvm.Cond := [(Jvm.Cond.code ({ cls := "KindJudge", name := "<init>", desc := "()V" } : Jvm.MethodName) prog_1_method_1_code (1 : Nat) (Option.none : Option Jvm.ClassFile.FieldType)), (Jvm.Cond.initialized "KindJudge"), (Jvm.Cond.methodLink "KindJudge" (1 : Nat) ({ cls := "java/lang/Object", name := "<init>", desc := "()V" } : Jvm.MethodName)), (Jvm.Cond.instanceMethod ({ cls := "java/lang/Object", name := "<init>", desc := "()V" } : Jvm.MethodName)), (Jvm.Cond.code ({ cls := "java/lang/Object", name := "<init>", desc := "()V" } : Jvm.MethodName) object_method_1_code (1 : Nat) (Option.none : Option Jvm.ClassFile.FieldType)), (Jvm.Cond.classLink "KindJudge" (7 : Nat) "KindJudge$Book"), (Jvm.Cond.instantiable "KindJudge$Book" (4 : Nat)), (Jvm.Cond.initialized "KindJudge$Book"), (Jvm.Cond.methodLink "KindJudge" (9 : Nat) ({ cls := "KindJudge$Book", name := "<init>", desc := "()V" } : Jvm.MethodName)), (Jvm.Cond.instanceMethod ({ cls := "KindJudge$Book", name := "<init>", desc := "()V" } : Jvm.MethodName)), (Jvm.Cond.fieldLink "KindJudge" (10 : Nat) "KindJudge" "file" "LKindJudge$Book;"), (Jvm.Cond.fieldLink "KindJudge" (16 : Nat) "KindJudge" "draft" "LKindJudge$Book;")]
set_option maxRecDepth 100000 in
set_option maxHeartbeats 4000000 in
theorem kjS_0 : ∀ w ∈ kjW_0, w ∈ lw_tbl := mv_sub_of [85, 65, 86, 87, 88, 89, 90, 66, 91, 92, 294, 295] (by decide +kernel)
set_option maxRecDepth 100000 in
set_option maxHeartbeats 4000000 in
theorem kjK_0 : mv_mkB kjW_0 kjCl kjKd kjP kjStn kjM_0 = true := by decide +kernel
def kjW_1 : List Jvm.Cond := [(Jvm.Cond.code ({ cls := "KindJudge", name := "put", desc := "(JI)Z" } : Jvm.MethodName) prog_1_method_2_code (4 : Nat) (Option.some Jvm.ClassFile.FieldType.boolean)), (Jvm.Cond.initialized "KindJudge"), (Jvm.Cond.fieldLink "KindJudge" (16 : Nat) "KindJudge" "draft" "LKindJudge$Book;"), (Jvm.Cond.fieldLink "KindJudge" (19 : Nat) "KindJudge$Book" "bytes" "LKindJudge$Bytes;"), (Jvm.Cond.methodLink "KindJudge" (23 : Nat) ({ cls := "KindJudge$Bytes", name := "append", desc := "(JI)Z" } : Jvm.MethodName)), (Jvm.Cond.instanceMethod ({ cls := "KindJudge$Bytes", name := "append", desc := "(JI)Z" } : Jvm.MethodName)), (Jvm.Cond.selects "KindJudge$Bytes" ({ cls := "KindJudge$Bytes", name := "append", desc := "(JI)Z" } : Jvm.MethodName) ({ cls := "KindJudge$Bytes", name := "append", desc := "(JI)Z" } : Jvm.MethodName))]
set_option maxRecDepth 100000 in
set_option maxHeartbeats 4000000 in
theorem kjS_1 : ∀ w ∈ kjW_1, w ∈ lw_tbl := mv_sub_of [316, 65, 295, 278, 317, 318, 319] (by decide +kernel)
set_option maxRecDepth 100000 in
set_option maxHeartbeats 4000000 in
theorem kjK_1 : mv_mkB kjW_1 kjCl kjKd kjP kjStn kjM_1 = true := by decide +kernel
def kjW_2 : List Jvm.Cond := [(Jvm.Cond.code ({ cls := "KindJudge", name := "load", desc := "()I" } : Jvm.MethodName) prog_1_method_3_code (2 : Nat) (Option.some Jvm.ClassFile.FieldType.int)), (Jvm.Cond.initialized "KindJudge"), (Jvm.Cond.methodLink "KindJudge" (29 : Nat) ({ cls := "KindJudge", name := "findFault", desc := "()V" } : Jvm.MethodName)), (Jvm.Cond.instanceMethod ({ cls := "KindJudge", name := "findFault", desc := "()V" } : Jvm.MethodName)), (Jvm.Cond.selects "KindJudge" ({ cls := "KindJudge", name := "findFault", desc := "()V" } : Jvm.MethodName) ({ cls := "KindJudge", name := "findFault", desc := "()V" } : Jvm.MethodName)), (Jvm.Cond.fieldLink "KindJudge" (32 : Nat) "KindJudge" "faultKind" "I"), (Jvm.Cond.fieldLink "KindJudge" (16 : Nat) "KindJudge" "draft" "LKindJudge$Book;"), (Jvm.Cond.fieldLink "KindJudge" (19 : Nat) "KindJudge$Book" "bytes" "LKindJudge$Bytes;"), (Jvm.Cond.methodLink "KindJudge" (36 : Nat) ({ cls := "KindJudge$Bytes", name := "clear", desc := "()V" } : Jvm.MethodName)), (Jvm.Cond.instanceMethod ({ cls := "KindJudge$Bytes", name := "clear", desc := "()V" } : Jvm.MethodName)), (Jvm.Cond.selects "KindJudge$Bytes" ({ cls := "KindJudge$Bytes", name := "clear", desc := "()V" } : Jvm.MethodName) ({ cls := "KindJudge$Bytes", name := "clear", desc := "()V" } : Jvm.MethodName))]
set_option maxRecDepth 100000 in
set_option maxHeartbeats 4000000 in
theorem kjS_2 : ∀ w ∈ kjW_2, w ∈ lw_tbl := mv_sub_of [529, 65, 530, 532, 5, 297, 295, 278, 726, 727, 728] (by decide +kernel)
set_option maxRecDepth 100000 in
set_option maxHeartbeats 4000000 in
theorem kjK_2 : mv_mkB kjW_2 kjCl kjKd kjP kjStn kjM_2 = true := by decide +kernel
def kjW_3 : List Jvm.Cond := [(Jvm.Cond.code ({ cls := "KindJudge", name := "fault", desc := "(I)I" } : Jvm.MethodName) prog_1_method_4_code (2 : Nat) (Option.some Jvm.ClassFile.FieldType.int)), (Jvm.Cond.initialized "KindJudge"), (Jvm.Cond.fieldLink "KindJudge" (32 : Nat) "KindJudge" "faultKind" "I"), (Jvm.Cond.fieldLink "KindJudge" (64 : Nat) "KindJudge" "faultPlace" "I"), (Jvm.Cond.fieldLink "KindJudge" (67 : Nat) "KindJudge" "faultMethod" "I")]
set_option maxRecDepth 100000 in
set_option maxHeartbeats 4000000 in
theorem kjS_3 : ∀ w ∈ kjW_3, w ∈ lw_tbl := mv_sub_of [324, 65, 297, 298, 299] (by decide +kernel)
set_option maxRecDepth 100000 in
set_option maxHeartbeats 4000000 in
theorem kjK_3 : mv_mkB kjW_3 kjCl kjKd kjP kjStn kjM_3 = true := by decide +kernel
def kjW_4 : List Jvm.Cond := [(Jvm.Cond.code ({ cls := "KindJudge", name := "kind", desc := "(III)I" } : Jvm.MethodName) prog_1_method_5_code (5 : Nat) (Option.some Jvm.ClassFile.FieldType.int)), (Jvm.Cond.initialized "KindJudge"), (Jvm.Cond.fieldLink "KindJudge" (10 : Nat) "KindJudge" "file" "LKindJudge$Book;"), (Jvm.Cond.fieldLink "KindJudge" (70 : Nat) "KindJudge$Book" "code" "LKindJudge$Code;"), (Jvm.Cond.methodLink "KindJudge" (74 : Nat) ({ cls := "KindJudge$Code", name := "begins", desc := "(II)Z" } : Jvm.MethodName)), (Jvm.Cond.instanceMethod ({ cls := "KindJudge$Code", name := "begins", desc := "(II)Z" } : Jvm.MethodName)), (Jvm.Cond.selects "KindJudge$Code" ({ cls := "KindJudge$Code", name := "begins", desc := "(II)Z" } : Jvm.MethodName) ({ cls := "KindJudge$Code", name := "begins", desc := "(II)Z" } : Jvm.MethodName))]
set_option maxRecDepth 100000 in
set_option maxHeartbeats 4000000 in
theorem kjS_4 : ∀ w ∈ kjW_4, w ∈ lw_tbl := mv_sub_of [328, 65, 294, 282, 329, 330, 331] (by decide +kernel)
set_option maxRecDepth 100000 in
set_option maxHeartbeats 4000000 in
theorem kjK_4 : mv_mkB kjW_4 kjCl kjKd kjP kjStn kjM_4 = true := by decide +kernel
def kjW_5 : List Jvm.Cond := [(Jvm.Cond.code ({ cls := "KindJudge", name := "look", desc := "(III)I" } : Jvm.MethodName) prog_1_method_6_code (7 : Nat) (Option.some Jvm.ClassFile.FieldType.int)), (Jvm.Cond.initialized "KindJudge"), (Jvm.Cond.fieldLink "KindJudge" (10 : Nat) "KindJudge" "file" "LKindJudge$Book;"), (Jvm.Cond.fieldLink "KindJudge" (70 : Nat) "KindJudge$Book" "code" "LKindJudge$Code;"), (Jvm.Cond.methodLink "KindJudge" (74 : Nat) ({ cls := "KindJudge$Code", name := "begins", desc := "(II)Z" } : Jvm.MethodName)), (Jvm.Cond.instanceMethod ({ cls := "KindJudge$Code", name := "begins", desc := "(II)Z" } : Jvm.MethodName)), (Jvm.Cond.selects "KindJudge$Code" ({ cls := "KindJudge$Code", name := "begins", desc := "(II)Z" } : Jvm.MethodName) ({ cls := "KindJudge$Code", name := "begins", desc := "(II)Z" } : Jvm.MethodName))]
set_option maxRecDepth 100000 in
set_option maxHeartbeats 4000000 in
theorem kjS_5 : ∀ w ∈ kjW_5, w ∈ lw_tbl := mv_sub_of [803, 65, 294, 282, 329, 330, 331] (by decide +kernel)
set_option maxRecDepth 100000 in
set_option maxHeartbeats 4000000 in
theorem kjK_5 : mv_mkB kjW_5 kjCl kjKd kjP kjStn kjM_5 = true := by decide +kernel
def kjW_6 : List Jvm.Cond := [(Jvm.Cond.code ({ cls := "KindJudge", name := "ways", desc := "(II)I" } : Jvm.MethodName) prog_1_method_7_code (6 : Nat) (Option.some Jvm.ClassFile.FieldType.int)), (Jvm.Cond.initialized "KindJudge"), (Jvm.Cond.fieldLink "KindJudge" (10 : Nat) "KindJudge" "file" "LKindJudge$Book;"), (Jvm.Cond.fieldLink "KindJudge" (70 : Nat) "KindJudge$Book" "code" "LKindJudge$Code;"), (Jvm.Cond.methodLink "KindJudge" (74 : Nat) ({ cls := "KindJudge$Code", name := "begins", desc := "(II)Z" } : Jvm.MethodName)), (Jvm.Cond.instanceMethod ({ cls := "KindJudge$Code", name := "begins", desc := "(II)Z" } : Jvm.MethodName)), (Jvm.Cond.selects "KindJudge$Code" ({ cls := "KindJudge$Code", name := "begins", desc := "(II)Z" } : Jvm.MethodName) ({ cls := "KindJudge$Code", name := "begins", desc := "(II)Z" } : Jvm.MethodName))]
set_option maxRecDepth 100000 in
set_option maxHeartbeats 4000000 in
theorem kjS_6 : ∀ w ∈ kjW_6, w ∈ lw_tbl := mv_sub_of [364, 65, 294, 282, 329, 330, 331] (by decide +kernel)
set_option maxRecDepth 100000 in
set_option maxHeartbeats 4000000 in
theorem kjK_6 : mv_mkB kjW_6 kjCl kjKd kjP kjStn kjM_6 = true := by decide +kernel
def kjW_7 : List Jvm.Cond := [(Jvm.Cond.code ({ cls := "KindJudge", name := "count", desc := "(II)I" } : Jvm.MethodName) prog_1_method_8_code (3 : Nat) (Option.some Jvm.ClassFile.FieldType.int)), (Jvm.Cond.initialized "KindJudge"), (Jvm.Cond.fieldLink "KindJudge" (10 : Nat) "KindJudge" "file" "LKindJudge$Book;"), (Jvm.Cond.fieldLink "KindJudge" (49 : Nat) "KindJudge$Book" "layout" "LKindJudge$Layout;"), (Jvm.Cond.fieldLink "KindJudge" (53 : Nat) "KindJudge$Layout" "methods" "LKindJudge$Signatures;"), (Jvm.Cond.methodLink "KindJudge" (125 : Nat) ({ cls := "KindJudge$Signatures", name := "has", desc := "(I)Z" } : Jvm.MethodName)), (Jvm.Cond.instanceMethod ({ cls := "KindJudge$Signatures", name := "has", desc := "(I)Z" } : Jvm.MethodName)), (Jvm.Cond.selects "KindJudge$Signatures" ({ cls := "KindJudge$Signatures", name := "has", desc := "(I)Z" } : Jvm.MethodName) ({ cls := "KindJudge$Signatures", name := "has", desc := "(I)Z" } : Jvm.MethodName))]
set_option maxRecDepth 100000 in
set_option maxHeartbeats 4000000 in
theorem kjS_7 : ∀ w ∈ kjW_7, w ∈ lw_tbl := mv_sub_of [407, 65, 294, 280, 188, 408, 409, 410] (by decide +kernel)
set_option maxRecDepth 100000 in
set_option maxHeartbeats 4000000 in
theorem kjK_7 : mv_mkB kjW_7 kjCl kjKd kjP kjStn kjM_7 = true := by decide +kernel
def kjW_8 : List Jvm.Cond := [(Jvm.Cond.code ({ cls := "KindJudge", name := "fits", desc := "(II)I" } : Jvm.MethodName) prog_1_method_9_code (4 : Nat) (Option.some Jvm.ClassFile.FieldType.int)), (Jvm.Cond.initialized "KindJudge"), (Jvm.Cond.fieldLink "KindJudge" (10 : Nat) "KindJudge" "file" "LKindJudge$Book;"), (Jvm.Cond.fieldLink "KindJudge" (49 : Nat) "KindJudge$Book" "layout" "LKindJudge$Layout;"), (Jvm.Cond.fieldLink "KindJudge" (136 : Nat) "KindJudge$Layout" "classes" "LKindJudge$Classes;"), (Jvm.Cond.fieldLink "KindJudge" (46 : Nat) "KindJudge" "goodFiles" "I")]
set_option maxRecDepth 100000 in
set_option maxHeartbeats 4000000 in
theorem kjS_8 : ∀ w ∈ kjW_8, w ∈ lw_tbl := mv_sub_of [458, 65, 294, 280, 180, 296] (by decide +kernel)
set_option maxRecDepth 100000 in
set_option maxHeartbeats 4000000 in
theorem kjK_8 : mv_mkB kjW_8 kjCl kjKd kjP kjStn kjM_8 = true := by decide +kernel
def kjW_9 : List Jvm.Cond := [(Jvm.Cond.code ({ cls := "KindJudge", name := "meet", desc := "(II)I" } : Jvm.MethodName) prog_1_method_10_code (4 : Nat) (Option.some Jvm.ClassFile.FieldType.int)), (Jvm.Cond.initialized "KindJudge"), (Jvm.Cond.fieldLink "KindJudge" (10 : Nat) "KindJudge" "file" "LKindJudge$Book;"), (Jvm.Cond.fieldLink "KindJudge" (49 : Nat) "KindJudge$Book" "layout" "LKindJudge$Layout;"), (Jvm.Cond.fieldLink "KindJudge" (136 : Nat) "KindJudge$Layout" "classes" "LKindJudge$Classes;"), (Jvm.Cond.fieldLink "KindJudge" (46 : Nat) "KindJudge" "goodFiles" "I")]
set_option maxRecDepth 100000 in
set_option maxHeartbeats 4000000 in
theorem kjS_9 : ∀ w ∈ kjW_9, w ∈ lw_tbl := mv_sub_of [479, 65, 294, 280, 180, 296] (by decide +kernel)
set_option maxRecDepth 100000 in
set_option maxHeartbeats 4000000 in
theorem kjK_9 : mv_mkB kjW_9 kjCl kjKd kjP kjStn kjM_9 = true := by decide +kernel
def kjW_10 : List Jvm.Cond := [(Jvm.Cond.code ({ cls := "KindJudge", name := "method", desc := "(II)I" } : Jvm.MethodName) prog_1_method_11_code (3 : Nat) (Option.some Jvm.ClassFile.FieldType.int)), (Jvm.Cond.initialized "KindJudge"), (Jvm.Cond.fieldLink "KindJudge" (10 : Nat) "KindJudge" "file" "LKindJudge$Book;"), (Jvm.Cond.fieldLink "KindJudge" (49 : Nat) "KindJudge$Book" "layout" "LKindJudge$Layout;"), (Jvm.Cond.methodLink "KindJudge" (154 : Nat) ({ cls := "KindJudge$Layout", name := "methodFor", desc := "(II)I" } : Jvm.MethodName)), (Jvm.Cond.instanceMethod ({ cls := "KindJudge$Layout", name := "methodFor", desc := "(II)I" } : Jvm.MethodName)), (Jvm.Cond.selects "KindJudge$Layout" ({ cls := "KindJudge$Layout", name := "methodFor", desc := "(II)I" } : Jvm.MethodName) ({ cls := "KindJudge$Layout", name := "methodFor", desc := "(II)I" } : Jvm.MethodName))]
set_option maxRecDepth 100000 in
set_option maxHeartbeats 4000000 in
theorem kjS_10 : ∀ w ∈ kjW_10, w ∈ lw_tbl := mv_sub_of [490, 65, 294, 280, 491, 492, 493] (by decide +kernel)
set_option maxRecDepth 100000 in
set_option maxHeartbeats 4000000 in
theorem kjK_10 : mv_mkB kjW_10 kjCl kjKd kjP kjStn kjM_10 = true := by decide +kernel
def kjW_11 : List Jvm.Cond := [(Jvm.Cond.code ({ cls := "KindJudge", name := "type", desc := "(II)I" } : Jvm.MethodName) prog_1_method_12_code (4 : Nat) (Option.some Jvm.ClassFile.FieldType.int)), (Jvm.Cond.initialized "KindJudge"), (Jvm.Cond.fieldLink "KindJudge" (10 : Nat) "KindJudge" "file" "LKindJudge$Book;"), (Jvm.Cond.fieldLink "KindJudge" (49 : Nat) "KindJudge$Book" "layout" "LKindJudge$Layout;"), (Jvm.Cond.fieldLink "KindJudge" (136 : Nat) "KindJudge$Layout" "classes" "LKindJudge$Classes;"), (Jvm.Cond.methodLink "KindJudge" (157 : Nat) ({ cls := "KindJudge$Classes", name := "has", desc := "(I)Z" } : Jvm.MethodName)), (Jvm.Cond.instanceMethod ({ cls := "KindJudge$Classes", name := "has", desc := "(I)Z" } : Jvm.MethodName)), (Jvm.Cond.selects "KindJudge$Classes" ({ cls := "KindJudge$Classes", name := "has", desc := "(I)Z" } : Jvm.MethodName) ({ cls := "KindJudge$Classes", name := "has", desc := "(I)Z" } : Jvm.MethodName))]
set_option maxRecDepth 100000 in
set_option maxHeartbeats 4000000 in
theorem kjS_11 : ∀ w ∈ kjW_11, w ∈ lw_tbl := mv_sub_of [503, 65, 294, 280, 180, 504, 496, 497] (by decide +kernel)
set_option maxRecDepth 100000 in
set_option maxHeartbeats 4000000 in
theorem kjK_11 : mv_mkB kjW_11 kjCl kjKd kjP kjStn kjM_11 = true := by decide +kernel
def kjW_12 : List Jvm.Cond := [(Jvm.Cond.code ({ cls := "KindJudge", name := "total", desc := "(I)I" } : Jvm.MethodName) prog_1_method_13_code (2 : Nat) (Option.some Jvm.ClassFile.FieldType.int)), (Jvm.Cond.initialized "KindJudge"), (Jvm.Cond.fieldLink "KindJudge" (10 : Nat) "KindJudge" "file" "LKindJudge$Book;"), (Jvm.Cond.fieldLink "KindJudge" (49 : Nat) "KindJudge$Book" "layout" "LKindJudge$Layout;"), (Jvm.Cond.fieldLink "KindJudge" (53 : Nat) "KindJudge$Layout" "methods" "LKindJudge$Signatures;"), (Jvm.Cond.fieldLinkNest "KindJudge" (59 : Nat) "KindJudge$Signatures" "number" "I" "KindJudge"), (Jvm.Cond.fieldLink "KindJudge" (136 : Nat) "KindJudge$Layout" "classes" "LKindJudge$Classes;"), (Jvm.Cond.fieldLinkNest "KindJudge" (167 : Nat) "KindJudge$Classes" "number" "I" "KindJudge"), (Jvm.Cond.fieldLink "KindJudge" (168 : Nat) "KindJudge$Layout" "selectors" "LKindJudge$Signatures;"), (Jvm.Cond.fieldLink "KindJudge" (16 : Nat) "KindJudge" "draft" "LKindJudge$Book;"), (Jvm.Cond.fieldLink "KindJudge" (19 : Nat) "KindJudge$Book" "bytes" "LKindJudge$Bytes;"), (Jvm.Cond.fieldLinkNest "KindJudge" (171 : Nat) "KindJudge$Bytes" "length" "I" "KindJudge"), (Jvm.Cond.fieldLink "KindJudge" (46 : Nat) "KindJudge" "goodFiles" "I")]
set_option maxRecDepth 100000 in
set_option maxHeartbeats 4000000 in
theorem kjS_12 : ∀ w ∈ kjW_12, w ∈ lw_tbl := mv_sub_of [521, 65, 294, 280, 188, 153, 180, 129, 185, 295, 278, 104, 296] (by decide +kernel)
set_option maxRecDepth 100000 in
set_option maxHeartbeats 4000000 in
theorem kjK_12 : mv_mkB kjW_12 kjCl kjKd kjP kjStn kjM_12 = true := by decide +kernel
def kjW_13 : List Jvm.Cond := [(Jvm.Cond.code ({ cls := "KindJudge", name := "findFault", desc := "()V" } : Jvm.MethodName) prog_1_method_14_code (4 : Nat) (Option.none : Option Jvm.ClassFile.FieldType)), (Jvm.Cond.initialized "KindJudge"), (Jvm.Cond.methodLink "KindJudge" (174 : Nat) ({ cls := "KindJudge", name := "keepFault", desc := "(III)V" } : Jvm.MethodName)), (Jvm.Cond.instanceMethod ({ cls := "KindJudge", name := "keepFault", desc := "(III)V" } : Jvm.MethodName)), (Jvm.Cond.selects "KindJudge" ({ cls := "KindJudge", name := "keepFault", desc := "(III)V" } : Jvm.MethodName) ({ cls := "KindJudge", name := "keepFault", desc := "(III)V" } : Jvm.MethodName)), (Jvm.Cond.fieldLink "KindJudge" (16 : Nat) "KindJudge" "draft" "LKindJudge$Book;"), (Jvm.Cond.fieldLink "KindJudge" (49 : Nat) "KindJudge$Book" "layout" "LKindJudge$Layout;"), (Jvm.Cond.methodLink "KindJudge" (178 : Nat) ({ cls := "KindJudge$Layout", name := "read", desc := "()Z" } : Jvm.MethodName)), (Jvm.Cond.instanceMethod ({ cls := "KindJudge$Layout", name := "read", desc := "()Z" } : Jvm.MethodName)), (Jvm.Cond.selects "KindJudge$Layout" ({ cls := "KindJudge$Layout", name := "read", desc := "()Z" } : Jvm.MethodName) ({ cls := "KindJudge$Layout", name := "read", desc := "()Z" } : Jvm.MethodName)), (Jvm.Cond.methodLink "KindJudge" (182 : Nat) ({ cls := "KindJudge$Layout", name := "faultPlace", desc := "()I" } : Jvm.MethodName)), (Jvm.Cond.instanceMethod ({ cls := "KindJudge$Layout", name := "faultPlace", desc := "()I" } : Jvm.MethodName)), (Jvm.Cond.selects "KindJudge$Layout" ({ cls := "KindJudge$Layout", name := "faultPlace", desc := "()I" } : Jvm.MethodName) ({ cls := "KindJudge$Layout", name := "faultPlace", desc := "()I" } : Jvm.MethodName))]
set_option maxRecDepth 100000 in
set_option maxHeartbeats 4000000 in
theorem kjS_13 : ∀ w ∈ kjW_13, w ∈ lw_tbl := mv_sub_of [533, 65, 534, 536, 6, 295, 280, 538, 539, 540, 623, 624, 625] (by decide +kernel)
set_option maxRecDepth 100000 in
set_option maxHeartbeats 4000000 in
theorem kjK_13 : mv_mkB kjW_13 kjCl kjKd kjP kjStn kjM_13 = true := by decide +kernel
def kjW_14 : List Jvm.Cond := [(Jvm.Cond.code ({ cls := "KindJudge", name := "keepFault", desc := "(III)V" } : Jvm.MethodName) prog_1_method_15_code (4 : Nat) (Option.none : Option Jvm.ClassFile.FieldType)), (Jvm.Cond.initialized "KindJudge"), (Jvm.Cond.fieldLink "KindJudge" (32 : Nat) "KindJudge" "faultKind" "I"), (Jvm.Cond.fieldLink "KindJudge" (64 : Nat) "KindJudge" "faultPlace" "I"), (Jvm.Cond.fieldLink "KindJudge" (67 : Nat) "KindJudge" "faultMethod" "I")]
set_option maxRecDepth 100000 in
set_option maxHeartbeats 4000000 in
theorem kjS_14 : ∀ w ∈ kjW_14, w ∈ lw_tbl := mv_sub_of [537, 65, 297, 298, 299] (by decide +kernel)
set_option maxRecDepth 100000 in
set_option maxHeartbeats 4000000 in
theorem kjK_14 : mv_mkB kjW_14 kjCl kjKd kjP kjStn kjM_14 = true := by decide +kernel
def kjW_18 : List Jvm.Cond := [(Jvm.Cond.code ({ cls := "KindJudge$Book", name := "<init>", desc := "()V" } : Jvm.MethodName) prog_2_method_1_code (4 : Nat) (Option.none : Option Jvm.ClassFile.FieldType)), (Jvm.Cond.initialized "KindJudge$Book"), (Jvm.Cond.methodLink "KindJudge$Book" (1 : Nat) ({ cls := "java/lang/Object", name := "<init>", desc := "()V" } : Jvm.MethodName)), (Jvm.Cond.instanceMethod ({ cls := "java/lang/Object", name := "<init>", desc := "()V" } : Jvm.MethodName)), (Jvm.Cond.code ({ cls := "java/lang/Object", name := "<init>", desc := "()V" } : Jvm.MethodName) object_method_1_code (1 : Nat) (Option.none : Option Jvm.ClassFile.FieldType)), (Jvm.Cond.classLink "KindJudge$Book" (7 : Nat) "KindJudge$Bytes"), (Jvm.Cond.instantiable "KindJudge$Bytes" (2 : Nat)), (Jvm.Cond.initialized "KindJudge$Bytes"), (Jvm.Cond.methodLinkNest "KindJudge$Book" (9 : Nat) ({ cls := "KindJudge$Bytes", name := "<init>", desc := "()V" } : Jvm.MethodName) "KindJudge"), (Jvm.Cond.instanceMethod ({ cls := "KindJudge$Bytes", name := "<init>", desc := "()V" } : Jvm.MethodName)), (Jvm.Cond.classLink "KindJudge$Book" (10 : Nat) "KindJudge$Layout"), (Jvm.Cond.instantiable "KindJudge$Layout" (9 : Nat)), (Jvm.Cond.initialized "KindJudge$Layout"), (Jvm.Cond.methodLink "KindJudge$Book" (12 : Nat) ({ cls := "KindJudge$Layout", name := "<init>", desc := "(LKindJudge$Bytes;)V" } : Jvm.MethodName)), (Jvm.Cond.instanceMethod ({ cls := "KindJudge$Layout", name := "<init>", desc := "(LKindJudge$Bytes;)V" } : Jvm.MethodName)), (Jvm.Cond.classLink "KindJudge$Book" (15 : Nat) "KindJudge$Code"), (Jvm.Cond.instantiable "KindJudge$Code" (3 : Nat)), (Jvm.Cond.initialized "KindJudge$Code"), (Jvm.Cond.methodLink "KindJudge$Book" (17 : Nat) ({ cls := "KindJudge$Code", name := "<init>", desc := "(LKindJudge$Bytes;LKindJudge$Layout;)V" } : Jvm.MethodName)), (Jvm.Cond.instanceMethod ({ cls := "KindJudge$Code", name := "<init>", desc := "(LKindJudge$Bytes;LKindJudge$Layout;)V" } : Jvm.MethodName)), (Jvm.Cond.fieldLink "KindJudge$Book" (20 : Nat) "KindJudge$Book" "bytes" "LKindJudge$Bytes;"), (Jvm.Cond.fieldLink "KindJudge$Book" (26 : Nat) "KindJudge$Book" "layout" "LKindJudge$Layout;"), (Jvm.Cond.fieldLink "KindJudge$Book" (30 : Nat) "KindJudge$Book" "code" "LKindJudge$Code;"), (Jvm.Cond.classLink "KindJudge$Book" (34 : Nat) "KindJudge$Flow"), (Jvm.Cond.instantiable "KindJudge$Flow" (12 : Nat)), (Jvm.Cond.initialized "KindJudge$Flow"), (Jvm.Cond.methodLink "KindJudge$Book" (36 : Nat) ({ cls := "KindJudge$Flow", name := "<init>", desc := "(LKindJudge$Layout;LKindJudge$Code;)V" } : Jvm.MethodName)), (Jvm.Cond.instanceMethod ({ cls := "KindJudge$Flow", name := "<init>", desc := "(LKindJudge$Layout;LKindJudge$Code;)V" } : Jvm.MethodName)), (Jvm.Cond.fieldLink "KindJudge$Book" (39 : Nat) "KindJudge$Book" "flow" "LKindJudge$Flow;")]
set_option maxRecDepth 100000 in
set_option maxHeartbeats 4000000 in
theorem kjS_18 : ∀ w ∈ kjW_18, w ∈ lw_tbl := mv_sub_of [93, 66, 94, 87, 88, 95, 96, 67, 97, 98, 111, 112, 68, 113, 114, 216, 217, 72, 218, 219, 277, 279, 281, 233, 234, 73, 235, 236, 283] (by decide +kernel)
set_option maxRecDepth 100000 in
set_option maxHeartbeats 4000000 in
theorem kjK_18 : mv_mkB kjW_18 kjCl kjKd kjP kjStn kjM_18 = true := by decide +kernel
def kjW_19 : List Jvm.Cond := [(Jvm.Cond.code ({ cls := "KindJudge$Bytes", name := "<init>", desc := "()V" } : Jvm.MethodName) prog_3_method_1_code (1 : Nat) (Option.none : Option Jvm.ClassFile.FieldType)), (Jvm.Cond.initialized "KindJudge$Bytes"), (Jvm.Cond.methodLink "KindJudge$Bytes" (3 : Nat) ({ cls := "java/lang/Object", name := "<init>", desc := "()V" } : Jvm.MethodName)), (Jvm.Cond.instanceMethod ({ cls := "java/lang/Object", name := "<init>", desc := "()V" } : Jvm.MethodName)), (Jvm.Cond.code ({ cls := "java/lang/Object", name := "<init>", desc := "()V" } : Jvm.MethodName) object_method_1_code (1 : Nat) (Option.none : Option Jvm.ClassFile.FieldType)), (Jvm.Cond.arrayClass Jvm.ClassFile.FieldType.byte), (Jvm.Cond.fieldLink "KindJudge$Bytes" (11 : Nat) "KindJudge$Bytes" "row" "[B")]
set_option maxRecDepth 100000 in
set_option maxHeartbeats 4000000 in
theorem kjS_19 : ∀ w ∈ kjW_19, w ∈ lw_tbl := mv_sub_of [99, 67, 100, 87, 88, 110, 101] (by decide +kernel)
set_option maxRecDepth 100000 in
set_option maxHeartbeats 4000000 in
theorem kjK_19 : mv_mkB kjW_19 kjCl kjKd kjP kjStn kjM_19 = true := by decide +kernel
def kjW_20 : List Jvm.Cond := [(Jvm.Cond.code ({ cls := "KindJudge$Bytes", name := "append", desc := "(JI)Z" } : Jvm.MethodName) prog_3_method_2_code (5 : Nat) (Option.some Jvm.ClassFile.FieldType.boolean)), (Jvm.Cond.initialized "KindJudge$Bytes"), (Jvm.Cond.fieldLink "KindJudge$Bytes" (15 : Nat) "KindJudge$Bytes" "length" "I"), (Jvm.Cond.fieldLink "KindJudge$Bytes" (11 : Nat) "KindJudge$Bytes" "row" "[B")]
set_option maxRecDepth 100000 in
set_option maxHeartbeats 4000000 in
theorem kjS_20 : ∀ w ∈ kjW_20, w ∈ lw_tbl := mv_sub_of [320, 67, 102, 101] (by decide +kernel)
set_option maxRecDepth 100000 in
set_option maxHeartbeats 4000000 in
theorem kjK_20 : mv_mkB kjW_20 kjCl kjKd kjP kjStn kjM_20 = true := by decide +kernel
def kjW_21 : List Jvm.Cond := [(Jvm.Cond.code ({ cls := "KindJudge$Bytes", name := "clear", desc := "()V" } : Jvm.MethodName) prog_3_method_3_code (1 : Nat) (Option.none : Option Jvm.ClassFile.FieldType)), (Jvm.Cond.initialized "KindJudge$Bytes"), (Jvm.Cond.fieldLink "KindJudge$Bytes" (15 : Nat) "KindJudge$Bytes" "length" "I")]
set_option maxRecDepth 100000 in
set_option maxHeartbeats 4000000 in
theorem kjS_21 : ∀ w ∈ kjW_21, w ∈ lw_tbl := mv_sub_of [729, 67, 102] (by decide +kernel)
set_option maxRecDepth 100000 in
set_option maxHeartbeats 4000000 in
theorem kjK_21 : mv_mkB kjW_21 kjCl kjKd kjP kjStn kjM_21 = true := by decide +kernel
def kjW_22 : List Jvm.Cond := [(Jvm.Cond.code ({ cls := "KindJudge$Bytes", name := "at", desc := "(I)I" } : Jvm.MethodName) prog_3_method_4_code (2 : Nat) (Option.some Jvm.ClassFile.FieldType.int)), (Jvm.Cond.initialized "KindJudge$Bytes"), (Jvm.Cond.fieldLink "KindJudge$Bytes" (15 : Nat) "KindJudge$Bytes" "length" "I")]
set_option maxRecDepth 100000 in
set_option maxHeartbeats 4000000 in
theorem kjS_22 : ∀ w ∈ kjW_22, w ∈ lw_tbl := mv_sub_of [385, 67, 102] (by decide +kernel)
set_option maxRecDepth 100000 in
set_option maxHeartbeats 4000000 in
theorem kjK_22 : mv_mkB kjW_22 kjCl kjKd kjP kjStn kjM_22 = true := by decide +kernel
def kjW_23 : List Jvm.Cond := [(Jvm.Cond.code ({ cls := "KindJudge$Layout", name := "<init>", desc := "(LKindJudge$Bytes;)V" } : Jvm.MethodName) prog_7_method_1_code (2 : Nat) (Option.none : Option Jvm.ClassFile.FieldType)), (Jvm.Cond.initialized "KindJudge$Layout"), (Jvm.Cond.methodLink "KindJudge$Layout" (3 : Nat) ({ cls := "java/lang/Object", name := "<init>", desc := "()V" } : Jvm.MethodName)), (Jvm.Cond.instanceMethod ({ cls := "java/lang/Object", name := "<init>", desc := "()V" } : Jvm.MethodName)), (Jvm.Cond.code ({ cls := "java/lang/Object", name := "<init>", desc := "()V" } : Jvm.MethodName) object_method_1_code (1 : Nat) (Option.none : Option Jvm.ClassFile.FieldType)), (Jvm.Cond.classLink "KindJudge$Layout" (9 : Nat) "KindJudge$Classes"), (Jvm.Cond.instantiable "KindJudge$Classes" (5 : Nat)), (Jvm.Cond.initialized "KindJudge$Classes"), (Jvm.Cond.methodLinkNest "KindJudge$Layout" (11 : Nat) ({ cls := "KindJudge$Classes", name := "<init>", desc := "()V" } : Jvm.MethodName) "KindJudge"), (Jvm.Cond.instanceMethod ({ cls := "KindJudge$Classes", name := "<init>", desc := "()V" } : Jvm.MethodName)), (Jvm.Cond.fieldLink "KindJudge$Layout" (12 : Nat) "KindJudge$Layout" "classes" "LKindJudge$Classes;"), (Jvm.Cond.classLink "KindJudge$Layout" (18 : Nat) "KindJudge$Signatures"), (Jvm.Cond.instantiable "KindJudge$Signatures" (4 : Nat)), (Jvm.Cond.initialized "KindJudge$Signatures"), (Jvm.Cond.methodLinkNest "KindJudge$Layout" (20 : Nat) ({ cls := "KindJudge$Signatures", name := "<init>", desc := "()V" } : Jvm.MethodName) "KindJudge"), (Jvm.Cond.instanceMethod ({ cls := "KindJudge$Signatures", name := "<init>", desc := "()V" } : Jvm.MethodName)), (Jvm.Cond.fieldLink "KindJudge$Layout" (21 : Nat) "KindJudge$Layout" "selectors" "LKindJudge$Signatures;"), (Jvm.Cond.fieldLink "KindJudge$Layout" (25 : Nat) "KindJudge$Layout" "methods" "LKindJudge$Signatures;"), (Jvm.Cond.arrayClass Jvm.ClassFile.FieldType.int), (Jvm.Cond.fieldLink "KindJudge$Layout" (28 : Nat) "KindJudge$Layout" "locals" "[I"), (Jvm.Cond.fieldLink "KindJudge$Layout" (32 : Nat) "KindJudge$Layout" "stacks" "[I"), (Jvm.Cond.fieldLink "KindJudge$Layout" (35 : Nat) "KindJudge$Layout" "starts" "[I"), (Jvm.Cond.fieldLink "KindJudge$Layout" (38 : Nat) "KindJudge$Layout" "lengths" "[I"), (Jvm.Cond.fieldLink "KindJudge$Layout" (41 : Nat) "KindJudge$Layout" "table" "[I"), (Jvm.Cond.classLink "KindJudge$Layout" (44 : Nat) "KindJudge$Reader"), (Jvm.Cond.instantiable "KindJudge$Reader" (3 : Nat)), (Jvm.Cond.initialized "KindJudge$Reader"), (Jvm.Cond.methodLink "KindJudge$Layout" (46 : Nat) ({ cls := "KindJudge$Reader", name := "<init>", desc := "(LKindJudge$Bytes;)V" } : Jvm.MethodName)), (Jvm.Cond.instanceMethod ({ cls := "KindJudge$Reader", name := "<init>", desc := "(LKindJudge$Bytes;)V" } : Jvm.MethodName)), (Jvm.Cond.fieldLink "KindJudge$Layout" (49 : Nat) "KindJudge$Layout" "reader" "LKindJudge$Reader;")]
set_option maxRecDepth 100000 in
set_option maxHeartbeats 4000000 in
theorem kjS_23 : ∀ w ∈ kjW_23, w ∈ lw_tbl := mv_sub_of [115, 68, 116, 87, 88, 117, 118, 69, 119, 120, 179, 142, 143, 70, 144, 145, 183, 187, 141, 192, 193, 194, 195, 196, 163, 164, 71, 165, 166, 191] (by decide +kernel)
set_option maxRecDepth 100000 in
set_option maxHeartbeats 4000000 in
theorem kjK_23 : mv_mkB kjW_23 kjCl kjKd kjP kjStn kjM_23 = true := by decide +kernel
end
section
def kjW_24 : List Jvm.Cond := [(Jvm.Cond.code ({ cls := "KindJudge$Layout", name := "read", desc := "()Z" } : Jvm.MethodName) prog_7_method_2_code (2 : Nat) (Option.some Jvm.ClassFile.FieldType.boolean)), (Jvm.Cond.initialized "KindJudge$Layout"), (Jvm.Cond.fieldLink "KindJudge$Layout" (49 : Nat) "KindJudge$Layout" "reader" "LKindJudge$Reader;"), (Jvm.Cond.methodLink "KindJudge$Layout" (53 : Nat) ({ cls := "KindJudge$Reader", name := "begin", desc := "()V" } : Jvm.MethodName)), (Jvm.Cond.instanceMethod ({ cls := "KindJudge$Reader", name := "begin", desc := "()V" } : Jvm.MethodName)), (Jvm.Cond.selects "KindJudge$Reader" ({ cls := "KindJudge$Reader", name := "begin", desc := "()V" } : Jvm.MethodName) ({ cls := "KindJudge$Reader", name := "begin", desc := "()V" } : Jvm.MethodName)), (Jvm.Cond.fieldLink "KindJudge$Layout" (12 : Nat) "KindJudge$Layout" "classes" "LKindJudge$Classes;"), (Jvm.Cond.methodLink "KindJudge$Layout" (56 : Nat) ({ cls := "KindJudge$Classes", name := "read", desc := "(LKindJudge$Reader;)V" } : Jvm.MethodName)), (Jvm.Cond.instanceMethod ({ cls := "KindJudge$Classes", name := "read", desc := "(LKindJudge$Reader;)V" } : Jvm.MethodName)), (Jvm.Cond.selects "KindJudge$Classes" ({ cls := "KindJudge$Classes", name := "read", desc := "(LKindJudge$Reader;)V" } : Jvm.MethodName) ({ cls := "KindJudge$Classes", name := "read", desc := "(LKindJudge$Reader;)V" } : Jvm.MethodName)), (Jvm.Cond.fieldLink "KindJudge$Layout" (21 : Nat) "KindJudge$Layout" "selectors" "LKindJudge$Signatures;"), (Jvm.Cond.methodLink "KindJudge$Layout" (60 : Nat) ({ cls := "KindJudge$Signatures", name := "readNumber", desc := "(LKindJudge$Reader;II)V" } : Jvm.MethodName)), (Jvm.Cond.instanceMethod ({ cls := "KindJudge$Signatures", name := "readNumber", desc := "(LKindJudge$Reader;II)V" } : Jvm.MethodName)), (Jvm.Cond.selects "KindJudge$Signatures" ({ cls := "KindJudge$Signatures", name := "readNumber", desc := "(LKindJudge$Reader;II)V" } : Jvm.MethodName) ({ cls := "KindJudge$Signatures", name := "readNumber", desc := "(LKindJudge$Reader;II)V" } : Jvm.MethodName)), (Jvm.Cond.fieldLinkNest "KindJudge$Layout" (64 : Nat) "KindJudge$Signatures" "number" "I" "KindJudge"), (Jvm.Cond.fieldLink "KindJudge$Layout" (25 : Nat) "KindJudge$Layout" "methods" "LKindJudge$Signatures;"), (Jvm.Cond.methodLink "KindJudge$Layout" (68 : Nat) ({ cls := "KindJudge$Reader", name := "goesOn", desc := "()Z" } : Jvm.MethodName)), (Jvm.Cond.instanceMethod ({ cls := "KindJudge$Reader", name := "goesOn", desc := "()Z" } : Jvm.MethodName)), (Jvm.Cond.selects "KindJudge$Reader" ({ cls := "KindJudge$Reader", name := "goesOn", desc := "()Z" } : Jvm.MethodName) ({ cls := "KindJudge$Reader", name := "goesOn", desc := "()Z" } : Jvm.MethodName)), (Jvm.Cond.fieldLinkNest "KindJudge$Layout" (72 : Nat) "KindJudge$Classes" "number" "I" "KindJudge"), (Jvm.Cond.methodLink "KindJudge$Layout" (84 : Nat) ({ cls := "KindJudge$Reader", name := "isAtEnd", desc := "()Z" } : Jvm.MethodName)), (Jvm.Cond.instanceMethod ({ cls := "KindJudge$Reader", name := "isAtEnd", desc := "()Z" } : Jvm.MethodName)), (Jvm.Cond.selects "KindJudge$Reader" ({ cls := "KindJudge$Reader", name := "isAtEnd", desc := "()Z" } : Jvm.MethodName) ({ cls := "KindJudge$Reader", name := "isAtEnd", desc := "()Z" } : Jvm.MethodName))]
set_option maxRecDepth 100000 in
set_option maxHeartbeats 4000000 in
theorem kjS_24 : ∀ w ∈ kjW_24, w ∈ lw_tbl := mv_sub_of [541, 68, 191, 542, 543, 544, 179, 546, 547, 548, 183, 575, 576, 577, 152, 187, 581, 564, 565, 128, 619, 620, 621] (by decide +kernel)
set_option maxRecDepth 100000 in
set_option maxHeartbeats 4000000 in
theorem kjK_24 : mv_mkB kjW_24 kjCl kjKd kjP kjStn kjM_24 = true := by decide +kernel
def kjW_25 : List Jvm.Cond := [(Jvm.Cond.code ({ cls := "KindJudge$Layout", name := "faultPlace", desc := "()I" } : Jvm.MethodName) prog_7_method_3_code (1 : Nat) (Option.some Jvm.ClassFile.FieldType.int)), (Jvm.Cond.initialized "KindJudge$Layout"), (Jvm.Cond.fieldLink "KindJudge$Layout" (49 : Nat) "KindJudge$Layout" "reader" "LKindJudge$Reader;"), (Jvm.Cond.methodLink "KindJudge$Layout" (87 : Nat) ({ cls := "KindJudge$Reader", name := "place", desc := "()I" } : Jvm.MethodName)), (Jvm.Cond.instanceMethod ({ cls := "KindJudge$Reader", name := "place", desc := "()I" } : Jvm.MethodName)), (Jvm.Cond.selects "KindJudge$Reader" ({ cls := "KindJudge$Reader", name := "place", desc := "()I" } : Jvm.MethodName) ({ cls := "KindJudge$Reader", name := "place", desc := "()I" } : Jvm.MethodName))]
set_option maxRecDepth 100000 in
set_option maxHeartbeats 4000000 in
theorem kjS_25 : ∀ w ∈ kjW_25, w ∈ lw_tbl := mv_sub_of [626, 68, 191, 593, 594, 595] (by decide +kernel)
set_option maxRecDepth 100000 in
set_option maxHeartbeats 4000000 in
theorem kjK_25 : mv_mkB kjW_25 kjCl kjKd kjP kjStn kjM_25 = true := by decide +kernel
def kjW_29 : List Jvm.Cond := [(Jvm.Cond.code ({ cls := "KindJudge$Layout", name := "methodFor", desc := "(II)I" } : Jvm.MethodName) prog_7_method_7_code (3 : Nat) (Option.some Jvm.ClassFile.FieldType.int)), (Jvm.Cond.initialized "KindJudge$Layout"), (Jvm.Cond.fieldLink "KindJudge$Layout" (12 : Nat) "KindJudge$Layout" "classes" "LKindJudge$Classes;"), (Jvm.Cond.methodLink "KindJudge$Layout" (129 : Nat) ({ cls := "KindJudge$Classes", name := "has", desc := "(I)Z" } : Jvm.MethodName)), (Jvm.Cond.instanceMethod ({ cls := "KindJudge$Classes", name := "has", desc := "(I)Z" } : Jvm.MethodName)), (Jvm.Cond.selects "KindJudge$Classes" ({ cls := "KindJudge$Classes", name := "has", desc := "(I)Z" } : Jvm.MethodName) ({ cls := "KindJudge$Classes", name := "has", desc := "(I)Z" } : Jvm.MethodName))]
set_option maxRecDepth 100000 in
set_option maxHeartbeats 4000000 in
theorem kjS_29 : ∀ w ∈ kjW_29, w ∈ lw_tbl := mv_sub_of [494, 68, 179, 495, 496, 497] (by decide +kernel)
set_option maxRecDepth 100000 in
set_option maxHeartbeats 4000000 in
theorem kjK_29 : mv_mkB kjW_29 kjCl kjKd kjP kjStn kjM_29 = true := by decide +kernel
def kjW_32 : List Jvm.Cond := [(Jvm.Cond.code ({ cls := "KindJudge$Layout", name := "lengthOf", desc := "(I)I" } : Jvm.MethodName) prog_7_method_10_code (2 : Nat) (Option.some Jvm.ClassFile.FieldType.int)), (Jvm.Cond.initialized "KindJudge$Layout"), (Jvm.Cond.fieldLink "KindJudge$Layout" (25 : Nat) "KindJudge$Layout" "methods" "LKindJudge$Signatures;"), (Jvm.Cond.fieldLinkNest "KindJudge$Layout" (64 : Nat) "KindJudge$Signatures" "number" "I" "KindJudge")]
set_option maxRecDepth 100000 in
set_option maxHeartbeats 4000000 in
theorem kjS_32 : ∀ w ∈ kjW_32, w ∈ lw_tbl := mv_sub_of [340, 68, 187, 152] (by decide +kernel)
set_option maxRecDepth 100000 in
set_option maxHeartbeats 4000000 in
theorem kjK_32 : mv_mkB kjW_32 kjCl kjKd kjP kjStn kjM_32 = true := by decide +kernel
def kjW_33 : List Jvm.Cond := [(Jvm.Cond.code ({ cls := "KindJudge$Layout", name := "offset", desc := "(II)I" } : Jvm.MethodName) prog_7_method_11_code (3 : Nat) (Option.some Jvm.ClassFile.FieldType.int)), (Jvm.Cond.initialized "KindJudge$Layout"), (Jvm.Cond.methodLink "KindJudge$Layout" (130 : Nat) ({ cls := "KindJudge$Layout", name := "lengthOf", desc := "(I)I" } : Jvm.MethodName)), (Jvm.Cond.instanceMethod ({ cls := "KindJudge$Layout", name := "lengthOf", desc := "(I)I" } : Jvm.MethodName)), (Jvm.Cond.selects "KindJudge$Layout" ({ cls := "KindJudge$Layout", name := "lengthOf", desc := "(I)I" } : Jvm.MethodName) ({ cls := "KindJudge$Layout", name := "lengthOf", desc := "(I)I" } : Jvm.MethodName))]
set_option maxRecDepth 100000 in
set_option maxHeartbeats 4000000 in
theorem kjS_33 : ∀ w ∈ kjW_33, w ∈ lw_tbl := mv_sub_of [336, 68, 337, 338, 339] (by decide +kernel)
set_option maxRecDepth 100000 in
set_option maxHeartbeats 4000000 in
theorem kjK_33 : mv_mkB kjW_33 kjCl kjKd kjP kjStn kjM_33 = true := by decide +kernel
def kjW_34 : List Jvm.Cond := [(Jvm.Cond.code ({ cls := "KindJudge$Classes", name := "<init>", desc := "()V" } : Jvm.MethodName) prog_4_method_1_code (1 : Nat) (Option.none : Option Jvm.ClassFile.FieldType)), (Jvm.Cond.initialized "KindJudge$Classes"), (Jvm.Cond.methodLink "KindJudge$Classes" (3 : Nat) ({ cls := "java/lang/Object", name := "<init>", desc := "()V" } : Jvm.MethodName)), (Jvm.Cond.instanceMethod ({ cls := "java/lang/Object", name := "<init>", desc := "()V" } : Jvm.MethodName)), (Jvm.Cond.code ({ cls := "java/lang/Object", name := "<init>", desc := "()V" } : Jvm.MethodName) object_method_1_code (1 : Nat) (Option.none : Option Jvm.ClassFile.FieldType)), (Jvm.Cond.arrayClass Jvm.ClassFile.FieldType.int), (Jvm.Cond.fieldLink "KindJudge$Classes" (11 : Nat) "KindJudge$Classes" "supers" "[I"), (Jvm.Cond.fieldLink "KindJudge$Classes" (15 : Nat) "KindJudge$Classes" "fieldCounts" "[I"), (Jvm.Cond.fieldLink "KindJudge$Classes" (18 : Nat) "KindJudge$Classes" "fieldTypes" "[I"), (Jvm.Cond.fieldLink "KindJudge$Classes" (21 : Nat) "KindJudge$Classes" "above" "[I")]
set_option maxRecDepth 100000 in
set_option maxHeartbeats 4000000 in
theorem kjS_34 : ∀ w ∈ kjW_34, w ∈ lw_tbl := mv_sub_of [121, 69, 122, 87, 88, 141, 123, 124, 125, 126] (by decide +kernel)
set_option maxRecDepth 100000 in
set_option maxHeartbeats 4000000 in
theorem kjK_34 : mv_mkB kjW_34 kjCl kjKd kjP kjStn kjM_34 = true := by decide +kernel
def kjW_35 : List Jvm.Cond := [(Jvm.Cond.code ({ cls := "KindJudge$Classes", name := "read", desc := "(LKindJudge$Reader;)V" } : Jvm.MethodName) prog_4_method_2_code (3 : Nat) (Option.none : Option Jvm.ClassFile.FieldType)), (Jvm.Cond.initialized "KindJudge$Classes"), (Jvm.Cond.methodLink "KindJudge$Classes" (24 : Nat) ({ cls := "KindJudge$Reader", name := "number", desc := "(II)I" } : Jvm.MethodName)), (Jvm.Cond.instanceMethod ({ cls := "KindJudge$Reader", name := "number", desc := "(II)I" } : Jvm.MethodName)), (Jvm.Cond.selects "KindJudge$Reader" ({ cls := "KindJudge$Reader", name := "number", desc := "(II)I" } : Jvm.MethodName) ({ cls := "KindJudge$Reader", name := "number", desc := "(II)I" } : Jvm.MethodName)), (Jvm.Cond.fieldLink "KindJudge$Classes" (30 : Nat) "KindJudge$Classes" "number" "I")]
set_option maxRecDepth 100000 in
set_option maxHeartbeats 4000000 in
theorem kjS_35 : ∀ w ∈ kjW_35, w ∈ lw_tbl := mv_sub_of [549, 69, 550, 551, 552, 127] (by decide +kernel)
set_option maxRecDepth 100000 in
set_option maxHeartbeats 4000000 in
theorem kjK_35 : mv_mkB kjW_35 kjCl kjKd kjP kjStn kjM_35 = true := by decide +kernel
def kjW_37 : List Jvm.Cond := [(Jvm.Cond.code ({ cls := "KindJudge$Classes", name := "has", desc := "(I)Z" } : Jvm.MethodName) prog_4_method_4_code (2 : Nat) (Option.some Jvm.ClassFile.FieldType.boolean)), (Jvm.Cond.initialized "KindJudge$Classes"), (Jvm.Cond.fieldLink "KindJudge$Classes" (30 : Nat) "KindJudge$Classes" "number" "I")]
set_option maxRecDepth 100000 in
set_option maxHeartbeats 4000000 in
theorem kjS_37 : ∀ w ∈ kjW_37, w ∈ lw_tbl := mv_sub_of [498, 69, 127] (by decide +kernel)
set_option maxRecDepth 100000 in
set_option maxHeartbeats 4000000 in
theorem kjK_37 : mv_mkB kjW_37 kjCl kjKd kjP kjStn kjM_37 = true := by decide +kernel
def kjW_46 : List Jvm.Cond := [(Jvm.Cond.code ({ cls := "KindJudge$Signatures", name := "<init>", desc := "()V" } : Jvm.MethodName) prog_9_method_1_code (1 : Nat) (Option.none : Option Jvm.ClassFile.FieldType)), (Jvm.Cond.initialized "KindJudge$Signatures"), (Jvm.Cond.methodLink "KindJudge$Signatures" (3 : Nat) ({ cls := "java/lang/Object", name := "<init>", desc := "()V" } : Jvm.MethodName)), (Jvm.Cond.instanceMethod ({ cls := "java/lang/Object", name := "<init>", desc := "()V" } : Jvm.MethodName)), (Jvm.Cond.code ({ cls := "java/lang/Object", name := "<init>", desc := "()V" } : Jvm.MethodName) object_method_1_code (1 : Nat) (Option.none : Option Jvm.ClassFile.FieldType)), (Jvm.Cond.arrayClass Jvm.ClassFile.FieldType.int), (Jvm.Cond.fieldLink "KindJudge$Signatures" (11 : Nat) "KindJudge$Signatures" "counts" "[I"), (Jvm.Cond.fieldLink "KindJudge$Signatures" (15 : Nat) "KindJudge$Signatures" "types" "[I"), (Jvm.Cond.fieldLink "KindJudge$Signatures" (18 : Nat) "KindJudge$Signatures" "returned" "[I")]
set_option maxRecDepth 100000 in
set_option maxHeartbeats 4000000 in
theorem kjS_46 : ∀ w ∈ kjW_46, w ∈ lw_tbl := mv_sub_of [146, 70, 147, 87, 88, 141, 148, 149, 150] (by decide +kernel)
set_option maxRecDepth 100000 in
set_option maxHeartbeats 4000000 in
theorem kjK_46 : mv_mkB kjW_46 kjCl kjKd kjP kjStn kjM_46 = true := by decide +kernel
def kjW_47 : List Jvm.Cond := [(Jvm.Cond.code ({ cls := "KindJudge$Signatures", name := "readNumber", desc := "(LKindJudge$Reader;II)V" } : Jvm.MethodName) prog_9_method_2_code (4 : Nat) (Option.none : Option Jvm.ClassFile.FieldType)), (Jvm.Cond.initialized "KindJudge$Signatures"), (Jvm.Cond.methodLink "KindJudge$Signatures" (21 : Nat) ({ cls := "java/lang/Math", name := "min", desc := "(II)I" } : Jvm.MethodName)), (Jvm.Cond.static ({ cls := "java/lang/Math", name := "min", desc := "(II)I" } : Jvm.MethodName)), (Jvm.Cond.initialized "java/lang/Math"), (Jvm.Cond.code ({ cls := "java/lang/Math", name := "min", desc := "(II)I" } : Jvm.MethodName) prog_14_method_69_code (2 : Nat) (Option.some Jvm.ClassFile.FieldType.int)), (Jvm.Cond.methodLink "KindJudge$Signatures" (27 : Nat) ({ cls := "KindJudge$Reader", name := "number", desc := "(II)I" } : Jvm.MethodName)), (Jvm.Cond.instanceMethod ({ cls := "KindJudge$Reader", name := "number", desc := "(II)I" } : Jvm.MethodName)), (Jvm.Cond.selects "KindJudge$Reader" ({ cls := "KindJudge$Reader", name := "number", desc := "(II)I" } : Jvm.MethodName) ({ cls := "KindJudge$Reader", name := "number", desc := "(II)I" } : Jvm.MethodName)), (Jvm.Cond.fieldLink "KindJudge$Signatures" (32 : Nat) "KindJudge$Signatures" "number" "I")]
set_option maxRecDepth 100000 in
set_option maxHeartbeats 4000000 in
theorem kjS_47 : ∀ w ∈ kjW_47, w ∈ lw_tbl := mv_sub_of [578, 70, 579, 485, 75, 486, 580, 551, 552, 151] (by decide +kernel)
set_option maxRecDepth 100000 in
set_option maxHeartbeats 4000000 in
theorem kjK_47 : mv_mkB kjW_47 kjCl kjKd kjP kjStn kjM_47 = true := by decide +kernel
def kjW_49 : List Jvm.Cond := [(Jvm.Cond.code ({ cls := "KindJudge$Signatures", name := "has", desc := "(I)Z" } : Jvm.MethodName) prog_9_method_4_code (2 : Nat) (Option.some Jvm.ClassFile.FieldType.boolean)), (Jvm.Cond.initialized "KindJudge$Signatures"), (Jvm.Cond.fieldLink "KindJudge$Signatures" (32 : Nat) "KindJudge$Signatures" "number" "I")]
set_option maxRecDepth 100000 in
set_option maxHeartbeats 4000000 in
theorem kjS_49 : ∀ w ∈ kjW_49, w ∈ lw_tbl := mv_sub_of [411, 70, 151] (by decide +kernel)
set_option maxRecDepth 100000 in
set_option maxHeartbeats 4000000 in
theorem kjK_49 : mv_mkB kjW_49 kjCl kjKd kjP kjStn kjM_49 = true := by decide +kernel
def kjW_53 : List Jvm.Cond := [(Jvm.Cond.code ({ cls := "KindJudge$Reader", name := "<init>", desc := "(LKindJudge$Bytes;)V" } : Jvm.MethodName) prog_8_method_1_code (2 : Nat) (Option.none : Option Jvm.ClassFile.FieldType)), (Jvm.Cond.initialized "KindJudge$Reader"), (Jvm.Cond.methodLink "KindJudge$Reader" (3 : Nat) ({ cls := "java/lang/Object", name := "<init>", desc := "()V" } : Jvm.MethodName)), (Jvm.Cond.instanceMethod ({ cls := "java/lang/Object", name := "<init>", desc := "()V" } : Jvm.MethodName)), (Jvm.Cond.code ({ cls := "java/lang/Object", name := "<init>", desc := "()V" } : Jvm.MethodName) object_method_1_code (1 : Nat) (Option.none : Option Jvm.ClassFile.FieldType)), (Jvm.Cond.fieldLink "KindJudge$Reader" (9 : Nat) "KindJudge$Reader" "bytes" "LKindJudge$Bytes;")]
set_option maxRecDepth 100000 in
set_option maxHeartbeats 4000000 in
theorem kjS_53 : ∀ w ∈ kjW_53, w ∈ lw_tbl := mv_sub_of [167, 71, 168, 87, 88, 169] (by decide +kernel)
set_option maxRecDepth 100000 in
set_option maxHeartbeats 4000000 in
theorem kjK_53 : mv_mkB kjW_53 kjCl kjKd kjP kjStn kjM_53 = true := by decide +kernel
def kjW_54 : List Jvm.Cond := [(Jvm.Cond.code ({ cls := "KindJudge$Reader", name := "begin", desc := "()V" } : Jvm.MethodName) prog_8_method_2_code (1 : Nat) (Option.none : Option Jvm.ClassFile.FieldType)), (Jvm.Cond.initialized "KindJudge$Reader"), (Jvm.Cond.fieldLink "KindJudge$Reader" (15 : Nat) "KindJudge$Reader" "at" "I"), (Jvm.Cond.fieldLink "KindJudge$Reader" (19 : Nat) "KindJudge$Reader" "stopped" "Z")]
set_option maxRecDepth 100000 in
set_option maxHeartbeats 4000000 in
theorem kjS_54 : ∀ w ∈ kjW_54, w ∈ lw_tbl := mv_sub_of [545, 71, 170, 171] (by decide +kernel)
set_option maxRecDepth 100000 in
set_option maxHeartbeats 4000000 in
theorem kjK_54 : mv_mkB kjW_54 kjCl kjKd kjP kjStn kjM_54 = true := by decide +kernel
def kjW_55 : List Jvm.Cond := [(Jvm.Cond.code ({ cls := "KindJudge$Reader", name := "goesOn", desc := "()Z" } : Jvm.MethodName) prog_8_method_3_code (1 : Nat) (Option.some Jvm.ClassFile.FieldType.boolean)), (Jvm.Cond.initialized "KindJudge$Reader"), (Jvm.Cond.fieldLink "KindJudge$Reader" (19 : Nat) "KindJudge$Reader" "stopped" "Z")]
set_option maxRecDepth 100000 in
set_option maxHeartbeats 4000000 in
theorem kjS_55 : ∀ w ∈ kjW_55, w ∈ lw_tbl := mv_sub_of [566, 71, 171] (by decide +kernel)
set_option maxRecDepth 100000 in
set_option maxHeartbeats 4000000 in
theorem kjK_55 : mv_mkB kjW_55 kjCl kjKd kjP kjStn kjM_55 = true := by decide +kernel
def kjW_56 : List Jvm.Cond := [(Jvm.Cond.code ({ cls := "KindJudge$Reader", name := "isAtEnd", desc := "()Z" } : Jvm.MethodName) prog_8_method_4_code (1 : Nat) (Option.some Jvm.ClassFile.FieldType.boolean)), (Jvm.Cond.initialized "KindJudge$Reader"), (Jvm.Cond.fieldLink "KindJudge$Reader" (19 : Nat) "KindJudge$Reader" "stopped" "Z")]
set_option maxRecDepth 100000 in
set_option maxHeartbeats 4000000 in
theorem kjS_56 : ∀ w ∈ kjW_56, w ∈ lw_tbl := mv_sub_of [622, 71, 171] (by decide +kernel)
set_option maxRecDepth 100000 in
set_option maxHeartbeats 4000000 in
theorem kjK_56 : mv_mkB kjW_56 kjCl kjKd kjP kjStn kjM_56 = true := by decide +kernel
def kjW_57 : List Jvm.Cond := [(Jvm.Cond.code ({ cls := "KindJudge$Reader", name := "place", desc := "()I" } : Jvm.MethodName) prog_8_method_5_code (1 : Nat) (Option.some Jvm.ClassFile.FieldType.int)), (Jvm.Cond.initialized "KindJudge$Reader"), (Jvm.Cond.fieldLink "KindJudge$Reader" (15 : Nat) "KindJudge$Reader" "at" "I")]
set_option maxRecDepth 100000 in
set_option maxHeartbeats 4000000 in
theorem kjS_57 : ∀ w ∈ kjW_57, w ∈ lw_tbl := mv_sub_of [596, 71, 170] (by decide +kernel)
set_option maxRecDepth 100000 in
set_option maxHeartbeats 4000000 in
theorem kjK_57 : mv_mkB kjW_57 kjCl kjKd kjP kjStn kjM_57 = true := by decide +kernel
def kjW_58 : List Jvm.Cond := [(Jvm.Cond.code ({ cls := "KindJudge$Reader", name := "ahead", desc := "()I" } : Jvm.MethodName) prog_8_method_6_code (1 : Nat) (Option.some Jvm.ClassFile.FieldType.int)), (Jvm.Cond.initialized "KindJudge$Reader"), (Jvm.Cond.fieldLink "KindJudge$Reader" (19 : Nat) "KindJudge$Reader" "stopped" "Z"), (Jvm.Cond.fieldLink "KindJudge$Reader" (9 : Nat) "KindJudge$Reader" "bytes" "LKindJudge$Bytes;"), (Jvm.Cond.fieldLink "KindJudge$Reader" (15 : Nat) "KindJudge$Reader" "at" "I"), (Jvm.Cond.methodLink "KindJudge$Reader" (28 : Nat) ({ cls := "KindJudge$Bytes", name := "at", desc := "(I)I" } : Jvm.MethodName)), (Jvm.Cond.instanceMethod ({ cls := "KindJudge$Bytes", name := "at", desc := "(I)I" } : Jvm.MethodName)), (Jvm.Cond.selects "KindJudge$Bytes" ({ cls := "KindJudge$Bytes", name := "at", desc := "(I)I" } : Jvm.MethodName) ({ cls := "KindJudge$Bytes", name := "at", desc := "(I)I" } : Jvm.MethodName))]
set_option maxRecDepth 100000 in
set_option maxHeartbeats 4000000 in
theorem kjS_58 : ∀ w ∈ kjW_58, w ∈ lw_tbl := mv_sub_of [557, 71, 171, 169, 170, 558, 383, 384] (by decide +kernel)
set_option maxRecDepth 100000 in
set_option maxHeartbeats 4000000 in
theorem kjK_58 : mv_mkB kjW_58 kjCl kjKd kjP kjStn kjM_58 = true := by decide +kernel
def kjW_59 : List Jvm.Cond := [(Jvm.Cond.code ({ cls := "KindJudge$Reader", name := "pass", desc := "(Z)Z" } : Jvm.MethodName) prog_8_method_7_code (2 : Nat) (Option.some Jvm.ClassFile.FieldType.boolean)), (Jvm.Cond.initialized "KindJudge$Reader"), (Jvm.Cond.fieldLink "KindJudge$Reader" (19 : Nat) "KindJudge$Reader" "stopped" "Z")]
set_option maxRecDepth 100000 in
set_option maxHeartbeats 4000000 in
theorem kjS_59 : ∀ w ∈ kjW_59, w ∈ lw_tbl := mv_sub_of [562, 71, 171] (by decide +kernel)
set_option maxRecDepth 100000 in
set_option maxHeartbeats 4000000 in
theorem kjK_59 : mv_mkB kjW_59 kjCl kjKd kjP kjStn kjM_59 = true := by decide +kernel
def kjW_60 : List Jvm.Cond := [(Jvm.Cond.code ({ cls := "KindJudge$Reader", name := "number", desc := "(II)I" } : Jvm.MethodName) prog_8_method_8_code (4 : Nat) (Option.some Jvm.ClassFile.FieldType.int)), (Jvm.Cond.initialized "KindJudge$Reader"), (Jvm.Cond.methodLink "KindJudge$Reader" (31 : Nat) ({ cls := "KindJudge$Reader", name := "ahead", desc := "()I" } : Jvm.MethodName)), (Jvm.Cond.instanceMethod ({ cls := "KindJudge$Reader", name := "ahead", desc := "()I" } : Jvm.MethodName)), (Jvm.Cond.selects "KindJudge$Reader" ({ cls := "KindJudge$Reader", name := "ahead", desc := "()I" } : Jvm.MethodName) ({ cls := "KindJudge$Reader", name := "ahead", desc := "()I" } : Jvm.MethodName)), (Jvm.Cond.methodLink "KindJudge$Reader" (35 : Nat) ({ cls := "KindJudge$Reader", name := "pass", desc := "(Z)Z" } : Jvm.MethodName)), (Jvm.Cond.instanceMethod ({ cls := "KindJudge$Reader", name := "pass", desc := "(Z)Z" } : Jvm.MethodName)), (Jvm.Cond.selects "KindJudge$Reader" ({ cls := "KindJudge$Reader", name := "pass", desc := "(Z)Z" } : Jvm.MethodName) ({ cls := "KindJudge$Reader", name := "pass", desc := "(Z)Z" } : Jvm.MethodName))]
set_option maxRecDepth 100000 in
set_option maxHeartbeats 4000000 in
theorem kjS_60 : ∀ w ∈ kjW_60, w ∈ lw_tbl := mv_sub_of [553, 71, 554, 555, 556, 559, 560, 561] (by decide +kernel)
set_option maxRecDepth 100000 in
set_option maxHeartbeats 4000000 in
theorem kjK_60 : mv_mkB kjW_60 kjCl kjKd kjP kjStn kjM_60 = true := by decide +kernel
def kjW_63 : List Jvm.Cond := [(Jvm.Cond.code ({ cls := "KindJudge$Code", name := "<init>", desc := "(LKindJudge$Bytes;LKindJudge$Layout;)V" } : Jvm.MethodName) prog_5_method_1_code (3 : Nat) (Option.none : Option Jvm.ClassFile.FieldType)), (Jvm.Cond.initialized "KindJudge$Code"), (Jvm.Cond.methodLink "KindJudge$Code" (3 : Nat) ({ cls := "java/lang/Object", name := "<init>", desc := "()V" } : Jvm.MethodName)), (Jvm.Cond.instanceMethod ({ cls := "java/lang/Object", name := "<init>", desc := "()V" } : Jvm.MethodName)), (Jvm.Cond.code ({ cls := "java/lang/Object", name := "<init>", desc := "()V" } : Jvm.MethodName) object_method_1_code (1 : Nat) (Option.none : Option Jvm.ClassFile.FieldType)), (Jvm.Cond.arrayClass Jvm.ClassFile.FieldType.boolean), (Jvm.Cond.fieldLink "KindJudge$Code" (11 : Nat) "KindJudge$Code" "begun" "[Z"), (Jvm.Cond.fieldLink "KindJudge$Code" (17 : Nat) "KindJudge$Code" "bytes" "LKindJudge$Bytes;"), (Jvm.Cond.fieldLink "KindJudge$Code" (21 : Nat) "KindJudge$Code" "layout" "LKindJudge$Layout;")]
set_option maxRecDepth 100000 in
set_option maxHeartbeats 4000000 in
theorem kjS_63 : ∀ w ∈ kjW_63, w ∈ lw_tbl := mv_sub_of [220, 72, 221, 87, 88, 232, 224, 222, 223] (by decide +kernel)
set_option maxRecDepth 100000 in
set_option maxHeartbeats 4000000 in
theorem kjK_63 : mv_mkB kjW_63 kjCl kjKd kjP kjStn kjM_63 = true := by decide +kernel
def kjW_66 : List Jvm.Cond := [(Jvm.Cond.code ({ cls := "KindJudge$Code", name := "begins", desc := "(II)Z" } : Jvm.MethodName) prog_5_method_4_code (4 : Nat) (Option.some Jvm.ClassFile.FieldType.boolean)), (Jvm.Cond.initialized "KindJudge$Code"), (Jvm.Cond.fieldLink "KindJudge$Code" (21 : Nat) "KindJudge$Code" "layout" "LKindJudge$Layout;"), (Jvm.Cond.methodLink "KindJudge$Code" (42 : Nat) ({ cls := "KindJudge$Layout", name := "offset", desc := "(II)I" } : Jvm.MethodName)), (Jvm.Cond.instanceMethod ({ cls := "KindJudge$Layout", name := "offset", desc := "(II)I" } : Jvm.MethodName)), (Jvm.Cond.selects "KindJudge$Layout" ({ cls := "KindJudge$Layout", name := "offset", desc := "(II)I" } : Jvm.MethodName) ({ cls := "KindJudge$Layout", name := "offset", desc := "(II)I" } : Jvm.MethodName))]
set_option maxRecDepth 100000 in
set_option maxHeartbeats 4000000 in
theorem kjS_66 : ∀ w ∈ kjW_66, w ∈ lw_tbl := mv_sub_of [332, 72, 223, 333, 334, 335] (by decide +kernel)
set_option maxRecDepth 100000 in
set_option maxHeartbeats 4000000 in
theorem kjK_66 : mv_mkB kjW_66 kjCl kjKd kjP kjStn kjM_66 = true := by decide +kernel
def kjW_77 : List Jvm.Cond := [(Jvm.Cond.code ({ cls := "KindJudge$Flow", name := "<init>", desc := "(LKindJudge$Layout;LKindJudge$Code;)V" } : Jvm.MethodName) prog_6_method_1_code (3 : Nat) (Option.none : Option Jvm.ClassFile.FieldType)), (Jvm.Cond.initialized "KindJudge$Flow"), (Jvm.Cond.methodLink "KindJudge$Flow" (3 : Nat) ({ cls := "java/lang/Object", name := "<init>", desc := "()V" } : Jvm.MethodName)), (Jvm.Cond.instanceMethod ({ cls := "java/lang/Object", name := "<init>", desc := "()V" } : Jvm.MethodName)), (Jvm.Cond.code ({ cls := "java/lang/Object", name := "<init>", desc := "()V" } : Jvm.MethodName) object_method_1_code (1 : Nat) (Option.none : Option Jvm.ClassFile.FieldType)), (Jvm.Cond.arrayClass Jvm.ClassFile.FieldType.byte), (Jvm.Cond.fieldLink "KindJudge$Flow" (11 : Nat) "KindJudge$Flow" "heights" "[B"), (Jvm.Cond.arrayClass Jvm.ClassFile.FieldType.long), (Jvm.Cond.fieldLink "KindJudge$Flow" (17 : Nat) "KindJudge$Flow" "frames" "[J"), (Jvm.Cond.arrayClass Jvm.ClassFile.FieldType.boolean), (Jvm.Cond.fieldLink "KindJudge$Flow" (23 : Nat) "KindJudge$Flow" "changed" "[Z"), (Jvm.Cond.fieldLink "KindJudge$Flow" (27 : Nat) "KindJudge$Flow" "layout" "LKindJudge$Layout;"), (Jvm.Cond.fieldLink "KindJudge$Flow" (31 : Nat) "KindJudge$Flow" "code" "LKindJudge$Code;")]
set_option maxRecDepth 100000 in
set_option maxHeartbeats 4000000 in
theorem kjS_77 : ∀ w ∈ kjW_77, w ∈ lw_tbl := mv_sub_of [237, 73, 238, 87, 88, 110, 241, 276, 242, 232, 243, 239, 240] (by decide +kernel)
set_option maxRecDepth 100000 in
set_option maxHeartbeats 4000000 in
theorem kjK_77 : mv_mkB kjW_77 kjCl kjKd kjP kjStn kjM_77 = true := by decide +kernel
def kjW_100 : List Jvm.Cond := [(Jvm.Cond.code ({ cls := "KindJudgeModel", name := "<init>", desc := "()V" } : Jvm.MethodName) prog_11_method_1_code (1 : Nat) (Option.none : Option Jvm.ClassFile.FieldType)), (Jvm.Cond.initialized "KindJudgeModel"), (Jvm.Cond.methodLink "KindJudgeModel" (1 : Nat) ({ cls := "java/lang/Object", name := "<init>", desc := "()V" } : Jvm.MethodName)), (Jvm.Cond.instanceMethod ({ cls := "java/lang/Object", name := "<init>", desc := "()V" } : Jvm.MethodName)), (Jvm.Cond.code ({ cls := "java/lang/Object", name := "<init>", desc := "()V" } : Jvm.MethodName) object_method_1_code (1 : Nat) (Option.none : Option Jvm.ClassFile.FieldType)), (Jvm.Cond.arrayClass Jvm.ClassFile.FieldType.int), (Jvm.Cond.fieldLink "KindJudgeModel" (7 : Nat) "KindJudgeModel" "bytes" "[I"), (Jvm.Cond.fieldLink "KindJudgeModel" (13 : Nat) "KindJudgeModel" "read" "[I"), (Jvm.Cond.fieldLink "KindJudgeModel" (16 : Nat) "KindJudgeModel" "file" "[I"), (Jvm.Cond.fieldLink "KindJudgeModel" (19 : Nat) "KindJudgeModel" "above" "[I"), (Jvm.Cond.fieldLink "KindJudgeModel" (22 : Nat) "KindJudgeModel" "fields" "[I"), (Jvm.Cond.fieldLink "KindJudgeModel" (25 : Nat) "KindJudgeModel" "fieldType" "[I"), (Jvm.Cond.fieldLink "KindJudgeModel" (28 : Nat) "KindJudgeModel" "selParams" "[I"), (Jvm.Cond.fieldLink "KindJudgeModel" (31 : Nat) "KindJudgeModel" "selType" "[I"), (Jvm.Cond.fieldLink "KindJudgeModel" (34 : Nat) "KindJudgeModel" "selReturn" "[I"), (Jvm.Cond.fieldLink "KindJudgeModel" (37 : Nat) "KindJudgeModel" "params" "[I"), (Jvm.Cond.fieldLink "KindJudgeModel" (40 : Nat) "KindJudgeModel" "paramType" "[I"), (Jvm.Cond.fieldLink "KindJudgeModel" (43 : Nat) "KindJudgeModel" "returns" "[I"), (Jvm.Cond.fieldLink "KindJudgeModel" (46 : Nat) "KindJudgeModel" "locals" "[I"), (Jvm.Cond.fieldLink "KindJudgeModel" (49 : Nat) "KindJudgeModel" "most" "[I"), (Jvm.Cond.fieldLink "KindJudgeModel" (52 : Nat) "KindJudgeModel" "size" "[I"), (Jvm.Cond.fieldLink "KindJudgeModel" (55 : Nat) "KindJudgeModel" "code" "[I"), (Jvm.Cond.arrayClass Jvm.ClassFile.FieldType.boolean), (Jvm.Cond.fieldLink "KindJudgeModel" (58 : Nat) "KindJudgeModel" "begins" "[Z"), (Jvm.Cond.fieldLink "KindJudgeModel" (62 : Nat) "KindJudgeModel" "table" "[I"), (Jvm.Cond.fieldLink "KindJudgeModel" (65 : Nat) "KindJudgeModel" "height" "[I"), (Jvm.Cond.fieldLink "KindJudgeModel" (68 : Nat) "KindJudgeModel" "kinds" "[I"), (Jvm.Cond.fieldLink "KindJudgeModel" (71 : Nat) "KindJudgeModel" "next" "[I")]
set_option maxRecDepth 100000 in
set_option maxHeartbeats 4000000 in
theorem kjS_100 : ∀ w ∈ kjW_100, w ∈ lw_tbl := mv_sub_of [828, 74, 829, 87, 88, 141, 833, 834, 836, 843, 844, 845, 847, 848, 849, 851, 852, 853, 854, 855, 856, 857, 232, 858, 859, 860, 861, 862] (by decide +kernel)
set_option maxRecDepth 100000 in
set_option maxHeartbeats 4000000 in
theorem kjH_100 : mv_hdB kjW_100 kjM_100 = true := by decide +kernel
set_option maxRecDepth 100000 in
set_option maxHeartbeats 4000000 in
theorem kjK_100_0 : (kjT_100.take 40).all (mv_rowB kjW_100 kjCl kjKd kjP kjStn kjM_100) = true := by decide +kernel
set_option maxRecDepth 100000 in
set_option maxHeartbeats 4000000 in
theorem kjK_100_40 : ((kjT_100.drop 40).take 40).all (mv_rowB kjW_100 kjCl kjKd kjP kjStn kjM_100) = true := by decide +kernel
end
section
set_option maxRecDepth 100000 in
set_option maxHeartbeats 4000000 in
theorem kjK_100_80 : (kjT_100.drop 80).all (mv_rowB kjW_100 kjCl kjKd kjP kjStn kjM_100) = true := by decide +kernel
set_option maxRecDepth 100000 in
set_option maxHeartbeats 4000000 in
theorem kjK_100 : mv_mkB kjW_100 kjCl kjKd kjP kjStn kjM_100 = true := mv_mkB_of kjH_100 (mv_all_split (l := kjT_100) 40 kjK_100_0 (mv_all_split (l := (kjT_100.drop 40)) 40 kjK_100_40 (show ((kjT_100.drop 40).drop 40).all _ = true by rw [List.drop_drop]; exact kjK_100_80)))
def kjW_101 : List Jvm.Cond := [(Jvm.Cond.code ({ cls := "KindJudgeModel", name := "thrown", desc := "()I" } : Jvm.MethodName) prog_11_method_2_code (1 : Nat) (Option.some Jvm.ClassFile.FieldType.int)), (Jvm.Cond.initialized "KindJudgeModel"), (Jvm.Cond.fieldLink "KindJudgeModel" (74 : Nat) "KindJudgeModel" "thrown" "I")]
set_option maxRecDepth 100000 in
set_option maxHeartbeats 4000000 in
theorem kjS_101 : ∀ w ∈ kjW_101, w ∈ lw_tbl := mv_sub_of [945, 74, 830] (by decide +kernel)
set_option maxRecDepth 100000 in
set_option maxHeartbeats 4000000 in
theorem kjK_101 : mv_mkB kjW_101 kjCl kjKd kjP kjStn kjM_101 = true := by decide +kernel
def kjW_102 : List Jvm.Cond := [(Jvm.Cond.code ({ cls := "KindJudgeModel", name := "raise", desc := "(I)I" } : Jvm.MethodName) prog_11_method_3_code (2 : Nat) (Option.some Jvm.ClassFile.FieldType.int)), (Jvm.Cond.initialized "KindJudgeModel"), (Jvm.Cond.fieldLink "KindJudgeModel" (74 : Nat) "KindJudgeModel" "thrown" "I")]
set_option maxRecDepth 100000 in
set_option maxHeartbeats 4000000 in
theorem kjS_102 : ∀ w ∈ kjW_102, w ∈ lw_tbl := mv_sub_of [1087, 74, 830] (by decide +kernel)
set_option maxRecDepth 100000 in
set_option maxHeartbeats 4000000 in
theorem kjK_102 : mv_mkB kjW_102 kjCl kjKd kjP kjStn kjM_102 = true := by decide +kernel
def kjW_104 : List Jvm.Cond := [(Jvm.Cond.code ({ cls := "KindJudgeModel", name := "put", desc := "(JI)Z" } : Jvm.MethodName) prog_11_method_5_code (5 : Nat) (Option.some Jvm.ClassFile.FieldType.boolean)), (Jvm.Cond.initialized "KindJudgeModel"), (Jvm.Cond.fieldLink "KindJudgeModel" (74 : Nat) "KindJudgeModel" "thrown" "I"), (Jvm.Cond.fieldLink "KindJudgeModel" (78 : Nat) "KindJudgeModel" "together" "I"), (Jvm.Cond.fieldLink "KindJudgeModel" (7 : Nat) "KindJudgeModel" "bytes" "[I"), (Jvm.Cond.constantLong "KindJudgeModel" (81 : Nat) (255 : Int64))]
set_option maxRecDepth 100000 in
set_option maxHeartbeats 4000000 in
theorem kjS_104 : ∀ w ∈ kjW_104, w ∈ lw_tbl := mv_sub_of [949, 74, 830, 832, 833, 950] (by decide +kernel)
set_option maxRecDepth 100000 in
set_option maxHeartbeats 4000000 in
theorem kjK_104 : mv_mkB kjW_104 kjCl kjKd kjP kjStn kjM_104 = true := by decide +kernel
def kjW_105 : List Jvm.Cond := [(Jvm.Cond.code ({ cls := "KindJudgeModel", name := "next", desc := "(II)I" } : Jvm.MethodName) prog_11_method_6_code (3 : Nat) (Option.some Jvm.ClassFile.FieldType.int)), (Jvm.Cond.initialized "KindJudgeModel"), (Jvm.Cond.fieldLink "KindJudgeModel" (83 : Nat) "KindJudgeModel" "bad" "Z"), (Jvm.Cond.fieldLink "KindJudgeModel" (87 : Nat) "KindJudgeModel" "at" "I"), (Jvm.Cond.fieldLink "KindJudgeModel" (90 : Nat) "KindJudgeModel" "readLong" "I")]
set_option maxRecDepth 100000 in
set_option maxHeartbeats 4000000 in
theorem kjS_105 : ∀ w ∈ kjW_105, w ∈ lw_tbl := mv_sub_of [966, 74, 866, 865, 835] (by decide +kernel)
set_option maxRecDepth 100000 in
set_option maxHeartbeats 4000000 in
theorem kjK_105 : mv_mkB kjW_105 kjCl kjKd kjP kjStn kjM_105 = true := by decide +kernel
def kjW_114 : List Jvm.Cond := [(Jvm.Cond.code ({ cls := "KindJudgeModel", name := "takeApart", desc := "()Z" } : Jvm.MethodName) prog_11_method_15_code (2 : Nat) (Option.some Jvm.ClassFile.FieldType.boolean)), (Jvm.Cond.initialized "KindJudgeModel"), (Jvm.Cond.fieldLink "KindJudgeModel" (87 : Nat) "KindJudgeModel" "at" "I"), (Jvm.Cond.fieldLink "KindJudgeModel" (83 : Nat) "KindJudgeModel" "bad" "Z"), (Jvm.Cond.fieldLink "KindJudgeModel" (97 : Nat) "KindJudgeModel" "classes" "I"), (Jvm.Cond.methodLink "KindJudgeModel" (100 : Nat) ({ cls := "KindJudgeModel", name := "next", desc := "(II)I" } : Jvm.MethodName)), (Jvm.Cond.instanceMethod ({ cls := "KindJudgeModel", name := "next", desc := "(II)I" } : Jvm.MethodName)), (Jvm.Cond.selects "KindJudgeModel" ({ cls := "KindJudgeModel", name := "next", desc := "(II)I" } : Jvm.MethodName) ({ cls := "KindJudgeModel", name := "next", desc := "(II)I" } : Jvm.MethodName)), (Jvm.Cond.fieldLink "KindJudgeModel" (124 : Nat) "KindJudgeModel" "selectors" "I"), (Jvm.Cond.fieldLink "KindJudgeModel" (114 : Nat) "KindJudgeModel" "methods" "I")]
set_option maxRecDepth 100000 in
set_option maxHeartbeats 4000000 in
theorem kjS_114 : ∀ w ∈ kjW_114, w ∈ lw_tbl := mv_sub_of [962, 74, 865, 866, 842, 963, 965, 29, 846, 850] (by decide +kernel)
set_option maxRecDepth 100000 in
set_option maxHeartbeats 4000000 in
theorem kjH_114 : mv_hdB kjW_114 kjM_114 = true := by decide +kernel
set_option maxRecDepth 100000 in
set_option maxHeartbeats 4000000 in
theorem kjK_114_0 : (kjT_114.take 40).all (mv_rowB kjW_114 kjCl kjKd kjP kjStn kjM_114) = true := by decide +kernel
set_option maxRecDepth 100000 in
set_option maxHeartbeats 4000000 in
theorem kjK_114_40 : (kjT_114.drop 40).all (mv_rowB kjW_114 kjCl kjKd kjP kjStn kjM_114) = true := by decide +kernel
set_option maxRecDepth 100000 in
set_option maxHeartbeats 4000000 in
theorem kjK_114 : mv_mkB kjW_114 kjCl kjKd kjP kjStn kjM_114 = true := mv_mkB_of kjH_114 (mv_all_split (l := kjT_114) 40 kjK_114_0 kjK_114_40)
def kjW_121 : List Jvm.Cond := [(Jvm.Cond.code ({ cls := "KindJudgeModel", name := "findFault", desc := "(III)Z" } : Jvm.MethodName) prog_11_method_22_code (4 : Nat) (Option.some Jvm.ClassFile.FieldType.boolean)), (Jvm.Cond.initialized "KindJudgeModel"), (Jvm.Cond.fieldLink "KindJudgeModel" (150 : Nat) "KindJudgeModel" "fault" "I"), (Jvm.Cond.fieldLink "KindJudgeModel" (153 : Nat) "KindJudgeModel" "faultMethod" "I"), (Jvm.Cond.fieldLink "KindJudgeModel" (156 : Nat) "KindJudgeModel" "faultPlace" "I")]
set_option maxRecDepth 100000 in
set_option maxHeartbeats 4000000 in
theorem kjS_121 : ∀ w ∈ kjW_121, w ∈ lw_tbl := mv_sub_of [1005, 74, 839, 841, 840] (by decide +kernel)
set_option maxRecDepth 100000 in
set_option maxHeartbeats 4000000 in
theorem kjK_121 : mv_mkB kjW_121 kjCl kjKd kjP kjStn kjM_121 = true := by decide +kernel
def kjW_122 : List Jvm.Cond := [(Jvm.Cond.code ({ cls := "KindJudgeModel", name := "isFine", desc := "()Z" } : Jvm.MethodName) prog_11_method_23_code (3 : Nat) (Option.some Jvm.ClassFile.FieldType.boolean)), (Jvm.Cond.initialized "KindJudgeModel"), (Jvm.Cond.methodLink "KindJudgeModel" (159 : Nat) ({ cls := "KindJudgeModel", name := "takeApart", desc := "()Z" } : Jvm.MethodName)), (Jvm.Cond.instanceMethod ({ cls := "KindJudgeModel", name := "takeApart", desc := "()Z" } : Jvm.MethodName)), (Jvm.Cond.selects "KindJudgeModel" ({ cls := "KindJudgeModel", name := "takeApart", desc := "()Z" } : Jvm.MethodName) ({ cls := "KindJudgeModel", name := "takeApart", desc := "()Z" } : Jvm.MethodName)), (Jvm.Cond.fieldLink "KindJudgeModel" (87 : Nat) "KindJudgeModel" "at" "I"), (Jvm.Cond.methodLink "KindJudgeModel" (163 : Nat) ({ cls := "KindJudgeModel", name := "findFault", desc := "(III)Z" } : Jvm.MethodName)), (Jvm.Cond.instanceMethod ({ cls := "KindJudgeModel", name := "findFault", desc := "(III)Z" } : Jvm.MethodName)), (Jvm.Cond.selects "KindJudgeModel" ({ cls := "KindJudgeModel", name := "findFault", desc := "(III)Z" } : Jvm.MethodName) ({ cls := "KindJudgeModel", name := "findFault", desc := "(III)Z" } : Jvm.MethodName))]
set_option maxRecDepth 100000 in
set_option maxHeartbeats 4000000 in
theorem kjS_122 : ∀ w ∈ kjW_122, w ∈ lw_tbl := mv_sub_of [958, 74, 959, 961, 28, 865, 1002, 1004, 38] (by decide +kernel)
set_option maxRecDepth 100000 in
set_option maxHeartbeats 4000000 in
theorem kjK_122 : mv_mkB kjW_122 kjCl kjKd kjP kjStn kjM_122 = true := by decide +kernel
def kjW_123 : List Jvm.Cond := [(Jvm.Cond.code ({ cls := "KindJudgeModel", name := "load", desc := "()I" } : Jvm.MethodName) prog_11_method_24_code (3 : Nat) (Option.some Jvm.ClassFile.FieldType.int)), (Jvm.Cond.initialized "KindJudgeModel"), (Jvm.Cond.fieldLink "KindJudgeModel" (78 : Nat) "KindJudgeModel" "together" "I"), (Jvm.Cond.fieldLink "KindJudgeModel" (90 : Nat) "KindJudgeModel" "readLong" "I"), (Jvm.Cond.methodLink "KindJudgeModel" (178 : Nat) ({ cls := "KindJudgeModel", name := "isFine", desc := "()Z" } : Jvm.MethodName)), (Jvm.Cond.instanceMethod ({ cls := "KindJudgeModel", name := "isFine", desc := "()Z" } : Jvm.MethodName)), (Jvm.Cond.selects "KindJudgeModel" ({ cls := "KindJudgeModel", name := "isFine", desc := "()Z" } : Jvm.MethodName) ({ cls := "KindJudgeModel", name := "isFine", desc := "()Z" } : Jvm.MethodName)), (Jvm.Cond.fieldLink "KindJudgeModel" (184 : Nat) "KindJudgeModel" "isFile" "Z"), (Jvm.Cond.methodLink "KindJudgeModel" (193 : Nat) ({ cls := "KindJudgeModel", name := "raise", desc := "(I)I" } : Jvm.MethodName)), (Jvm.Cond.instanceMethod ({ cls := "KindJudgeModel", name := "raise", desc := "(I)I" } : Jvm.MethodName)), (Jvm.Cond.selects "KindJudgeModel" ({ cls := "KindJudgeModel", name := "raise", desc := "(I)I" } : Jvm.MethodName) ({ cls := "KindJudgeModel", name := "raise", desc := "(I)I" } : Jvm.MethodName))]
set_option maxRecDepth 100000 in
set_option maxHeartbeats 4000000 in
theorem kjS_123 : ∀ w ∈ kjW_123, w ∈ lw_tbl := mv_sub_of [954, 74, 832, 835, 955, 957, 27, 838, 1084, 1086, 57] (by decide +kernel)
set_option maxRecDepth 100000 in
set_option maxHeartbeats 4000000 in
theorem kjK_123 : mv_mkB kjW_123 kjCl kjKd kjP kjStn kjM_123 = true := by decide +kernel
def kjW_125 : List Jvm.Cond := [(Jvm.Cond.code ({ cls := "KindJudgeModel", name := "fault", desc := "(I)I" } : Jvm.MethodName) prog_11_method_26_code (2 : Nat) (Option.some Jvm.ClassFile.FieldType.int)), (Jvm.Cond.initialized "KindJudgeModel"), (Jvm.Cond.fieldLink "KindJudgeModel" (74 : Nat) "KindJudgeModel" "thrown" "I"), (Jvm.Cond.fieldLink "KindJudgeModel" (150 : Nat) "KindJudgeModel" "fault" "I"), (Jvm.Cond.fieldLink "KindJudgeModel" (156 : Nat) "KindJudgeModel" "faultPlace" "I"), (Jvm.Cond.fieldLink "KindJudgeModel" (153 : Nat) "KindJudgeModel" "faultMethod" "I")]
set_option maxRecDepth 100000 in
set_option maxHeartbeats 4000000 in
theorem kjS_125 : ∀ w ∈ kjW_125, w ∈ lw_tbl := mv_sub_of [1091, 74, 830, 839, 840, 841] (by decide +kernel)
set_option maxRecDepth 100000 in
set_option maxHeartbeats 4000000 in
theorem kjK_125 : mv_mkB kjW_125 kjCl kjKd kjP kjStn kjM_125 = true := by decide +kernel
def kjW_139 : List Jvm.Cond := [(Jvm.Cond.code ({ cls := "KindJudgeModel", name := "kind", desc := "(III)I" } : Jvm.MethodName) prog_11_method_40_code (5 : Nat) (Option.some Jvm.ClassFile.FieldType.int)), (Jvm.Cond.initialized "KindJudgeModel"), (Jvm.Cond.fieldLink "KindJudgeModel" (74 : Nat) "KindJudgeModel" "thrown" "I"), (Jvm.Cond.fieldLink "KindJudgeModel" (184 : Nat) "KindJudgeModel" "isFile" "Z")]
set_option maxRecDepth 100000 in
set_option maxHeartbeats 4000000 in
theorem kjS_139 : ∀ w ∈ kjW_139, w ∈ lw_tbl := mv_sub_of [1095, 74, 830, 838] (by decide +kernel)
set_option maxRecDepth 100000 in
set_option maxHeartbeats 4000000 in
theorem kjK_139 : mv_mkB kjW_139 kjCl kjKd kjP kjStn kjM_139 = true := by decide +kernel
def kjW_140 : List Jvm.Cond := [(Jvm.Cond.code ({ cls := "KindJudgeModel", name := "isMethod", desc := "(I)Z" } : Jvm.MethodName) prog_11_method_41_code (2 : Nat) (Option.some Jvm.ClassFile.FieldType.boolean)), (Jvm.Cond.initialized "KindJudgeModel"), (Jvm.Cond.fieldLink "KindJudgeModel" (184 : Nat) "KindJudgeModel" "isFile" "Z")]
set_option maxRecDepth 100000 in
set_option maxHeartbeats 4000000 in
theorem kjS_140 : ∀ w ∈ kjW_140, w ∈ lw_tbl := mv_sub_of [1107, 74, 838] (by decide +kernel)
set_option maxRecDepth 100000 in
set_option maxHeartbeats 4000000 in
theorem kjK_140 : mv_mkB kjW_140 kjCl kjKd kjP kjStn kjM_140 = true := by decide +kernel
def kjW_141 : List Jvm.Cond := [(Jvm.Cond.code ({ cls := "KindJudgeModel", name := "isBegun", desc := "(II)Z" } : Jvm.MethodName) prog_11_method_42_code (3 : Nat) (Option.some Jvm.ClassFile.FieldType.boolean)), (Jvm.Cond.initialized "KindJudgeModel"), (Jvm.Cond.methodLink "KindJudgeModel" (238 : Nat) ({ cls := "KindJudgeModel", name := "isMethod", desc := "(I)Z" } : Jvm.MethodName)), (Jvm.Cond.instanceMethod ({ cls := "KindJudgeModel", name := "isMethod", desc := "(I)Z" } : Jvm.MethodName)), (Jvm.Cond.selects "KindJudgeModel" ({ cls := "KindJudgeModel", name := "isMethod", desc := "(I)Z" } : Jvm.MethodName) ({ cls := "KindJudgeModel", name := "isMethod", desc := "(I)Z" } : Jvm.MethodName))]
set_option maxRecDepth 100000 in
set_option maxHeartbeats 4000000 in
theorem kjS_141 : ∀ w ∈ kjW_141, w ∈ lw_tbl := mv_sub_of [1103, 74, 1104, 1106, 59] (by decide +kernel)
set_option maxRecDepth 100000 in
set_option maxHeartbeats 4000000 in
theorem kjK_141 : mv_mkB kjW_141 kjCl kjKd kjP kjStn kjM_141 = true := by decide +kernel
def kjW_144 : List Jvm.Cond := [(Jvm.Cond.code ({ cls := "KindJudgeModel", name := "look", desc := "(III)I" } : Jvm.MethodName) prog_11_method_45_code (4 : Nat) (Option.some Jvm.ClassFile.FieldType.int)), (Jvm.Cond.initialized "KindJudgeModel"), (Jvm.Cond.methodLink "KindJudgeModel" (241 : Nat) ({ cls := "KindJudgeModel", name := "isBegun", desc := "(II)Z" } : Jvm.MethodName)), (Jvm.Cond.instanceMethod ({ cls := "KindJudgeModel", name := "isBegun", desc := "(II)Z" } : Jvm.MethodName)), (Jvm.Cond.selects "KindJudgeModel" ({ cls := "KindJudgeModel", name := "isBegun", desc := "(II)Z" } : Jvm.MethodName) ({ cls := "KindJudgeModel", name := "isBegun", desc := "(II)Z" } : Jvm.MethodName)), (Jvm.Cond.fieldLink "KindJudgeModel" (74 : Nat) "KindJudgeModel" "thrown" "I")]
set_option maxRecDepth 100000 in
set_option maxHeartbeats 4000000 in
theorem kjS_144 : ∀ w ∈ kjW_144, w ∈ lw_tbl := mv_sub_of [1099, 74, 1100, 1102, 58, 830] (by decide +kernel)
set_option maxRecDepth 100000 in
set_option maxHeartbeats 4000000 in
theorem kjK_144 : mv_mkB kjW_144 kjCl kjKd kjP kjStn kjM_144 = true := by decide +kernel
end
section
def kjW_146 : List Jvm.Cond := [(Jvm.Cond.code ({ cls := "KindJudgeModel", name := "ways", desc := "(II)I" } : Jvm.MethodName) prog_11_method_47_code (5 : Nat) (Option.some Jvm.ClassFile.FieldType.int)), (Jvm.Cond.initialized "KindJudgeModel"), (Jvm.Cond.fieldLink "KindJudgeModel" (74 : Nat) "KindJudgeModel" "thrown" "I"), (Jvm.Cond.methodLink "KindJudgeModel" (241 : Nat) ({ cls := "KindJudgeModel", name := "isBegun", desc := "(II)Z" } : Jvm.MethodName)), (Jvm.Cond.instanceMethod ({ cls := "KindJudgeModel", name := "isBegun", desc := "(II)Z" } : Jvm.MethodName)), (Jvm.Cond.selects "KindJudgeModel" ({ cls := "KindJudgeModel", name := "isBegun", desc := "(II)Z" } : Jvm.MethodName) ({ cls := "KindJudgeModel", name := "isBegun", desc := "(II)Z" } : Jvm.MethodName))]
set_option maxRecDepth 100000 in
set_option maxHeartbeats 4000000 in
theorem kjS_146 : ∀ w ∈ kjW_146, w ∈ lw_tbl := mv_sub_of [1119, 74, 830, 1100, 1102, 58] (by decide +kernel)
set_option maxRecDepth 100000 in
set_option maxHeartbeats 4000000 in
theorem kjK_146 : mv_mkB kjW_146 kjCl kjKd kjP kjStn kjM_146 = true := by decide +kernel
def kjW_147 : List Jvm.Cond := [(Jvm.Cond.code ({ cls := "KindJudgeModel", name := "count", desc := "(II)I" } : Jvm.MethodName) prog_11_method_48_code (8 : Nat) (Option.some Jvm.ClassFile.FieldType.int)), (Jvm.Cond.initialized "KindJudgeModel"), (Jvm.Cond.fieldLink "KindJudgeModel" (74 : Nat) "KindJudgeModel" "thrown" "I"), (Jvm.Cond.methodLink "KindJudgeModel" (238 : Nat) ({ cls := "KindJudgeModel", name := "isMethod", desc := "(I)Z" } : Jvm.MethodName)), (Jvm.Cond.instanceMethod ({ cls := "KindJudgeModel", name := "isMethod", desc := "(I)Z" } : Jvm.MethodName)), (Jvm.Cond.selects "KindJudgeModel" ({ cls := "KindJudgeModel", name := "isMethod", desc := "(I)Z" } : Jvm.MethodName) ({ cls := "KindJudgeModel", name := "isMethod", desc := "(I)Z" } : Jvm.MethodName))]
set_option maxRecDepth 100000 in
set_option maxHeartbeats 4000000 in
theorem kjS_147 : ∀ w ∈ kjW_147, w ∈ lw_tbl := mv_sub_of [1127, 74, 830, 1104, 1106, 59] (by decide +kernel)
set_option maxRecDepth 100000 in
set_option maxHeartbeats 4000000 in
theorem kjK_147 : mv_mkB kjW_147 kjCl kjKd kjP kjStn kjM_147 = true := by decide +kernel
def kjW_149 : List Jvm.Cond := [(Jvm.Cond.code ({ cls := "KindJudgeModel", name := "fits", desc := "(II)I" } : Jvm.MethodName) prog_11_method_50_code (3 : Nat) (Option.some Jvm.ClassFile.FieldType.int)), (Jvm.Cond.initialized "KindJudgeModel"), (Jvm.Cond.fieldLink "KindJudgeModel" (74 : Nat) "KindJudgeModel" "thrown" "I"), (Jvm.Cond.fieldLink "KindJudgeModel" (184 : Nat) "KindJudgeModel" "isFile" "Z")]
set_option maxRecDepth 100000 in
set_option maxHeartbeats 4000000 in
theorem kjS_149 : ∀ w ∈ kjW_149, w ∈ lw_tbl := mv_sub_of [1131, 74, 830, 838] (by decide +kernel)
set_option maxRecDepth 100000 in
set_option maxHeartbeats 4000000 in
theorem kjK_149 : mv_mkB kjW_149 kjCl kjKd kjP kjStn kjM_149 = true := by decide +kernel
def kjW_150 : List Jvm.Cond := [(Jvm.Cond.code ({ cls := "KindJudgeModel", name := "meet", desc := "(II)I" } : Jvm.MethodName) prog_11_method_51_code (3 : Nat) (Option.some Jvm.ClassFile.FieldType.int)), (Jvm.Cond.initialized "KindJudgeModel"), (Jvm.Cond.fieldLink "KindJudgeModel" (74 : Nat) "KindJudgeModel" "thrown" "I"), (Jvm.Cond.fieldLink "KindJudgeModel" (184 : Nat) "KindJudgeModel" "isFile" "Z")]
set_option maxRecDepth 100000 in
set_option maxHeartbeats 4000000 in
theorem kjS_150 : ∀ w ∈ kjW_150, w ∈ lw_tbl := mv_sub_of [1139, 74, 830, 838] (by decide +kernel)
set_option maxRecDepth 100000 in
set_option maxHeartbeats 4000000 in
theorem kjK_150 : mv_mkB kjW_150 kjCl kjKd kjP kjStn kjM_150 = true := by decide +kernel
def kjW_151 : List Jvm.Cond := [(Jvm.Cond.code ({ cls := "KindJudgeModel", name := "method", desc := "(II)I" } : Jvm.MethodName) prog_11_method_52_code (3 : Nat) (Option.some Jvm.ClassFile.FieldType.int)), (Jvm.Cond.initialized "KindJudgeModel"), (Jvm.Cond.fieldLink "KindJudgeModel" (74 : Nat) "KindJudgeModel" "thrown" "I"), (Jvm.Cond.fieldLink "KindJudgeModel" (184 : Nat) "KindJudgeModel" "isFile" "Z")]
set_option maxRecDepth 100000 in
set_option maxHeartbeats 4000000 in
theorem kjS_151 : ∀ w ∈ kjW_151, w ∈ lw_tbl := mv_sub_of [1143, 74, 830, 838] (by decide +kernel)
set_option maxRecDepth 100000 in
set_option maxHeartbeats 4000000 in
theorem kjK_151 : mv_mkB kjW_151 kjCl kjKd kjP kjStn kjM_151 = true := by decide +kernel
def kjW_152 : List Jvm.Cond := [(Jvm.Cond.code ({ cls := "KindJudgeModel", name := "type", desc := "(II)I" } : Jvm.MethodName) prog_11_method_53_code (3 : Nat) (Option.some Jvm.ClassFile.FieldType.int)), (Jvm.Cond.initialized "KindJudgeModel"), (Jvm.Cond.fieldLink "KindJudgeModel" (74 : Nat) "KindJudgeModel" "thrown" "I"), (Jvm.Cond.fieldLink "KindJudgeModel" (184 : Nat) "KindJudgeModel" "isFile" "Z")]
set_option maxRecDepth 100000 in
set_option maxHeartbeats 4000000 in
theorem kjS_152 : ∀ w ∈ kjW_152, w ∈ lw_tbl := mv_sub_of [1147, 74, 830, 838] (by decide +kernel)
set_option maxRecDepth 100000 in
set_option maxHeartbeats 4000000 in
theorem kjK_152 : mv_mkB kjW_152 kjCl kjKd kjP kjStn kjM_152 = true := by decide +kernel
def kjW_153 : List Jvm.Cond := [(Jvm.Cond.code ({ cls := "KindJudgeModel", name := "total", desc := "(I)I" } : Jvm.MethodName) prog_11_method_54_code (2 : Nat) (Option.some Jvm.ClassFile.FieldType.int)), (Jvm.Cond.initialized "KindJudgeModel"), (Jvm.Cond.fieldLink "KindJudgeModel" (74 : Nat) "KindJudgeModel" "thrown" "I"), (Jvm.Cond.fieldLink "KindJudgeModel" (184 : Nat) "KindJudgeModel" "isFile" "Z"), (Jvm.Cond.fieldLink "KindJudgeModel" (78 : Nat) "KindJudgeModel" "together" "I"), (Jvm.Cond.fieldLink "KindJudgeModel" (187 : Nat) "KindJudgeModel" "goods" "I")]
set_option maxRecDepth 100000 in
set_option maxHeartbeats 4000000 in
theorem kjS_153 : ∀ w ∈ kjW_153, w ∈ lw_tbl := mv_sub_of [1151, 74, 830, 838, 832, 831] (by decide +kernel)
set_option maxRecDepth 100000 in
set_option maxHeartbeats 4000000 in
theorem kjK_153 : mv_mkB kjW_153 kjCl kjKd kjP kjStn kjM_153 = true := by decide +kernel
end
section
/-! The system keeps to what the small machine asks. -/
def mv_KtB (kc : Nat) (t : FieldType) : Bool := match kc with
  | 0 => decide (t = .int)
  | 1 => decide (t = .boolean)
  | 3 => decide (t = .long)
  | 4 => (match t with
    | .object _ => true
    | .array _ => true
    | _ => false)
  | _ => false
theorem mv_KtB_ok {kc : Nat} {t : FieldType} (h : mv_KtB kc t = true) : mv_Kt kc t := by
  unfold mv_KtB at h
  unfold mv_Kt
  split at h
  · have h2 : t = .int := of_decide_eq_true h
    exact h2
  · have h2 : t = .boolean := of_decide_eq_true h
    exact h2
  · have h2 : t = .long := of_decide_eq_true h
    exact h2
  · split at h
    · exact Or.inl ⟨_, rfl⟩
    · exact Or.inr ⟨_, rfl⟩
    · cases h
  · cases h
def mv_Cl1 (kl : List Nat) (Ts : List Jvm.Cond) (C : String) (T : u_T) (N : Nat) : Prop := (∀ w ∈ u_ws C T N, w ∈ Ts) ∧ kl.length = N ∧ (∃ ty : Nat → FieldType, ∀ k, k < N → parseFieldDescriptor (T k).2.2.1 = some (ty k) ∧ ∀ kc, kl[k]? = some kc → mv_Kt kc (ty k)) ∧ ∀ a, a < N → ∀ b, b < N → a ≠ b → (T a).2.1 ≠ (T b).2.1
theorem mv_Cl1_of {kl : List Nat} {tb : List Jvm.Cond} {C : String} {T : u_T} {N : Nat} (ty : Nat → FieldType) (ps : List Nat) (h1 : u_ws C T N = ps.filterMap (fun i => tb[i]?)) (h2 : (u_ws C T N).all goodWord = true) (h3 : kl.length = N) (h4 : ∀ k, k < N → parseFieldDescriptor (T k).2.2.1 = some (ty k)) (h5 : ∀ k, k < N → (match kl[k]? with
    | some kc => mv_KtB kc (ty k)
    | none => false) = true) (h6 : ∀ a, a < N → ∀ b, b < N → a ≠ b → (T a).2.1 ≠ (T b).2.1) : mv_Cl1 kl (tb.filter goodWord) C T N := by
  refine ⟨fun w hw => List.mem_filter.mpr ⟨mv_sub_of ps h1 w hw, List.all_eq_true.mp h2 w hw⟩, h3, ⟨ty, fun k hk => ⟨h4 k hk, fun kc hkc => ?_⟩⟩, h6⟩
  have h := h5 k hk
  rw [hkc] at h
  exact mv_KtB_ok h
set_option maxRecDepth 100000 in
set_option maxHeartbeats 4000000 in
theorem kjC_0 : mv_Cl1 (kjKd.getD 0 []) kjTs "KindJudge" kjF_0 6 := mv_Cl1_of kjY_0 [300, 302, 304, 306, 308, 310] (by decide +kernel) (by decide +kernel) rfl (by decide +kernel) (by decide +kernel) (by decide +kernel)
set_option maxRecDepth 100000 in
set_option maxHeartbeats 4000000 in
theorem kjC_1 : mv_Cl1 (kjKd.getD 1 []) kjTs "KindJudge$Book" kjF_1 4 := mv_Cl1_of kjY_1 [285, 287, 289, 291] (by decide +kernel) (by decide +kernel) rfl (by decide +kernel) (by decide +kernel) (by decide +kernel)
set_option maxRecDepth 100000 in
set_option maxHeartbeats 4000000 in
theorem kjC_2 : mv_Cl1 (kjKd.getD 2 []) kjTs "KindJudge$Bytes" kjF_2 2 := mv_Cl1_of kjY_2 [105, 107] (by decide +kernel) (by decide +kernel) rfl (by decide +kernel) (by decide +kernel) (by decide +kernel)
set_option maxRecDepth 100000 in
set_option maxHeartbeats 4000000 in
theorem kjC_3 : mv_Cl1 (kjKd.getD 3 []) kjTs "KindJudge$Layout" kjF_3 9 := mv_Cl1_of kjY_3 [197, 199, 201, 203, 205, 207, 209, 211, 213] (by decide +kernel) (by decide +kernel) rfl (by decide +kernel) (by decide +kernel) (by decide +kernel)
set_option maxRecDepth 100000 in
set_option maxHeartbeats 4000000 in
theorem kjC_4 : mv_Cl1 (kjKd.getD 4 []) kjTs "KindJudge$Classes" kjF_4 5 := mv_Cl1_of kjY_4 [130, 132, 134, 136, 138] (by decide +kernel) (by decide +kernel) rfl (by decide +kernel) (by decide +kernel) (by decide +kernel)
set_option maxRecDepth 100000 in
set_option maxHeartbeats 4000000 in
theorem kjC_5 : mv_Cl1 (kjKd.getD 5 []) kjTs "KindJudge$Signatures" kjF_5 4 := mv_Cl1_of kjY_5 [154, 156, 158, 160] (by decide +kernel) (by decide +kernel) rfl (by decide +kernel) (by decide +kernel) (by decide +kernel)
set_option maxRecDepth 100000 in
set_option maxHeartbeats 4000000 in
theorem kjC_6 : mv_Cl1 (kjKd.getD 6 []) kjTs "KindJudge$Reader" kjF_6 3 := mv_Cl1_of kjY_6 [172, 174, 176] (by decide +kernel) (by decide +kernel) rfl (by decide +kernel) (by decide +kernel) (by decide +kernel)
set_option maxRecDepth 100000 in
set_option maxHeartbeats 4000000 in
theorem kjC_7 : mv_Cl1 (kjKd.getD 7 []) kjTs "KindJudge$Code" kjF_7 3 := mv_Cl1_of kjY_7 [225, 227, 229] (by decide +kernel) (by decide +kernel) rfl (by decide +kernel) (by decide +kernel) (by decide +kernel)
set_option maxRecDepth 100000 in
set_option maxHeartbeats 4000000 in
theorem kjC_8 : mv_Cl1 (kjKd.getD 8 []) kjTs "KindJudge$Flow" kjF_8 12 := mv_Cl1_of kjY_8 [251, 253, 255, 257, 259, 261, 263, 265, 267, 269, 271, 273] (by decide +kernel) (by decide +kernel) rfl (by decide +kernel) (by decide +kernel) (by decide +kernel)
set_option maxRecDepth 100000 in
set_option maxHeartbeats 4000000 in
theorem kjC_9 : mv_Cl1 (kjKd.getD 9 []) kjTs "KindJudgeModel" kjF_9 37 := mv_Cl1_of kjY_9 [867, 869, 871, 873, 875, 877, 879, 881, 883, 885, 887, 889, 891, 893, 895, 897, 899, 901, 903, 905, 907, 909, 911, 913, 915, 917, 919, 921, 923, 925, 927, 929, 931, 933, 935, 937, 939] (by decide +kernel) (by decide +kernel) rfl (by decide +kernel) (by decide +kernel) (by decide +kernel)
theorem kjCl_ok : mv_Cl kjCl kjKd kjTs := by
  intro ci C T N h
  match ci, h with
  | 0, h => cases h; exact kjC_0
  | 1, h => cases h; exact kjC_1
  | 2, h => cases h; exact kjC_2
  | 3, h => cases h; exact kjC_3
  | 4, h => cases h; exact kjC_4
  | 5, h => cases h; exact kjC_5
  | 6, h => cases h; exact kjC_6
  | 7, h => cases h; exact kjC_7
  | 8, h => cases h; exact kjC_8
  | 9, h => cases h; exact kjC_9
  | n + 10, h => cases h
set_option maxRecDepth 100000 in
theorem kjMk_ok : ∀ M ∈ kjP, mv_Mk kjCl kjKd kjTs kjNw kjP kjStn M := List.forall_mem_cons.mpr ⟨mv_mkB_ok kjS_0 kjK_0, List.forall_mem_cons.mpr ⟨mv_mkB_ok kjS_1 kjK_1, List.forall_mem_cons.mpr ⟨mv_mkB_ok kjS_2 kjK_2, List.forall_mem_cons.mpr ⟨mv_mkB_ok kjS_3 kjK_3, List.forall_mem_cons.mpr ⟨mv_mkB_ok kjS_4 kjK_4, List.forall_mem_cons.mpr ⟨mv_mkB_ok kjS_5 kjK_5, List.forall_mem_cons.mpr ⟨mv_mkB_ok kjS_6 kjK_6, List.forall_mem_cons.mpr ⟨mv_mkB_ok kjS_7 kjK_7, List.forall_mem_cons.mpr ⟨mv_mkB_ok kjS_8 kjK_8, List.forall_mem_cons.mpr ⟨mv_mkB_ok kjS_9 kjK_9, List.forall_mem_cons.mpr ⟨mv_mkB_ok kjS_10 kjK_10, List.forall_mem_cons.mpr ⟨mv_mkB_ok kjS_11 kjK_11, List.forall_mem_cons.mpr ⟨mv_mkB_ok kjS_12 kjK_12, List.forall_mem_cons.mpr ⟨mv_mkB_ok kjS_13 kjK_13, List.forall_mem_cons.mpr ⟨mv_mkB_ok kjS_14 kjK_14, List.forall_mem_cons.mpr ⟨mv_mkB_ok kjS_101 kjK_101, List.forall_mem_cons.mpr ⟨mv_mkB_ok kjS_101 kjK_101, List.forall_mem_cons.mpr ⟨mv_mkB_ok kjS_101 kjK_101, List.forall_mem_cons.mpr ⟨mv_mkB_ok kjS_18 kjK_18, List.forall_mem_cons.mpr ⟨mv_mkB_ok kjS_19 kjK_19, List.forall_mem_cons.mpr ⟨mv_mkB_ok kjS_20 kjK_20, List.forall_mem_cons.mpr ⟨mv_mkB_ok kjS_21 kjK_21, List.forall_mem_cons.mpr ⟨mv_mkB_ok kjS_22 kjK_22, List.forall_mem_cons.mpr ⟨mv_mkB_ok kjS_23 kjK_23, List.forall_mem_cons.mpr ⟨mv_mkB_ok kjS_24 kjK_24, List.forall_mem_cons.mpr ⟨mv_mkB_ok kjS_25 kjK_25, List.forall_mem_cons.mpr ⟨mv_mkB_ok kjS_101 kjK_101, List.forall_mem_cons.mpr ⟨mv_mkB_ok kjS_101 kjK_101, List.forall_mem_cons.mpr ⟨mv_mkB_ok kjS_101 kjK_101, List.forall_mem_cons.mpr ⟨mv_mkB_ok kjS_29 kjK_29, List.forall_mem_cons.mpr ⟨mv_mkB_ok kjS_101 kjK_101, List.forall_mem_cons.mpr ⟨mv_mkB_ok kjS_101 kjK_101, List.forall_mem_cons.mpr ⟨mv_mkB_ok kjS_32 kjK_32, List.forall_mem_cons.mpr ⟨mv_mkB_ok kjS_33 kjK_33, List.forall_mem_cons.mpr ⟨mv_mkB_ok kjS_34 kjK_34, List.forall_mem_cons.mpr ⟨mv_mkB_ok kjS_35 kjK_35, List.forall_mem_cons.mpr ⟨mv_mkB_ok kjS_101 kjK_101, List.forall_mem_cons.mpr ⟨mv_mkB_ok kjS_37 kjK_37, List.forall_mem_cons.mpr ⟨mv_mkB_ok kjS_101 kjK_101, List.forall_mem_cons.mpr ⟨mv_mkB_ok kjS_101 kjK_101, List.forall_mem_cons.mpr ⟨mv_mkB_ok kjS_101 kjK_101, List.forall_mem_cons.mpr ⟨mv_mkB_ok kjS_101 kjK_101, List.forall_mem_cons.mpr ⟨mv_mkB_ok kjS_101 kjK_101, List.forall_mem_cons.mpr ⟨mv_mkB_ok kjS_101 kjK_101, List.forall_mem_cons.mpr ⟨mv_mkB_ok kjS_101 kjK_101, List.forall_mem_cons.mpr ⟨mv_mkB_ok kjS_101 kjK_101, List.forall_mem_cons.mpr ⟨mv_mkB_ok kjS_46 kjK_46, List.forall_mem_cons.mpr ⟨mv_mkB_ok kjS_47 kjK_47, List.forall_mem_cons.mpr ⟨mv_mkB_ok kjS_101 kjK_101, List.forall_mem_cons.mpr ⟨mv_mkB_ok kjS_49 kjK_49, List.forall_mem_cons.mpr ⟨mv_mkB_ok kjS_101 kjK_101, List.forall_mem_cons.mpr ⟨mv_mkB_ok kjS_101 kjK_101, List.forall_mem_cons.mpr ⟨mv_mkB_ok kjS_101 kjK_101, List.forall_mem_cons.mpr ⟨mv_mkB_ok kjS_53 kjK_53, List.forall_mem_cons.mpr ⟨mv_mkB_ok kjS_54 kjK_54, List.forall_mem_cons.mpr ⟨mv_mkB_ok kjS_55 kjK_55, List.forall_mem_cons.mpr ⟨mv_mkB_ok kjS_56 kjK_56, List.forall_mem_cons.mpr ⟨mv_mkB_ok kjS_57 kjK_57, List.forall_mem_cons.mpr ⟨mv_mkB_ok kjS_58 kjK_58, List.forall_mem_cons.mpr ⟨mv_mkB_ok kjS_59 kjK_59, List.forall_mem_cons.mpr ⟨mv_mkB_ok kjS_60 kjK_60, List.forall_mem_cons.mpr ⟨mv_mkB_ok kjS_101 kjK_101, List.forall_mem_cons.mpr ⟨mv_mkB_ok kjS_101 kjK_101, List.forall_mem_cons.mpr ⟨mv_mkB_ok kjS_63 kjK_63, List.forall_mem_cons.mpr ⟨mv_mkB_ok kjS_101 kjK_101, List.forall_mem_cons.mpr ⟨mv_mkB_ok kjS_101 kjK_101, List.forall_mem_cons.mpr ⟨mv_mkB_ok kjS_66 kjK_66, List.forall_mem_cons.mpr ⟨mv_mkB_ok kjS_101 kjK_101, List.forall_mem_cons.mpr ⟨mv_mkB_ok kjS_101 kjK_101, List.forall_mem_cons.mpr ⟨mv_mkB_ok kjS_101 kjK_101, List.forall_mem_cons.mpr ⟨mv_mkB_ok kjS_101 kjK_101, List.forall_mem_cons.mpr ⟨mv_mkB_ok kjS_101 kjK_101, List.forall_mem_cons.mpr ⟨mv_mkB_ok kjS_101 kjK_101, List.forall_mem_cons.mpr ⟨mv_mkB_ok kjS_101 kjK_101, List.forall_mem_cons.mpr ⟨mv_mkB_ok kjS_101 kjK_101, List.forall_mem_cons.mpr ⟨mv_mkB_ok kjS_101 kjK_101, List.forall_mem_cons.mpr ⟨mv_mkB_ok kjS_101 kjK_101, List.forall_mem_cons.mpr ⟨mv_mkB_ok kjS_77 kjK_77, List.forall_mem_cons.mpr ⟨mv_mkB_ok kjS_101 kjK_101, List.forall_mem_cons.mpr ⟨mv_mkB_ok kjS_101 kjK_101, List.forall_mem_cons.mpr ⟨mv_mkB_ok kjS_101 kjK_101, List.forall_mem_cons.mpr ⟨mv_mkB_ok kjS_101 kjK_101, List.forall_mem_cons.mpr ⟨mv_mkB_ok kjS_101 kjK_101, List.forall_mem_cons.mpr ⟨mv_mkB_ok kjS_101 kjK_101, List.forall_mem_cons.mpr ⟨mv_mkB_ok kjS_101 kjK_101, List.forall_mem_cons.mpr ⟨mv_mkB_ok kjS_101 kjK_101, List.forall_mem_cons.mpr ⟨mv_mkB_ok kjS_101 kjK_101, List.forall_mem_cons.mpr ⟨mv_mkB_ok kjS_101 kjK_101, List.forall_mem_cons.mpr ⟨mv_mkB_ok kjS_101 kjK_101, List.forall_mem_cons.mpr ⟨mv_mkB_ok kjS_101 kjK_101, List.forall_mem_cons.mpr ⟨mv_mkB_ok kjS_101 kjK_101, List.forall_mem_cons.mpr ⟨mv_mkB_ok kjS_101 kjK_101, List.forall_mem_cons.mpr ⟨mv_mkB_ok kjS_101 kjK_101, List.forall_mem_cons.mpr ⟨mv_mkB_ok kjS_101 kjK_101, List.forall_mem_cons.mpr ⟨mv_mkB_ok kjS_101 kjK_101, List.forall_mem_cons.mpr ⟨mv_mkB_ok kjS_101 kjK_101, List.forall_mem_cons.mpr ⟨mv_mkB_ok kjS_101 kjK_101, List.forall_mem_cons.mpr ⟨mv_mkB_ok kjS_101 kjK_101, List.forall_mem_cons.mpr ⟨mv_mkB_ok kjS_101 kjK_101, List.forall_mem_cons.mpr ⟨mv_mkB_ok kjS_101 kjK_101, List.forall_mem_cons.mpr ⟨mv_mkB_ok kjS_100 kjK_100, List.forall_mem_cons.mpr ⟨mv_mkB_ok kjS_101 kjK_101, List.forall_mem_cons.mpr ⟨mv_mkB_ok kjS_102 kjK_102, List.forall_mem_cons.mpr ⟨mv_mkB_ok kjS_101 kjK_101, List.forall_mem_cons.mpr ⟨mv_mkB_ok kjS_104 kjK_104, List.forall_mem_cons.mpr ⟨mv_mkB_ok kjS_105 kjK_105, List.forall_mem_cons.mpr ⟨mv_mkB_ok kjS_101 kjK_101, List.forall_mem_cons.mpr ⟨mv_mkB_ok kjS_101 kjK_101, List.forall_mem_cons.mpr ⟨mv_mkB_ok kjS_101 kjK_101, List.forall_mem_cons.mpr ⟨mv_mkB_ok kjS_101 kjK_101, List.forall_mem_cons.mpr ⟨mv_mkB_ok kjS_101 kjK_101, List.forall_mem_cons.mpr ⟨mv_mkB_ok kjS_101 kjK_101, List.forall_mem_cons.mpr ⟨mv_mkB_ok kjS_101 kjK_101, List.forall_mem_cons.mpr ⟨mv_mkB_ok kjS_101 kjK_101, List.forall_mem_cons.mpr ⟨mv_mkB_ok kjS_114 kjK_114, List.forall_mem_cons.mpr ⟨mv_mkB_ok kjS_101 kjK_101, List.forall_mem_cons.mpr ⟨mv_mkB_ok kjS_101 kjK_101, List.forall_mem_cons.mpr ⟨mv_mkB_ok kjS_101 kjK_101, List.forall_mem_cons.mpr ⟨mv_mkB_ok kjS_101 kjK_101, List.forall_mem_cons.mpr ⟨mv_mkB_ok kjS_101 kjK_101, List.forall_mem_cons.mpr ⟨mv_mkB_ok kjS_101 kjK_101, List.forall_mem_cons.mpr ⟨mv_mkB_ok kjS_121 kjK_121, List.forall_mem_cons.mpr ⟨mv_mkB_ok kjS_122 kjK_122, List.forall_mem_cons.mpr ⟨mv_mkB_ok kjS_123 kjK_123, List.forall_mem_cons.mpr ⟨mv_mkB_ok kjS_101 kjK_101, List.forall_mem_cons.mpr ⟨mv_mkB_ok kjS_125 kjK_125, List.forall_mem_cons.mpr ⟨mv_mkB_ok kjS_101 kjK_101, List.forall_mem_cons.mpr ⟨mv_mkB_ok kjS_101 kjK_101, List.forall_mem_cons.mpr ⟨mv_mkB_ok kjS_101 kjK_101, List.forall_mem_cons.mpr ⟨mv_mkB_ok kjS_101 kjK_101, List.forall_mem_cons.mpr ⟨mv_mkB_ok kjS_101 kjK_101, List.forall_mem_cons.mpr ⟨mv_mkB_ok kjS_101 kjK_101, List.forall_mem_cons.mpr ⟨mv_mkB_ok kjS_101 kjK_101, List.forall_mem_cons.mpr ⟨mv_mkB_ok kjS_101 kjK_101, List.forall_mem_cons.mpr ⟨mv_mkB_ok kjS_101 kjK_101, List.forall_mem_cons.mpr ⟨mv_mkB_ok kjS_101 kjK_101, List.forall_mem_cons.mpr ⟨mv_mkB_ok kjS_101 kjK_101, List.forall_mem_cons.mpr ⟨mv_mkB_ok kjS_101 kjK_101, List.forall_mem_cons.mpr ⟨mv_mkB_ok kjS_101 kjK_101, List.forall_mem_cons.mpr ⟨mv_mkB_ok kjS_139 kjK_139, List.forall_mem_cons.mpr ⟨mv_mkB_ok kjS_140 kjK_140, List.forall_mem_cons.mpr ⟨mv_mkB_ok kjS_141 kjK_141, List.forall_mem_cons.mpr ⟨mv_mkB_ok kjS_101 kjK_101, List.forall_mem_cons.mpr ⟨mv_mkB_ok kjS_101 kjK_101, List.forall_mem_cons.mpr ⟨mv_mkB_ok kjS_144 kjK_144, List.forall_mem_cons.mpr ⟨mv_mkB_ok kjS_101 kjK_101, List.forall_mem_cons.mpr ⟨mv_mkB_ok kjS_146 kjK_146, List.forall_mem_cons.mpr ⟨mv_mkB_ok kjS_147 kjK_147, List.forall_mem_cons.mpr ⟨mv_mkB_ok kjS_101 kjK_101, List.forall_mem_cons.mpr ⟨mv_mkB_ok kjS_149 kjK_149, List.forall_mem_cons.mpr ⟨mv_mkB_ok kjS_150 kjK_150, List.forall_mem_cons.mpr ⟨mv_mkB_ok kjS_151 kjK_151, List.forall_mem_cons.mpr ⟨mv_mkB_ok kjS_152 kjK_152, List.forall_mem_cons.mpr ⟨mv_mkB_ok kjS_153 kjK_153, fun _ h => absurd h List.not_mem_nil⟩⟩⟩⟩⟩⟩⟩⟩⟩⟩⟩⟩⟩⟩⟩⟩⟩⟩⟩⟩⟩⟩⟩⟩⟩⟩⟩⟩⟩⟩⟩⟩⟩⟩⟩⟩⟩⟩⟩⟩⟩⟩⟩⟩⟩⟩⟩⟩⟩⟩⟩⟩⟩⟩⟩⟩⟩⟩⟩⟩⟩⟩⟩⟩⟩⟩⟩⟩⟩⟩⟩⟩⟩⟩⟩⟩⟩⟩⟩⟩⟩⟩⟩⟩⟩⟩⟩⟩⟩⟩⟩⟩⟩⟩⟩⟩⟩⟩⟩⟩⟩⟩⟩⟩⟩⟩⟩⟩⟩⟩⟩⟩⟩⟩⟩⟩⟩⟩⟩⟩⟩⟩⟩⟩⟩⟩⟩⟩⟩⟩⟩⟩⟩⟩⟩⟩⟩⟩⟩⟩⟩⟩⟩⟩⟩⟩⟩⟩⟩⟩⟩⟩⟩⟩
theorem kjStn_ok : ∀ t, (kjSta t).length = 0 ∨ ∃ q, kjStn[t]? = some q := fun _ => Or.inl rfl
theorem kjSy : mv_Sy kjCl kjKd kjTs kjNw kjP kjSta kjStn := ⟨kjCl_ok, mv_good_all, mv_nest_all, fun i M h => kjMk_ok M (List.mem_of_getElem? h), fun k _ => kjStn_ok (k - 100000)⟩
end
section
/-! The constructors, by program (wip/p1/ctors.py). -/
def kcZ : kjI := fun _ _ => 0
def kcZL : kjL := fun _ _ => 0
def kcR : List (Nat × Nat × Nat) → Nat → Nat → Option Nat
  | [], _, _ => none
  | e :: r, a, b => if a = e.1 then (if b = e.2.1 then some e.2.2 else kcR r a b) else kcR r a b
def kcF : List (Nat × Nat × Nat) := [(59, 32, 80), (59, 31, 79), (59, 30, 78), (59, 29, 77), (59, 28, 76), (59, 27, 75), (59, 26, 74), (59, 25, 73), (59, 24, 72), (59, 23, 71), (59, 22, 70), (59, 21, 69), (59, 19, 68), (59, 18, 67), (59, 17, 66), (59, 15, 65), (59, 14, 64), (59, 13, 63), (59, 6, 62), (59, 4, 61), (59, 3, 60), (0, 1, 30), (30, 3, 55), (55, 1, 53), (55, 0, 33), (55, 4, 58), (55, 3, 57), (55, 2, 56), (30, 2, 53), (30, 1, 33), (30, 0, 31), (53, 1, 33), (53, 0, 31), (53, 2, 54), (33, 3, 52), (52, 0, 31), (33, 8, 51), (33, 7, 50), (33, 6, 49), (33, 5, 48), (33, 4, 47), (33, 2, 43), (43, 2, 46), (43, 1, 45), (43, 0, 44), (33, 1, 39), (39, 2, 42), (39, 1, 41), (39, 0, 40), (33, 0, 34), (34, 3, 38), (34, 2, 37), (34, 1, 36), (34, 0, 35), (31, 0, 32), (0, 0, 1), (1, 3, 26), (26, 1, 24), (26, 0, 4), (26, 4, 29), (26, 3, 28), (26, 2, 27), (1, 2, 24), (1, 1, 4), (1, 0, 2), (24, 1, 4), (24, 0, 2), (24, 2, 25), (4, 3, 23), (23, 0, 2), (4, 8, 22), (4, 7, 21), (4, 6, 20), (4, 5, 19), (4, 4, 18), (4, 2, 14), (14, 2, 17), (14, 1, 16), (14, 0, 15), (4, 1, 10), (10, 2, 13), (10, 1, 12), (10, 0, 11), (4, 0, 5), (5, 3, 9), (5, 2, 8), (5, 1, 7), (5, 0, 6), (2, 0, 3)]
def kcS (a t : Nat) : mv_S := (kjSH.take a, kcZ, kcZL, kcR (kcF.drop t))
def kcU (S : mv_S) (k j q : Nat) : mv_S := (S.1, S.2.1, S.2.2.1, mv_up S.2.2.2 k j (some q))
theorem kc_none {a y : Nat} : ∀ {l : List (Nat × Nat × Nat)}, l.all (fun e => Nat.blt e.1 a) = true → kcR l a y = none
  | [], _ => rfl
  | e :: r, h => by
    simp only [List.all_cons, Bool.and_eq_true] at h
    have h1 : e.1 < a := Nat.le_of_ble_eq_true h.1
    unfold kcR
    rw [if_neg (by omega)]
    exact kc_none h.2
theorem kc_new {a t : Nat} {sh : mv_Sh} (h1 : kjSH.take a ++ [sh] = kjSH.take (a + 1)) (h2 : (kjSH.take a).length = a) (h3 : (kcF.drop t).all (fun e => Nat.blt e.1 a) = true) : mv_new (kcS a t) sh = kcS (a + 1) t := by
  have e1 : mv_clr kcZ a 0 = kcZ := by
    funext x y
    unfold mv_clr kcZ
    split <;> rfl
  have e2 : mv_clr kcZL a 0 = kcZL := by
    funext x y
    unfold mv_clr kcZL
    split <;> rfl
  have e3 : mv_clr (kcR (kcF.drop t)) a none = kcR (kcF.drop t) := by
    funext x y
    unfold mv_clr
    split
    · rename_i e
      rw [e, kc_none h3]
    · rfl
  show (kjSH.take a ++ [sh], mv_clr kcZ (kjSH.take a).length 0, mv_clr kcZL (kjSH.take a).length 0, mv_clr (kcR (kcF.drop t)) (kjSH.take a).length none) = kcS (a + 1) t
  rw [h2, e1, e2, e3, h1]
  rfl
theorem kc_put {a t k j q : Nat} (h : kcF.drop t = (k, j, q) :: kcF.drop (t + 1)) : kcU (kcS a (t + 1)) k j q = kcS a t := by
  have e : mv_up (kcR (kcF.drop (t + 1))) k j (some q) = kcR (kcF.drop t) := by
    rw [h]
    funext x y
    rfl
  show (kjSH.take a, kcZ, kcZL, mv_up (kcR (kcF.drop (t + 1))) k j (some q)) = kcS a t
  rw [e]
  rfl
/-! KindJudge$Bytes.<init> on cell 2 -/
set_option maxRecDepth 100000 in
set_option maxHeartbeats 4000000 in
theorem kc_1_ok (d : Nat) : mv_C kjP kjSta (d + 2) 19 [.ref 2] (kcS 3 89) (fun v S => v = none ∧ S = kcS 4 88) := by
  refine mv_C_in kjM_19 (lc := [some (.ref 2)]) rfl rfl rfl ?_
  refine mv_G_run 5 (F' := (10, [some (.ref 2)], [.ref 3, .ref 2], 1, 1500, mv_new (kcS 3 89) (.inl (2, 1500)))) rfl ?_
  rw [kc_new (a := 3) (t := 89) rfl rfl rfl]
  refine mv_G_run 1 (F' := (13, [some (.ref 2)], [], 1, 1500, kcU (kcS 4 89) 2 0 3)) rfl ?_
  rw [kc_put (a := 4) (t := 88) rfl]
  exact mv_G_ret rfl rfl rfl (Nat.le_of_ble_eq_true rfl) trivial ⟨rfl, rfl⟩
/-! KindJudge$Classes.<init> on cell 5 -/
set_option maxRecDepth 100000 in
set_option maxHeartbeats 4000000 in
theorem kc_2_ok (d : Nat) : mv_C kjP kjSta (d + 2) 34 [.ref 5] (kcS 6 88) (fun v S => v = none ∧ S = kcS 10 84) := by
  refine mv_C_in kjM_34 (lc := [some (.ref 5)]) rfl rfl rfl ?_
  refine mv_G_run 5 (F' := (9, [some (.ref 5)], [.ref 6, .ref 5], 1, 8, mv_new (kcS 6 88) (.inl (0, 8)))) rfl ?_
  rw [kc_new (a := 6) (t := 88) rfl rfl rfl]
  refine mv_G_run 1 (F' := (12, [some (.ref 5)], [], 1, 8, kcU (kcS 7 88) 5 0 6)) rfl ?_
  rw [kc_put (a := 7) (t := 87) rfl]
  refine mv_G_run 3 (F' := (17, [some (.ref 5)], [.ref 7, .ref 5], 2, 16, mv_new (kcS 7 87) (.inl (0, 8)))) rfl ?_
  rw [kc_new (a := 7) (t := 87) rfl rfl rfl]
  refine mv_G_run 1 (F' := (20, [some (.ref 5)], [], 2, 16, kcU (kcS 8 87) 5 1 7)) rfl ?_
  rw [kc_put (a := 8) (t := 86) rfl]
  refine mv_G_run 3 (F' := (25, [some (.ref 5)], [.ref 8, .ref 5], 3, 80, mv_new (kcS 8 86) (.inl (0, 64)))) rfl ?_
  rw [kc_new (a := 8) (t := 86) rfl rfl rfl]
  refine mv_G_run 1 (F' := (28, [some (.ref 5)], [], 3, 80, kcU (kcS 9 86) 5 2 8)) rfl ?_
  rw [kc_put (a := 9) (t := 85) rfl]
  refine mv_G_run 3 (F' := (33, [some (.ref 5)], [.ref 9, .ref 5], 4, 88, mv_new (kcS 9 85) (.inl (0, 8)))) rfl ?_
  rw [kc_new (a := 9) (t := 85) rfl rfl rfl]
  refine mv_G_run 1 (F' := (36, [some (.ref 5)], [], 4, 88, kcU (kcS 10 85) 5 3 9)) rfl ?_
  rw [kc_put (a := 10) (t := 84) rfl]
  exact mv_G_ret rfl rfl rfl (Nat.le_of_ble_eq_true rfl) trivial ⟨rfl, rfl⟩
/-! KindJudge$Signatures.<init> on cell 10 -/
set_option maxRecDepth 100000 in
set_option maxHeartbeats 4000000 in
theorem kc_3_ok (d : Nat) : mv_C kjP kjSta (d + 2) 46 [.ref 10] (kcS 11 83) (fun v S => v = none ∧ S = kcS 14 80) := by
  refine mv_C_in kjM_46 (lc := [some (.ref 10)]) rfl rfl rfl ?_
  refine mv_G_run 5 (F' := (9, [some (.ref 10)], [.ref 11, .ref 10], 1, 16, mv_new (kcS 11 83) (.inl (0, 16)))) rfl ?_
  rw [kc_new (a := 11) (t := 83) rfl rfl rfl]
  refine mv_G_run 1 (F' := (12, [some (.ref 10)], [], 1, 16, kcU (kcS 12 83) 10 0 11)) rfl ?_
  rw [kc_put (a := 12) (t := 82) rfl]
  refine mv_G_run 3 (F' := (17, [some (.ref 10)], [.ref 12, .ref 10], 2, 80, mv_new (kcS 12 82) (.inl (0, 64)))) rfl ?_
  rw [kc_new (a := 12) (t := 82) rfl rfl rfl]
  refine mv_G_run 1 (F' := (20, [some (.ref 10)], [], 2, 80, kcU (kcS 13 82) 10 1 12)) rfl ?_
  rw [kc_put (a := 13) (t := 81) rfl]
  refine mv_G_run 3 (F' := (25, [some (.ref 10)], [.ref 13, .ref 10], 3, 96, mv_new (kcS 13 81) (.inl (0, 16)))) rfl ?_
  rw [kc_new (a := 13) (t := 81) rfl rfl rfl]
  refine mv_G_run 1 (F' := (28, [some (.ref 10)], [], 3, 96, kcU (kcS 14 81) 10 2 13)) rfl ?_
  rw [kc_put (a := 14) (t := 80) rfl]
  exact mv_G_ret rfl rfl rfl (Nat.le_of_ble_eq_true rfl) trivial ⟨rfl, rfl⟩
/-! KindJudge$Signatures.<init> on cell 14 -/
set_option maxRecDepth 100000 in
set_option maxHeartbeats 4000000 in
theorem kc_4_ok (d : Nat) : mv_C kjP kjSta (d + 2) 46 [.ref 14] (kcS 15 79) (fun v S => v = none ∧ S = kcS 18 76) := by
  refine mv_C_in kjM_46 (lc := [some (.ref 14)]) rfl rfl rfl ?_
  refine mv_G_run 5 (F' := (9, [some (.ref 14)], [.ref 15, .ref 14], 1, 16, mv_new (kcS 15 79) (.inl (0, 16)))) rfl ?_
  rw [kc_new (a := 15) (t := 79) rfl rfl rfl]
  refine mv_G_run 1 (F' := (12, [some (.ref 14)], [], 1, 16, kcU (kcS 16 79) 14 0 15)) rfl ?_
  rw [kc_put (a := 16) (t := 78) rfl]
  refine mv_G_run 3 (F' := (17, [some (.ref 14)], [.ref 16, .ref 14], 2, 80, mv_new (kcS 16 78) (.inl (0, 64)))) rfl ?_
  rw [kc_new (a := 16) (t := 78) rfl rfl rfl]
  refine mv_G_run 1 (F' := (20, [some (.ref 14)], [], 2, 80, kcU (kcS 17 78) 14 1 16)) rfl ?_
  rw [kc_put (a := 17) (t := 77) rfl]
  refine mv_G_run 3 (F' := (25, [some (.ref 14)], [.ref 17, .ref 14], 3, 96, mv_new (kcS 17 77) (.inl (0, 16)))) rfl ?_
  rw [kc_new (a := 17) (t := 77) rfl rfl rfl]
  refine mv_G_run 1 (F' := (28, [some (.ref 14)], [], 3, 96, kcU (kcS 18 77) 14 2 17)) rfl ?_
  rw [kc_put (a := 18) (t := 76) rfl]
  exact mv_G_ret rfl rfl rfl (Nat.le_of_ble_eq_true rfl) trivial ⟨rfl, rfl⟩
/-! KindJudge$Reader.<init> on cell 23 -/
set_option maxRecDepth 100000 in
set_option maxHeartbeats 4000000 in
theorem kc_5_ok (d : Nat) : mv_C kjP kjSta (d + 2) 53 [.ref 23, .ref 2] (kcS 24 70) (fun v S => v = none ∧ S = kcS 24 69) := by
  refine mv_C_in kjM_53 (lc := [some (.ref 23), some (.ref 2)]) rfl rfl rfl ?_
  refine mv_G_run 5 (F' := (9, [some (.ref 23), some (.ref 2)], [], 0, 0, kcU (kcS 24 70) 23 0 2)) rfl ?_
  rw [kc_put (a := 24) (t := 69) rfl]
  exact mv_G_ret rfl rfl rfl (Nat.le_of_ble_eq_true rfl) trivial ⟨rfl, rfl⟩
/-! KindJudge$Layout.<init> on cell 4 -/
set_option maxRecDepth 100000 in
set_option maxHeartbeats 4000000 in
theorem kc_6_ok (d : Nat) : mv_C kjP kjSta (d + 3) 23 [.ref 4, .ref 2] (kcS 5 88) (fun v S => v = none ∧ S = kcS 24 68) := by
  refine mv_C_in kjM_23 (lc := [some (.ref 4), some (.ref 2)]) rfl rfl rfl ?_
  refine mv_G_run 4 (F' := (8, [some (.ref 4), some (.ref 2)], [.ref 5, .ref 4], 1, 5, mv_new (kcS 5 88) (.inr 4))) rfl ?_
  rw [kc_new (a := 5) (t := 88) rfl rfl rfl]
  refine mv_G_run 1 (F' := (9, [some (.ref 4), some (.ref 2)], [.ref 5, .ref 5, .ref 4], 1, 5, kcS 6 88)) rfl ?_
  refine mv_G_call (r := [.ref 5, .ref 4]) (kc_2_ok _) rfl rfl rfl rfl rfl (Nat.le_of_ble_eq_true rfl) (Nat.le_of_ble_eq_true rfl) (Nat.le_of_ble_eq_true rfl) ?_
  rintro _ _ ⟨rfl, rfl⟩
  refine mv_G_run 1 (F' := (15, [some (.ref 4), some (.ref 2)], [], 5, 93, kcU (kcS 10 84) 4 0 5)) rfl ?_
  rw [kc_put (a := 10) (t := 83) rfl]
  refine mv_G_run 2 (F' := (19, [some (.ref 4), some (.ref 2)], [.ref 10, .ref 4], 6, 97, mv_new (kcS 10 83) (.inr 5))) rfl ?_
  rw [kc_new (a := 10) (t := 83) rfl rfl rfl]
  refine mv_G_run 1 (F' := (20, [some (.ref 4), some (.ref 2)], [.ref 10, .ref 10, .ref 4], 6, 97, kcS 11 83)) rfl ?_
  refine mv_G_call (r := [.ref 10, .ref 4]) (kc_3_ok _) rfl rfl rfl rfl rfl (Nat.le_of_ble_eq_true rfl) (Nat.le_of_ble_eq_true rfl) (Nat.le_of_ble_eq_true rfl) ?_
  rintro _ _ ⟨rfl, rfl⟩
  refine mv_G_run 1 (F' := (26, [some (.ref 4), some (.ref 2)], [], 9, 193, kcU (kcS 14 80) 4 1 10)) rfl ?_
  rw [kc_put (a := 14) (t := 79) rfl]
  refine mv_G_run 2 (F' := (30, [some (.ref 4), some (.ref 2)], [.ref 14, .ref 4], 10, 197, mv_new (kcS 14 79) (.inr 5))) rfl ?_
  rw [kc_new (a := 14) (t := 79) rfl rfl rfl]
  refine mv_G_run 1 (F' := (31, [some (.ref 4), some (.ref 2)], [.ref 14, .ref 14, .ref 4], 10, 197, kcS 15 79)) rfl ?_
  refine mv_G_call (r := [.ref 14, .ref 4]) (kc_4_ok _) rfl rfl rfl rfl rfl (Nat.le_of_ble_eq_true rfl) (Nat.le_of_ble_eq_true rfl) (Nat.le_of_ble_eq_true rfl) ?_
  rintro _ _ ⟨rfl, rfl⟩
  refine mv_G_run 1 (F' := (37, [some (.ref 4), some (.ref 2)], [], 13, 293, kcU (kcS 18 76) 4 2 14)) rfl ?_
  rw [kc_put (a := 18) (t := 75) rfl]
  refine mv_G_run 3 (F' := (42, [some (.ref 4), some (.ref 2)], [.ref 18, .ref 4], 14, 309, mv_new (kcS 18 75) (.inl (0, 16)))) rfl ?_
  rw [kc_new (a := 18) (t := 75) rfl rfl rfl]
  refine mv_G_run 1 (F' := (45, [some (.ref 4), some (.ref 2)], [], 14, 309, kcU (kcS 19 75) 4 4 18)) rfl ?_
  rw [kc_put (a := 19) (t := 74) rfl]
  refine mv_G_run 3 (F' := (50, [some (.ref 4), some (.ref 2)], [.ref 19, .ref 4], 15, 325, mv_new (kcS 19 74) (.inl (0, 16)))) rfl ?_
  rw [kc_new (a := 19) (t := 74) rfl rfl rfl]
  refine mv_G_run 1 (F' := (53, [some (.ref 4), some (.ref 2)], [], 15, 325, kcU (kcS 20 74) 4 5 19)) rfl ?_
  rw [kc_put (a := 20) (t := 73) rfl]
  refine mv_G_run 3 (F' := (58, [some (.ref 4), some (.ref 2)], [.ref 20, .ref 4], 16, 341, mv_new (kcS 20 73) (.inl (0, 16)))) rfl ?_
  rw [kc_new (a := 20) (t := 73) rfl rfl rfl]
  refine mv_G_run 1 (F' := (61, [some (.ref 4), some (.ref 2)], [], 16, 341, kcU (kcS 21 73) 4 6 20)) rfl ?_
  rw [kc_put (a := 21) (t := 72) rfl]
  refine mv_G_run 3 (F' := (66, [some (.ref 4), some (.ref 2)], [.ref 21, .ref 4], 17, 357, mv_new (kcS 21 72) (.inl (0, 16)))) rfl ?_
  rw [kc_new (a := 21) (t := 72) rfl rfl rfl]
  refine mv_G_run 1 (F' := (69, [some (.ref 4), some (.ref 2)], [], 17, 357, kcU (kcS 22 72) 4 7 21)) rfl ?_
  rw [kc_put (a := 22) (t := 71) rfl]
  refine mv_G_run 3 (F' := (74, [some (.ref 4), some (.ref 2)], [.ref 22, .ref 4], 18, 421, mv_new (kcS 22 71) (.inl (0, 64)))) rfl ?_
  rw [kc_new (a := 22) (t := 71) rfl rfl rfl]
  refine mv_G_run 1 (F' := (77, [some (.ref 4), some (.ref 2)], [], 18, 421, kcU (kcS 23 71) 4 8 22)) rfl ?_
  rw [kc_put (a := 23) (t := 70) rfl]
  refine mv_G_run 2 (F' := (81, [some (.ref 4), some (.ref 2)], [.ref 23, .ref 4], 19, 424, mv_new (kcS 23 70) (.inr 6))) rfl ?_
  rw [kc_new (a := 23) (t := 70) rfl rfl rfl]
  refine mv_G_run 2 (F' := (83, [some (.ref 4), some (.ref 2)], [.ref 2, .ref 23, .ref 23, .ref 4], 19, 424, kcS 24 70)) rfl ?_
  refine mv_G_call (r := [.ref 23, .ref 4]) (kc_5_ok _) rfl rfl rfl rfl rfl (Nat.le_of_ble_eq_true rfl) (Nat.le_of_ble_eq_true rfl) (Nat.le_of_ble_eq_true rfl) ?_
  rintro _ _ ⟨rfl, rfl⟩
  refine mv_G_run 1 (F' := (89, [some (.ref 4), some (.ref 2)], [], 19, 424, kcU (kcS 24 69) 4 3 23)) rfl ?_
  rw [kc_put (a := 24) (t := 68) rfl]
  exact mv_G_ret rfl rfl rfl (Nat.le_of_ble_eq_true rfl) trivial ⟨rfl, rfl⟩
/-! KindJudge$Code.<init> on cell 24 -/
set_option maxRecDepth 100000 in
set_option maxHeartbeats 4000000 in
theorem kc_7_ok (d : Nat) : mv_C kjP kjSta (d + 2) 63 [.ref 24, .ref 2, .ref 4] (kcS 25 68) (fun v S => v = none ∧ S = kcS 26 65) := by
  refine mv_C_in kjM_63 (lc := [some (.ref 24), some (.ref 2), some (.ref 4)]) rfl rfl rfl ?_
  refine mv_G_run 5 (F' := (10, [some (.ref 24), some (.ref 2), some (.ref 4)], [.ref 25, .ref 24], 1, 1500, mv_new (kcS 25 68) (.inl (1, 1500)))) rfl ?_
  rw [kc_new (a := 25) (t := 68) rfl rfl rfl]
  refine mv_G_run 1 (F' := (13, [some (.ref 24), some (.ref 2), some (.ref 4)], [], 1, 1500, kcU (kcS 26 68) 24 2 25)) rfl ?_
  rw [kc_put (a := 26) (t := 67) rfl]
  refine mv_G_run 3 (F' := (18, [some (.ref 24), some (.ref 2), some (.ref 4)], [], 1, 1500, kcU (kcS 26 67) 24 0 2)) rfl ?_
  rw [kc_put (a := 26) (t := 66) rfl]
  refine mv_G_run 3 (F' := (23, [some (.ref 24), some (.ref 2), some (.ref 4)], [], 1, 1500, kcU (kcS 26 66) 24 1 4)) rfl ?_
  rw [kc_put (a := 26) (t := 65) rfl]
  exact mv_G_ret rfl rfl rfl (Nat.le_of_ble_eq_true rfl) trivial ⟨rfl, rfl⟩
/-! KindJudge$Flow.<init> on cell 26 -/
set_option maxRecDepth 100000 in
set_option maxHeartbeats 4000000 in
theorem kc_8_ok (d : Nat) : mv_C kjP kjSta (d + 2) 77 [.ref 26, .ref 4, .ref 24] (kcS 27 62) (fun v S => v = none ∧ S = kcS 30 57) := by
  refine mv_C_in kjM_77 (lc := [some (.ref 26), some (.ref 4), some (.ref 24)]) rfl rfl rfl ?_
  refine mv_G_run 5 (F' := (10, [some (.ref 26), some (.ref 4), some (.ref 24)], [.ref 27, .ref 26], 1, 1500, mv_new (kcS 27 62) (.inl (2, 1500)))) rfl ?_
  rw [kc_new (a := 27) (t := 62) rfl rfl rfl]
  refine mv_G_run 1 (F' := (13, [some (.ref 26), some (.ref 4), some (.ref 24)], [], 1, 1500, kcU (kcS 28 62) 26 2 27)) rfl ?_
  rw [kc_put (a := 28) (t := 61) rfl]
  refine mv_G_run 3 (F' := (19, [some (.ref 26), some (.ref 4), some (.ref 24)], [.ref 28, .ref 26], 2, 3000, mv_new (kcS 28 61) (.inl (3, 1500)))) rfl ?_
  rw [kc_new (a := 28) (t := 61) rfl rfl rfl]
  refine mv_G_run 1 (F' := (22, [some (.ref 26), some (.ref 4), some (.ref 24)], [], 2, 3000, kcU (kcS 29 61) 26 3 28)) rfl ?_
  rw [kc_put (a := 29) (t := 60) rfl]
  refine mv_G_run 3 (F' := (27, [some (.ref 26), some (.ref 4), some (.ref 24)], [.ref 29, .ref 26], 3, 3120, mv_new (kcS 29 60) (.inl (1, 120)))) rfl ?_
  rw [kc_new (a := 29) (t := 60) rfl rfl rfl]
  refine mv_G_run 1 (F' := (30, [some (.ref 26), some (.ref 4), some (.ref 24)], [], 3, 3120, kcU (kcS 30 60) 26 4 29)) rfl ?_
  rw [kc_put (a := 30) (t := 59) rfl]
  refine mv_G_run 3 (F' := (35, [some (.ref 26), some (.ref 4), some (.ref 24)], [], 3, 3120, kcU (kcS 30 59) 26 0 4)) rfl ?_
  rw [kc_put (a := 30) (t := 58) rfl]
  refine mv_G_run 3 (F' := (40, [some (.ref 26), some (.ref 4), some (.ref 24)], [], 3, 3120, kcU (kcS 30 58) 26 1 24)) rfl ?_
  rw [kc_put (a := 30) (t := 57) rfl]
  exact mv_G_ret rfl rfl rfl (Nat.le_of_ble_eq_true rfl) trivial ⟨rfl, rfl⟩
/-! KindJudge$Book.<init> on cell 1 -/
set_option maxRecDepth 100000 in
set_option maxHeartbeats 4000000 in
theorem kc_9_ok (d : Nat) : mv_C kjP kjSta (d + 4) 18 [.ref 1] (kcS 2 89) (fun v S => v = none ∧ S = kcS 30 56) := by
  refine mv_C_in kjM_18 (lc := [some (.ref 1), none, none, none]) rfl rfl rfl ?_
  refine mv_G_run 3 (F' := (7, [some (.ref 1), none, none, none], [.ref 2], 1, 2, mv_new (kcS 2 89) (.inr 2))) rfl ?_
  rw [kc_new (a := 2) (t := 89) rfl rfl rfl]
  refine mv_G_run 1 (F' := (8, [some (.ref 1), none, none, none], [.ref 2, .ref 2], 1, 2, kcS 3 89)) rfl ?_
  refine mv_G_call (r := [.ref 2]) (kc_1_ok _) rfl rfl rfl rfl rfl (Nat.le_of_ble_eq_true rfl) (Nat.le_of_ble_eq_true rfl) (Nat.le_of_ble_eq_true rfl) ?_
  rintro _ _ ⟨rfl, rfl⟩
  refine mv_G_run 2 (F' := (15, [some (.ref 1), some (.ref 2), none, none], [.ref 4], 3, 1511, mv_new (kcS 4 88) (.inr 3))) rfl ?_
  rw [kc_new (a := 4) (t := 88) rfl rfl rfl]
  refine mv_G_run 2 (F' := (17, [some (.ref 1), some (.ref 2), none, none], [.ref 2, .ref 4, .ref 4], 3, 1511, kcS 5 88)) rfl ?_
  refine mv_G_call (r := [.ref 4]) (kc_6_ok _) rfl rfl rfl rfl rfl (Nat.le_of_ble_eq_true rfl) (Nat.le_of_ble_eq_true rfl) (Nat.le_of_ble_eq_true rfl) ?_
  rintro _ _ ⟨rfl, rfl⟩
  refine mv_G_run 2 (F' := (24, [some (.ref 1), some (.ref 2), some (.ref 4), none], [.ref 24], 23, 1938, mv_new (kcS 24 68) (.inr 7))) rfl ?_
  rw [kc_new (a := 24) (t := 68) rfl rfl rfl]
  refine mv_G_run 3 (F' := (27, [some (.ref 1), some (.ref 2), some (.ref 4), none], [.ref 4, .ref 2, .ref 24, .ref 24], 23, 1938, kcS 25 68)) rfl ?_
  refine mv_G_call (r := [.ref 24]) (kc_7_ok _) rfl rfl rfl rfl rfl (Nat.le_of_ble_eq_true rfl) (Nat.le_of_ble_eq_true rfl) (Nat.le_of_ble_eq_true rfl) ?_
  rintro _ _ ⟨rfl, rfl⟩
  refine mv_G_run 4 (F' := (36, [some (.ref 1), some (.ref 2), some (.ref 4), some (.ref 24)], [], 24, 3438, kcU (kcS 26 65) 1 0 2)) rfl ?_
  rw [kc_put (a := 26) (t := 64) rfl]
  refine mv_G_run 3 (F' := (41, [some (.ref 1), some (.ref 2), some (.ref 4), some (.ref 24)], [], 24, 3438, kcU (kcS 26 64) 1 1 4)) rfl ?_
  rw [kc_put (a := 26) (t := 63) rfl]
  refine mv_G_run 3 (F' := (46, [some (.ref 1), some (.ref 2), some (.ref 4), some (.ref 24)], [], 24, 3438, kcU (kcS 26 63) 1 2 24)) rfl ?_
  rw [kc_put (a := 26) (t := 62) rfl]
  refine mv_G_run 2 (F' := (50, [some (.ref 1), some (.ref 2), some (.ref 4), some (.ref 24)], [.ref 26, .ref 1], 25, 3450, mv_new (kcS 26 62) (.inr 8))) rfl ?_
  rw [kc_new (a := 26) (t := 62) rfl rfl rfl]
  refine mv_G_run 3 (F' := (53, [some (.ref 1), some (.ref 2), some (.ref 4), some (.ref 24)], [.ref 24, .ref 4, .ref 26, .ref 26, .ref 1], 25, 3450, kcS 27 62)) rfl ?_
  refine mv_G_call (r := [.ref 26, .ref 1]) (kc_8_ok _) rfl rfl rfl rfl rfl (Nat.le_of_ble_eq_true rfl) (Nat.le_of_ble_eq_true rfl) (Nat.le_of_ble_eq_true rfl) ?_
  rintro _ _ ⟨rfl, rfl⟩
  refine mv_G_run 1 (F' := (59, [some (.ref 1), some (.ref 2), some (.ref 4), some (.ref 24)], [], 28, 6570, kcU (kcS 30 57) 1 3 26)) rfl ?_
  rw [kc_put (a := 30) (t := 56) rfl]
  exact mv_G_ret rfl rfl rfl (Nat.le_of_ble_eq_true rfl) trivial ⟨rfl, rfl⟩
/-! KindJudge$Bytes.<init> on cell 31 -/
set_option maxRecDepth 100000 in
set_option maxHeartbeats 4000000 in
theorem kc_10_ok (d : Nat) : mv_C kjP kjSta (d + 2) 19 [.ref 31] (kcS 32 55) (fun v S => v = none ∧ S = kcS 33 54) := by
  refine mv_C_in kjM_19 (lc := [some (.ref 31)]) rfl rfl rfl ?_
  refine mv_G_run 5 (F' := (10, [some (.ref 31)], [.ref 32, .ref 31], 1, 1500, mv_new (kcS 32 55) (.inl (2, 1500)))) rfl ?_
  rw [kc_new (a := 32) (t := 55) rfl rfl rfl]
  refine mv_G_run 1 (F' := (13, [some (.ref 31)], [], 1, 1500, kcU (kcS 33 55) 31 0 32)) rfl ?_
  rw [kc_put (a := 33) (t := 54) rfl]
  exact mv_G_ret rfl rfl rfl (Nat.le_of_ble_eq_true rfl) trivial ⟨rfl, rfl⟩
/-! KindJudge$Classes.<init> on cell 34 -/
set_option maxRecDepth 100000 in
set_option maxHeartbeats 4000000 in
theorem kc_11_ok (d : Nat) : mv_C kjP kjSta (d + 2) 34 [.ref 34] (kcS 35 54) (fun v S => v = none ∧ S = kcS 39 50) := by
  refine mv_C_in kjM_34 (lc := [some (.ref 34)]) rfl rfl rfl ?_
  refine mv_G_run 5 (F' := (9, [some (.ref 34)], [.ref 35, .ref 34], 1, 8, mv_new (kcS 35 54) (.inl (0, 8)))) rfl ?_
  rw [kc_new (a := 35) (t := 54) rfl rfl rfl]
  refine mv_G_run 1 (F' := (12, [some (.ref 34)], [], 1, 8, kcU (kcS 36 54) 34 0 35)) rfl ?_
  rw [kc_put (a := 36) (t := 53) rfl]
  refine mv_G_run 3 (F' := (17, [some (.ref 34)], [.ref 36, .ref 34], 2, 16, mv_new (kcS 36 53) (.inl (0, 8)))) rfl ?_
  rw [kc_new (a := 36) (t := 53) rfl rfl rfl]
  refine mv_G_run 1 (F' := (20, [some (.ref 34)], [], 2, 16, kcU (kcS 37 53) 34 1 36)) rfl ?_
  rw [kc_put (a := 37) (t := 52) rfl]
  refine mv_G_run 3 (F' := (25, [some (.ref 34)], [.ref 37, .ref 34], 3, 80, mv_new (kcS 37 52) (.inl (0, 64)))) rfl ?_
  rw [kc_new (a := 37) (t := 52) rfl rfl rfl]
  refine mv_G_run 1 (F' := (28, [some (.ref 34)], [], 3, 80, kcU (kcS 38 52) 34 2 37)) rfl ?_
  rw [kc_put (a := 38) (t := 51) rfl]
  refine mv_G_run 3 (F' := (33, [some (.ref 34)], [.ref 38, .ref 34], 4, 88, mv_new (kcS 38 51) (.inl (0, 8)))) rfl ?_
  rw [kc_new (a := 38) (t := 51) rfl rfl rfl]
  refine mv_G_run 1 (F' := (36, [some (.ref 34)], [], 4, 88, kcU (kcS 39 51) 34 3 38)) rfl ?_
  rw [kc_put (a := 39) (t := 50) rfl]
  exact mv_G_ret rfl rfl rfl (Nat.le_of_ble_eq_true rfl) trivial ⟨rfl, rfl⟩
/-! KindJudge$Signatures.<init> on cell 39 -/
set_option maxRecDepth 100000 in
set_option maxHeartbeats 4000000 in
theorem kc_12_ok (d : Nat) : mv_C kjP kjSta (d + 2) 46 [.ref 39] (kcS 40 49) (fun v S => v = none ∧ S = kcS 43 46) := by
  refine mv_C_in kjM_46 (lc := [some (.ref 39)]) rfl rfl rfl ?_
  refine mv_G_run 5 (F' := (9, [some (.ref 39)], [.ref 40, .ref 39], 1, 16, mv_new (kcS 40 49) (.inl (0, 16)))) rfl ?_
  rw [kc_new (a := 40) (t := 49) rfl rfl rfl]
  refine mv_G_run 1 (F' := (12, [some (.ref 39)], [], 1, 16, kcU (kcS 41 49) 39 0 40)) rfl ?_
  rw [kc_put (a := 41) (t := 48) rfl]
  refine mv_G_run 3 (F' := (17, [some (.ref 39)], [.ref 41, .ref 39], 2, 80, mv_new (kcS 41 48) (.inl (0, 64)))) rfl ?_
  rw [kc_new (a := 41) (t := 48) rfl rfl rfl]
  refine mv_G_run 1 (F' := (20, [some (.ref 39)], [], 2, 80, kcU (kcS 42 48) 39 1 41)) rfl ?_
  rw [kc_put (a := 42) (t := 47) rfl]
  refine mv_G_run 3 (F' := (25, [some (.ref 39)], [.ref 42, .ref 39], 3, 96, mv_new (kcS 42 47) (.inl (0, 16)))) rfl ?_
  rw [kc_new (a := 42) (t := 47) rfl rfl rfl]
  refine mv_G_run 1 (F' := (28, [some (.ref 39)], [], 3, 96, kcU (kcS 43 47) 39 2 42)) rfl ?_
  rw [kc_put (a := 43) (t := 46) rfl]
  exact mv_G_ret rfl rfl rfl (Nat.le_of_ble_eq_true rfl) trivial ⟨rfl, rfl⟩
/-! KindJudge$Signatures.<init> on cell 43 -/
set_option maxRecDepth 100000 in
set_option maxHeartbeats 4000000 in
theorem kc_13_ok (d : Nat) : mv_C kjP kjSta (d + 2) 46 [.ref 43] (kcS 44 45) (fun v S => v = none ∧ S = kcS 47 42) := by
  refine mv_C_in kjM_46 (lc := [some (.ref 43)]) rfl rfl rfl ?_
  refine mv_G_run 5 (F' := (9, [some (.ref 43)], [.ref 44, .ref 43], 1, 16, mv_new (kcS 44 45) (.inl (0, 16)))) rfl ?_
  rw [kc_new (a := 44) (t := 45) rfl rfl rfl]
  refine mv_G_run 1 (F' := (12, [some (.ref 43)], [], 1, 16, kcU (kcS 45 45) 43 0 44)) rfl ?_
  rw [kc_put (a := 45) (t := 44) rfl]
  refine mv_G_run 3 (F' := (17, [some (.ref 43)], [.ref 45, .ref 43], 2, 80, mv_new (kcS 45 44) (.inl (0, 64)))) rfl ?_
  rw [kc_new (a := 45) (t := 44) rfl rfl rfl]
  refine mv_G_run 1 (F' := (20, [some (.ref 43)], [], 2, 80, kcU (kcS 46 44) 43 1 45)) rfl ?_
  rw [kc_put (a := 46) (t := 43) rfl]
  refine mv_G_run 3 (F' := (25, [some (.ref 43)], [.ref 46, .ref 43], 3, 96, mv_new (kcS 46 43) (.inl (0, 16)))) rfl ?_
  rw [kc_new (a := 46) (t := 43) rfl rfl rfl]
  refine mv_G_run 1 (F' := (28, [some (.ref 43)], [], 3, 96, kcU (kcS 47 43) 43 2 46)) rfl ?_
  rw [kc_put (a := 47) (t := 42) rfl]
  exact mv_G_ret rfl rfl rfl (Nat.le_of_ble_eq_true rfl) trivial ⟨rfl, rfl⟩
/-! KindJudge$Reader.<init> on cell 52 -/
set_option maxRecDepth 100000 in
set_option maxHeartbeats 4000000 in
theorem kc_14_ok (d : Nat) : mv_C kjP kjSta (d + 2) 53 [.ref 52, .ref 31] (kcS 53 36) (fun v S => v = none ∧ S = kcS 53 35) := by
  refine mv_C_in kjM_53 (lc := [some (.ref 52), some (.ref 31)]) rfl rfl rfl ?_
  refine mv_G_run 5 (F' := (9, [some (.ref 52), some (.ref 31)], [], 0, 0, kcU (kcS 53 36) 52 0 31)) rfl ?_
  rw [kc_put (a := 53) (t := 35) rfl]
  exact mv_G_ret rfl rfl rfl (Nat.le_of_ble_eq_true rfl) trivial ⟨rfl, rfl⟩
/-! KindJudge$Layout.<init> on cell 33 -/
set_option maxRecDepth 100000 in
set_option maxHeartbeats 4000000 in
theorem kc_15_ok (d : Nat) : mv_C kjP kjSta (d + 3) 23 [.ref 33, .ref 31] (kcS 34 54) (fun v S => v = none ∧ S = kcS 53 34) := by
  refine mv_C_in kjM_23 (lc := [some (.ref 33), some (.ref 31)]) rfl rfl rfl ?_
  refine mv_G_run 4 (F' := (8, [some (.ref 33), some (.ref 31)], [.ref 34, .ref 33], 1, 5, mv_new (kcS 34 54) (.inr 4))) rfl ?_
  rw [kc_new (a := 34) (t := 54) rfl rfl rfl]
  refine mv_G_run 1 (F' := (9, [some (.ref 33), some (.ref 31)], [.ref 34, .ref 34, .ref 33], 1, 5, kcS 35 54)) rfl ?_
  refine mv_G_call (r := [.ref 34, .ref 33]) (kc_11_ok _) rfl rfl rfl rfl rfl (Nat.le_of_ble_eq_true rfl) (Nat.le_of_ble_eq_true rfl) (Nat.le_of_ble_eq_true rfl) ?_
  rintro _ _ ⟨rfl, rfl⟩
  refine mv_G_run 1 (F' := (15, [some (.ref 33), some (.ref 31)], [], 5, 93, kcU (kcS 39 50) 33 0 34)) rfl ?_
  rw [kc_put (a := 39) (t := 49) rfl]
  refine mv_G_run 2 (F' := (19, [some (.ref 33), some (.ref 31)], [.ref 39, .ref 33], 6, 97, mv_new (kcS 39 49) (.inr 5))) rfl ?_
  rw [kc_new (a := 39) (t := 49) rfl rfl rfl]
  refine mv_G_run 1 (F' := (20, [some (.ref 33), some (.ref 31)], [.ref 39, .ref 39, .ref 33], 6, 97, kcS 40 49)) rfl ?_
  refine mv_G_call (r := [.ref 39, .ref 33]) (kc_12_ok _) rfl rfl rfl rfl rfl (Nat.le_of_ble_eq_true rfl) (Nat.le_of_ble_eq_true rfl) (Nat.le_of_ble_eq_true rfl) ?_
  rintro _ _ ⟨rfl, rfl⟩
  refine mv_G_run 1 (F' := (26, [some (.ref 33), some (.ref 31)], [], 9, 193, kcU (kcS 43 46) 33 1 39)) rfl ?_
  rw [kc_put (a := 43) (t := 45) rfl]
  refine mv_G_run 2 (F' := (30, [some (.ref 33), some (.ref 31)], [.ref 43, .ref 33], 10, 197, mv_new (kcS 43 45) (.inr 5))) rfl ?_
  rw [kc_new (a := 43) (t := 45) rfl rfl rfl]
  refine mv_G_run 1 (F' := (31, [some (.ref 33), some (.ref 31)], [.ref 43, .ref 43, .ref 33], 10, 197, kcS 44 45)) rfl ?_
  refine mv_G_call (r := [.ref 43, .ref 33]) (kc_13_ok _) rfl rfl rfl rfl rfl (Nat.le_of_ble_eq_true rfl) (Nat.le_of_ble_eq_true rfl) (Nat.le_of_ble_eq_true rfl) ?_
  rintro _ _ ⟨rfl, rfl⟩
  refine mv_G_run 1 (F' := (37, [some (.ref 33), some (.ref 31)], [], 13, 293, kcU (kcS 47 42) 33 2 43)) rfl ?_
  rw [kc_put (a := 47) (t := 41) rfl]
  refine mv_G_run 3 (F' := (42, [some (.ref 33), some (.ref 31)], [.ref 47, .ref 33], 14, 309, mv_new (kcS 47 41) (.inl (0, 16)))) rfl ?_
  rw [kc_new (a := 47) (t := 41) rfl rfl rfl]
  refine mv_G_run 1 (F' := (45, [some (.ref 33), some (.ref 31)], [], 14, 309, kcU (kcS 48 41) 33 4 47)) rfl ?_
  rw [kc_put (a := 48) (t := 40) rfl]
  refine mv_G_run 3 (F' := (50, [some (.ref 33), some (.ref 31)], [.ref 48, .ref 33], 15, 325, mv_new (kcS 48 40) (.inl (0, 16)))) rfl ?_
  rw [kc_new (a := 48) (t := 40) rfl rfl rfl]
  refine mv_G_run 1 (F' := (53, [some (.ref 33), some (.ref 31)], [], 15, 325, kcU (kcS 49 40) 33 5 48)) rfl ?_
  rw [kc_put (a := 49) (t := 39) rfl]
  refine mv_G_run 3 (F' := (58, [some (.ref 33), some (.ref 31)], [.ref 49, .ref 33], 16, 341, mv_new (kcS 49 39) (.inl (0, 16)))) rfl ?_
  rw [kc_new (a := 49) (t := 39) rfl rfl rfl]
  refine mv_G_run 1 (F' := (61, [some (.ref 33), some (.ref 31)], [], 16, 341, kcU (kcS 50 39) 33 6 49)) rfl ?_
  rw [kc_put (a := 50) (t := 38) rfl]
  refine mv_G_run 3 (F' := (66, [some (.ref 33), some (.ref 31)], [.ref 50, .ref 33], 17, 357, mv_new (kcS 50 38) (.inl (0, 16)))) rfl ?_
  rw [kc_new (a := 50) (t := 38) rfl rfl rfl]
  refine mv_G_run 1 (F' := (69, [some (.ref 33), some (.ref 31)], [], 17, 357, kcU (kcS 51 38) 33 7 50)) rfl ?_
  rw [kc_put (a := 51) (t := 37) rfl]
  refine mv_G_run 3 (F' := (74, [some (.ref 33), some (.ref 31)], [.ref 51, .ref 33], 18, 421, mv_new (kcS 51 37) (.inl (0, 64)))) rfl ?_
  rw [kc_new (a := 51) (t := 37) rfl rfl rfl]
  refine mv_G_run 1 (F' := (77, [some (.ref 33), some (.ref 31)], [], 18, 421, kcU (kcS 52 37) 33 8 51)) rfl ?_
  rw [kc_put (a := 52) (t := 36) rfl]
  refine mv_G_run 2 (F' := (81, [some (.ref 33), some (.ref 31)], [.ref 52, .ref 33], 19, 424, mv_new (kcS 52 36) (.inr 6))) rfl ?_
  rw [kc_new (a := 52) (t := 36) rfl rfl rfl]
  refine mv_G_run 2 (F' := (83, [some (.ref 33), some (.ref 31)], [.ref 31, .ref 52, .ref 52, .ref 33], 19, 424, kcS 53 36)) rfl ?_
  refine mv_G_call (r := [.ref 52, .ref 33]) (kc_14_ok _) rfl rfl rfl rfl rfl (Nat.le_of_ble_eq_true rfl) (Nat.le_of_ble_eq_true rfl) (Nat.le_of_ble_eq_true rfl) ?_
  rintro _ _ ⟨rfl, rfl⟩
  refine mv_G_run 1 (F' := (89, [some (.ref 33), some (.ref 31)], [], 19, 424, kcU (kcS 53 35) 33 3 52)) rfl ?_
  rw [kc_put (a := 53) (t := 34) rfl]
  exact mv_G_ret rfl rfl rfl (Nat.le_of_ble_eq_true rfl) trivial ⟨rfl, rfl⟩
/-! KindJudge$Code.<init> on cell 53 -/
set_option maxRecDepth 100000 in
set_option maxHeartbeats 4000000 in
theorem kc_16_ok (d : Nat) : mv_C kjP kjSta (d + 2) 63 [.ref 53, .ref 31, .ref 33] (kcS 54 34) (fun v S => v = none ∧ S = kcS 55 31) := by
  refine mv_C_in kjM_63 (lc := [some (.ref 53), some (.ref 31), some (.ref 33)]) rfl rfl rfl ?_
  refine mv_G_run 5 (F' := (10, [some (.ref 53), some (.ref 31), some (.ref 33)], [.ref 54, .ref 53], 1, 1500, mv_new (kcS 54 34) (.inl (1, 1500)))) rfl ?_
  rw [kc_new (a := 54) (t := 34) rfl rfl rfl]
  refine mv_G_run 1 (F' := (13, [some (.ref 53), some (.ref 31), some (.ref 33)], [], 1, 1500, kcU (kcS 55 34) 53 2 54)) rfl ?_
  rw [kc_put (a := 55) (t := 33) rfl]
  refine mv_G_run 3 (F' := (18, [some (.ref 53), some (.ref 31), some (.ref 33)], [], 1, 1500, kcU (kcS 55 33) 53 0 31)) rfl ?_
  rw [kc_put (a := 55) (t := 32) rfl]
  refine mv_G_run 3 (F' := (23, [some (.ref 53), some (.ref 31), some (.ref 33)], [], 1, 1500, kcU (kcS 55 32) 53 1 33)) rfl ?_
  rw [kc_put (a := 55) (t := 31) rfl]
  exact mv_G_ret rfl rfl rfl (Nat.le_of_ble_eq_true rfl) trivial ⟨rfl, rfl⟩
/-! KindJudge$Flow.<init> on cell 55 -/
set_option maxRecDepth 100000 in
set_option maxHeartbeats 4000000 in
theorem kc_17_ok (d : Nat) : mv_C kjP kjSta (d + 2) 77 [.ref 55, .ref 33, .ref 53] (kcS 56 28) (fun v S => v = none ∧ S = kcS 59 23) := by
  refine mv_C_in kjM_77 (lc := [some (.ref 55), some (.ref 33), some (.ref 53)]) rfl rfl rfl ?_
  refine mv_G_run 5 (F' := (10, [some (.ref 55), some (.ref 33), some (.ref 53)], [.ref 56, .ref 55], 1, 1500, mv_new (kcS 56 28) (.inl (2, 1500)))) rfl ?_
  rw [kc_new (a := 56) (t := 28) rfl rfl rfl]
  refine mv_G_run 1 (F' := (13, [some (.ref 55), some (.ref 33), some (.ref 53)], [], 1, 1500, kcU (kcS 57 28) 55 2 56)) rfl ?_
  rw [kc_put (a := 57) (t := 27) rfl]
  refine mv_G_run 3 (F' := (19, [some (.ref 55), some (.ref 33), some (.ref 53)], [.ref 57, .ref 55], 2, 3000, mv_new (kcS 57 27) (.inl (3, 1500)))) rfl ?_
  rw [kc_new (a := 57) (t := 27) rfl rfl rfl]
  refine mv_G_run 1 (F' := (22, [some (.ref 55), some (.ref 33), some (.ref 53)], [], 2, 3000, kcU (kcS 58 27) 55 3 57)) rfl ?_
  rw [kc_put (a := 58) (t := 26) rfl]
  refine mv_G_run 3 (F' := (27, [some (.ref 55), some (.ref 33), some (.ref 53)], [.ref 58, .ref 55], 3, 3120, mv_new (kcS 58 26) (.inl (1, 120)))) rfl ?_
  rw [kc_new (a := 58) (t := 26) rfl rfl rfl]
  refine mv_G_run 1 (F' := (30, [some (.ref 55), some (.ref 33), some (.ref 53)], [], 3, 3120, kcU (kcS 59 26) 55 4 58)) rfl ?_
  rw [kc_put (a := 59) (t := 25) rfl]
  refine mv_G_run 3 (F' := (35, [some (.ref 55), some (.ref 33), some (.ref 53)], [], 3, 3120, kcU (kcS 59 25) 55 0 33)) rfl ?_
  rw [kc_put (a := 59) (t := 24) rfl]
  refine mv_G_run 3 (F' := (40, [some (.ref 55), some (.ref 33), some (.ref 53)], [], 3, 3120, kcU (kcS 59 24) 55 1 53)) rfl ?_
  rw [kc_put (a := 59) (t := 23) rfl]
  exact mv_G_ret rfl rfl rfl (Nat.le_of_ble_eq_true rfl) trivial ⟨rfl, rfl⟩
/-! KindJudge$Book.<init> on cell 30 -/
set_option maxRecDepth 100000 in
set_option maxHeartbeats 4000000 in
theorem kc_18_ok (d : Nat) : mv_C kjP kjSta (d + 4) 18 [.ref 30] (kcS 31 55) (fun v S => v = none ∧ S = kcS 59 22) := by
  refine mv_C_in kjM_18 (lc := [some (.ref 30), none, none, none]) rfl rfl rfl ?_
  refine mv_G_run 3 (F' := (7, [some (.ref 30), none, none, none], [.ref 31], 1, 2, mv_new (kcS 31 55) (.inr 2))) rfl ?_
  rw [kc_new (a := 31) (t := 55) rfl rfl rfl]
  refine mv_G_run 1 (F' := (8, [some (.ref 30), none, none, none], [.ref 31, .ref 31], 1, 2, kcS 32 55)) rfl ?_
  refine mv_G_call (r := [.ref 31]) (kc_10_ok _) rfl rfl rfl rfl rfl (Nat.le_of_ble_eq_true rfl) (Nat.le_of_ble_eq_true rfl) (Nat.le_of_ble_eq_true rfl) ?_
  rintro _ _ ⟨rfl, rfl⟩
  refine mv_G_run 2 (F' := (15, [some (.ref 30), some (.ref 31), none, none], [.ref 33], 3, 1511, mv_new (kcS 33 54) (.inr 3))) rfl ?_
  rw [kc_new (a := 33) (t := 54) rfl rfl rfl]
  refine mv_G_run 2 (F' := (17, [some (.ref 30), some (.ref 31), none, none], [.ref 31, .ref 33, .ref 33], 3, 1511, kcS 34 54)) rfl ?_
  refine mv_G_call (r := [.ref 33]) (kc_15_ok _) rfl rfl rfl rfl rfl (Nat.le_of_ble_eq_true rfl) (Nat.le_of_ble_eq_true rfl) (Nat.le_of_ble_eq_true rfl) ?_
  rintro _ _ ⟨rfl, rfl⟩
  refine mv_G_run 2 (F' := (24, [some (.ref 30), some (.ref 31), some (.ref 33), none], [.ref 53], 23, 1938, mv_new (kcS 53 34) (.inr 7))) rfl ?_
  rw [kc_new (a := 53) (t := 34) rfl rfl rfl]
  refine mv_G_run 3 (F' := (27, [some (.ref 30), some (.ref 31), some (.ref 33), none], [.ref 33, .ref 31, .ref 53, .ref 53], 23, 1938, kcS 54 34)) rfl ?_
  refine mv_G_call (r := [.ref 53]) (kc_16_ok _) rfl rfl rfl rfl rfl (Nat.le_of_ble_eq_true rfl) (Nat.le_of_ble_eq_true rfl) (Nat.le_of_ble_eq_true rfl) ?_
  rintro _ _ ⟨rfl, rfl⟩
  refine mv_G_run 4 (F' := (36, [some (.ref 30), some (.ref 31), some (.ref 33), some (.ref 53)], [], 24, 3438, kcU (kcS 55 31) 30 0 31)) rfl ?_
  rw [kc_put (a := 55) (t := 30) rfl]
  refine mv_G_run 3 (F' := (41, [some (.ref 30), some (.ref 31), some (.ref 33), some (.ref 53)], [], 24, 3438, kcU (kcS 55 30) 30 1 33)) rfl ?_
  rw [kc_put (a := 55) (t := 29) rfl]
  refine mv_G_run 3 (F' := (46, [some (.ref 30), some (.ref 31), some (.ref 33), some (.ref 53)], [], 24, 3438, kcU (kcS 55 29) 30 2 53)) rfl ?_
  rw [kc_put (a := 55) (t := 28) rfl]
  refine mv_G_run 2 (F' := (50, [some (.ref 30), some (.ref 31), some (.ref 33), some (.ref 53)], [.ref 55, .ref 30], 25, 3450, mv_new (kcS 55 28) (.inr 8))) rfl ?_
  rw [kc_new (a := 55) (t := 28) rfl rfl rfl]
  refine mv_G_run 3 (F' := (53, [some (.ref 30), some (.ref 31), some (.ref 33), some (.ref 53)], [.ref 53, .ref 33, .ref 55, .ref 55, .ref 30], 25, 3450, kcS 56 28)) rfl ?_
  refine mv_G_call (r := [.ref 55, .ref 30]) (kc_17_ok _) rfl rfl rfl rfl rfl (Nat.le_of_ble_eq_true rfl) (Nat.le_of_ble_eq_true rfl) (Nat.le_of_ble_eq_true rfl) ?_
  rintro _ _ ⟨rfl, rfl⟩
  refine mv_G_run 1 (F' := (59, [some (.ref 30), some (.ref 31), some (.ref 33), some (.ref 53)], [], 28, 6570, kcU (kcS 59 23) 30 3 55)) rfl ?_
  rw [kc_put (a := 59) (t := 22) rfl]
  exact mv_G_ret rfl rfl rfl (Nat.le_of_ble_eq_true rfl) trivial ⟨rfl, rfl⟩
/-! KindJudge.<init> on cell 0 -/
set_option maxRecDepth 100000 in
set_option maxHeartbeats 4000000 in
theorem kc_19_ok (d : Nat) : mv_C kjP kjSta (d + 5) 0 [.ref 0] (kcS 1 89) (fun v S => v = none ∧ S = kcS 59 21) := by
  refine mv_C_in kjM_0 (lc := [some (.ref 0)]) rfl rfl rfl ?_
  refine mv_G_run 4 (F' := (8, [some (.ref 0)], [.ref 1, .ref 0], 1, 4, mv_new (kcS 1 89) (.inr 1))) rfl ?_
  rw [kc_new (a := 1) (t := 89) rfl rfl rfl]
  refine mv_G_run 1 (F' := (9, [some (.ref 0)], [.ref 1, .ref 1, .ref 0], 1, 4, kcS 2 89)) rfl ?_
  refine mv_G_call (r := [.ref 1, .ref 0]) (kc_9_ok _) rfl rfl rfl rfl rfl (Nat.le_of_ble_eq_true rfl) (Nat.le_of_ble_eq_true rfl) (Nat.le_of_ble_eq_true rfl) ?_
  rintro _ _ ⟨rfl, rfl⟩
  refine mv_G_run 1 (F' := (15, [some (.ref 0)], [], 29, 6574, kcU (kcS 30 56) 0 0 1)) rfl ?_
  rw [kc_put (a := 30) (t := 55) rfl]
  refine mv_G_run 2 (F' := (19, [some (.ref 0)], [.ref 30, .ref 0], 30, 6578, mv_new (kcS 30 55) (.inr 1))) rfl ?_
  rw [kc_new (a := 30) (t := 55) rfl rfl rfl]
  refine mv_G_run 1 (F' := (20, [some (.ref 0)], [.ref 30, .ref 30, .ref 0], 30, 6578, kcS 31 55)) rfl ?_
  refine mv_G_call (r := [.ref 30, .ref 0]) (kc_18_ok _) rfl rfl rfl rfl rfl (Nat.le_of_ble_eq_true rfl) (Nat.le_of_ble_eq_true rfl) (Nat.le_of_ble_eq_true rfl) ?_
  rintro _ _ ⟨rfl, rfl⟩
  refine mv_G_run 1 (F' := (26, [some (.ref 0)], [], 58, 13148, kcU (kcS 59 22) 0 1 30)) rfl ?_
  rw [kc_put (a := 59) (t := 21) rfl]
  exact mv_G_ret rfl rfl rfl (Nat.le_of_ble_eq_true rfl) trivial ⟨rfl, rfl⟩
/-! KindJudgeModel.<init> on cell 59 -/
set_option maxRecDepth 100000 in
set_option maxHeartbeats 4000000 in
theorem kc_20_ok (d : Nat) : mv_C kjP kjSta (d + 2) 100 [.ref 59] (kcS 60 21) (fun v S => v = none ∧ S = kcS 81 0) := by
  refine mv_C_in kjM_100 (lc := [some (.ref 59)]) rfl rfl rfl ?_
  refine mv_G_run 5 (F' := (10, [some (.ref 59)], [.ref 60, .ref 59], 1, 1500, mv_new (kcS 60 21) (.inl (0, 1500)))) rfl ?_
  rw [kc_new (a := 60) (t := 21) rfl rfl rfl]
  refine mv_G_run 1 (F' := (13, [some (.ref 59)], [], 1, 1500, kcU (kcS 61 21) 59 3 60)) rfl ?_
  rw [kc_put (a := 61) (t := 20) rfl]
  refine mv_G_run 3 (F' := (19, [some (.ref 59)], [.ref 61, .ref 59], 2, 3000, mv_new (kcS 61 20) (.inl (0, 1500)))) rfl ?_
  rw [kc_new (a := 61) (t := 20) rfl rfl rfl]
  refine mv_G_run 1 (F' := (22, [some (.ref 59)], [], 2, 3000, kcU (kcS 62 20) 59 4 61)) rfl ?_
  rw [kc_put (a := 62) (t := 19) rfl]
  refine mv_G_run 3 (F' := (28, [some (.ref 59)], [.ref 62, .ref 59], 3, 4500, mv_new (kcS 62 19) (.inl (0, 1500)))) rfl ?_
  rw [kc_new (a := 62) (t := 19) rfl rfl rfl]
  refine mv_G_run 1 (F' := (31, [some (.ref 59)], [], 3, 4500, kcU (kcS 63 19) 59 6 62)) rfl ?_
  rw [kc_put (a := 63) (t := 18) rfl]
  refine mv_G_run 3 (F' := (36, [some (.ref 59)], [.ref 63, .ref 59], 4, 4508, mv_new (kcS 63 18) (.inl (0, 8)))) rfl ?_
  rw [kc_new (a := 63) (t := 18) rfl rfl rfl]
  refine mv_G_run 1 (F' := (39, [some (.ref 59)], [], 4, 4508, kcU (kcS 64 18) 59 13 63)) rfl ?_
  rw [kc_put (a := 64) (t := 17) rfl]
  refine mv_G_run 3 (F' := (44, [some (.ref 59)], [.ref 64, .ref 59], 5, 4516, mv_new (kcS 64 17) (.inl (0, 8)))) rfl ?_
  rw [kc_new (a := 64) (t := 17) rfl rfl rfl]
  refine mv_G_run 1 (F' := (47, [some (.ref 59)], [], 5, 4516, kcU (kcS 65 17) 59 14 64)) rfl ?_
  rw [kc_put (a := 65) (t := 16) rfl]
  refine mv_G_run 3 (F' := (52, [some (.ref 59)], [.ref 65, .ref 59], 6, 4580, mv_new (kcS 65 16) (.inl (0, 64)))) rfl ?_
  rw [kc_new (a := 65) (t := 16) rfl rfl rfl]
  refine mv_G_run 1 (F' := (55, [some (.ref 59)], [], 6, 4580, kcU (kcS 66 16) 59 15 65)) rfl ?_
  rw [kc_put (a := 66) (t := 15) rfl]
  refine mv_G_run 3 (F' := (60, [some (.ref 59)], [.ref 66, .ref 59], 7, 4588, mv_new (kcS 66 15) (.inl (0, 8)))) rfl ?_
  rw [kc_new (a := 66) (t := 15) rfl rfl rfl]
  refine mv_G_run 1 (F' := (63, [some (.ref 59)], [], 7, 4588, kcU (kcS 67 15) 59 17 66)) rfl ?_
  rw [kc_put (a := 67) (t := 14) rfl]
  refine mv_G_run 3 (F' := (68, [some (.ref 59)], [.ref 67, .ref 59], 8, 4612, mv_new (kcS 67 14) (.inl (0, 24)))) rfl ?_
  rw [kc_new (a := 67) (t := 14) rfl rfl rfl]
  refine mv_G_run 1 (F' := (71, [some (.ref 59)], [], 8, 4612, kcU (kcS 68 14) 59 18 67)) rfl ?_
  rw [kc_put (a := 68) (t := 13) rfl]
  refine mv_G_run 3 (F' := (76, [some (.ref 59)], [.ref 68, .ref 59], 9, 4620, mv_new (kcS 68 13) (.inl (0, 8)))) rfl ?_
  rw [kc_new (a := 68) (t := 13) rfl rfl rfl]
  refine mv_G_run 1 (F' := (79, [some (.ref 59)], [], 9, 4620, kcU (kcS 69 13) 59 19 68)) rfl ?_
  rw [kc_put (a := 69) (t := 12) rfl]
  refine mv_G_run 3 (F' := (84, [some (.ref 59)], [.ref 69, .ref 59], 10, 4636, mv_new (kcS 69 12) (.inl (0, 16)))) rfl ?_
  rw [kc_new (a := 69) (t := 12) rfl rfl rfl]
  refine mv_G_run 1 (F' := (87, [some (.ref 59)], [], 10, 4636, kcU (kcS 70 12) 59 21 69)) rfl ?_
  rw [kc_put (a := 70) (t := 11) rfl]
  refine mv_G_run 3 (F' := (92, [some (.ref 59)], [.ref 70, .ref 59], 11, 4700, mv_new (kcS 70 11) (.inl (0, 64)))) rfl ?_
  rw [kc_new (a := 70) (t := 11) rfl rfl rfl]
  refine mv_G_run 1 (F' := (95, [some (.ref 59)], [], 11, 4700, kcU (kcS 71 11) 59 22 70)) rfl ?_
  rw [kc_put (a := 71) (t := 10) rfl]
  refine mv_G_run 3 (F' := (100, [some (.ref 59)], [.ref 71, .ref 59], 12, 4716, mv_new (kcS 71 10) (.inl (0, 16)))) rfl ?_
  rw [kc_new (a := 71) (t := 10) rfl rfl rfl]
  refine mv_G_run 1 (F' := (103, [some (.ref 59)], [], 12, 4716, kcU (kcS 72 10) 59 23 71)) rfl ?_
  rw [kc_put (a := 72) (t := 9) rfl]
  refine mv_G_run 3 (F' := (108, [some (.ref 59)], [.ref 72, .ref 59], 13, 4732, mv_new (kcS 72 9) (.inl (0, 16)))) rfl ?_
  rw [kc_new (a := 72) (t := 9) rfl rfl rfl]
  refine mv_G_run 1 (F' := (111, [some (.ref 59)], [], 13, 4732, kcU (kcS 73 9) 59 24 72)) rfl ?_
  rw [kc_put (a := 73) (t := 8) rfl]
  refine mv_G_run 3 (F' := (116, [some (.ref 59)], [.ref 73, .ref 59], 14, 4748, mv_new (kcS 73 8) (.inl (0, 16)))) rfl ?_
  rw [kc_new (a := 73) (t := 8) rfl rfl rfl]
  refine mv_G_run 1 (F' := (119, [some (.ref 59)], [], 14, 4748, kcU (kcS 74 8) 59 25 73)) rfl ?_
  rw [kc_put (a := 74) (t := 7) rfl]
  refine mv_G_run 3 (F' := (124, [some (.ref 59)], [.ref 74, .ref 59], 15, 4764, mv_new (kcS 74 7) (.inl (0, 16)))) rfl ?_
  rw [kc_new (a := 74) (t := 7) rfl rfl rfl]
  refine mv_G_run 1 (F' := (127, [some (.ref 59)], [], 15, 4764, kcU (kcS 75 7) 59 26 74)) rfl ?_
  rw [kc_put (a := 75) (t := 6) rfl]
  refine mv_G_run 3 (F' := (133, [some (.ref 59)], [.ref 75, .ref 59], 16, 6684, mv_new (kcS 75 6) (.inl (0, 1920)))) rfl ?_
  rw [kc_new (a := 75) (t := 6) rfl rfl rfl]
  refine mv_G_run 1 (F' := (136, [some (.ref 59)], [], 16, 6684, kcU (kcS 76 6) 59 27 75)) rfl ?_
  rw [kc_put (a := 76) (t := 5) rfl]
  refine mv_G_run 3 (F' := (142, [some (.ref 59)], [.ref 76, .ref 59], 17, 8604, mv_new (kcS 76 5) (.inl (1, 1920)))) rfl ?_
  rw [kc_new (a := 76) (t := 5) rfl rfl rfl]
  refine mv_G_run 1 (F' := (145, [some (.ref 59)], [], 17, 8604, kcU (kcS 77 5) 59 28 76)) rfl ?_
  rw [kc_put (a := 77) (t := 4) rfl]
  refine mv_G_run 3 (F' := (150, [some (.ref 59)], [.ref 77, .ref 59], 18, 8668, mv_new (kcS 77 4) (.inl (0, 64)))) rfl ?_
  rw [kc_new (a := 77) (t := 4) rfl rfl rfl]
  refine mv_G_run 1 (F' := (153, [some (.ref 59)], [], 18, 8668, kcU (kcS 78 4) 59 29 77)) rfl ?_
  rw [kc_put (a := 78) (t := 3) rfl]
  refine mv_G_run 3 (F' := (159, [some (.ref 59)], [.ref 78, .ref 59], 19, 10588, mv_new (kcS 78 3) (.inl (0, 1920)))) rfl ?_
  rw [kc_new (a := 78) (t := 3) rfl rfl rfl]
  refine mv_G_run 1 (F' := (162, [some (.ref 59)], [], 19, 10588, kcU (kcS 79 3) 59 30 78)) rfl ?_
  rw [kc_put (a := 79) (t := 2) rfl]
  refine mv_G_run 3 (F' := (168, [some (.ref 59)], [.ref 79, .ref 59], 20, 41308, mv_new (kcS 79 2) (.inl (0, 30720)))) rfl ?_
  rw [kc_new (a := 79) (t := 2) rfl rfl rfl]
  refine mv_G_run 1 (F' := (171, [some (.ref 59)], [], 20, 41308, kcU (kcS 80 2) 59 31 79)) rfl ?_
  rw [kc_put (a := 80) (t := 1) rfl]
  refine mv_G_run 3 (F' := (176, [some (.ref 59)], [.ref 80, .ref 59], 21, 41324, mv_new (kcS 80 1) (.inl (0, 16)))) rfl ?_
  rw [kc_new (a := 80) (t := 1) rfl rfl rfl]
  refine mv_G_run 1 (F' := (179, [some (.ref 59)], [], 21, 41324, kcU (kcS 81 1) 59 32 80)) rfl ?_
  rw [kc_put (a := 81) (t := 0) rfl]
  exact mv_G_ret rfl rfl rfl (Nat.le_of_ble_eq_true rfl) trivial ⟨rfl, rfl⟩
theorem kc_out {x y : Nat} : ∀ {l : List (Nat × Nat × Nat)}, (∀ e ∈ l, e.1 ≠ x ∨ e.2.1 ≠ y) → kcR l x y = none
  | [], _ => rfl
  | e :: r, h => by
    unfold kcR
    rw [kc_out (fun e' he' => h e' (List.mem_cons_of_mem _ he'))]
    rcases h e List.mem_cons_self with h1 | h1
    · rw [if_neg (fun z => h1 z.symm)]
    · split
      · rw [if_neg (fun z => h1 z.symm)]
      · rfl
set_option maxRecDepth 100000 in
theorem kc_small : ∀ x, x < 82 → ∀ y, y < 40 → kcR kcF x y = kjR false x y := by decide +kernel
set_option maxRecDepth 100000 in
theorem kc_rows : (kjRt false).length = 82 ∧ ∀ r ∈ kjRt false, r.length ≤ 40 := by decide +kernel
set_option maxRecDepth 100000 in
theorem kc_keys : ∀ e ∈ kcF, e.1 < 82 ∧ e.2.1 < 40 := by decide +kernel
theorem kc_end : kcS 82 0 = kjS false kcZ kcZL := by
  have e : kcR (kcF.drop 0) = kjR false := by
    rw [List.drop_zero]
    funext x y
    by_cases h : x < 82 ∧ y < 40
    · exact kc_small x h.1 y h.2
    · rw [kc_out (fun e he => by
        obtain ⟨h1, h2⟩ := kc_keys e he
        by_cases e1 : e.1 = x
        · refine Or.inr (fun e2 => h ⟨by omega, by omega⟩)
        · exact Or.inl e1)]
      unfold kjR
      by_cases hx : x < 82
      · have hr : ((kjRt false).getD x []).length ≤ 40 := by
          rw [List.getD_eq_getElem?_getD, List.getElem?_eq_getElem (by rw [kc_rows.1]; exact hx)]
          exact kc_rows.2 _ (List.getElem_mem _)
        rw [List.getD_eq_getElem?_getD (l := (kjRt false).getD x []), List.getElem?_eq_none (by omega)]
        rfl
      · have e0 : (kjRt false).getD x [] = [] := by
          rw [List.getD_eq_getElem?_getD, List.getElem?_eq_none (by rw [kc_rows.1]; omega)]
          rfl
        rw [e0]
        rfl
  show (kjSH.take 82, kcZ, kcZL, kcR (kcF.drop 0)) = kjS false kcZ kcZL
  rw [e]
  rfl
end
section
/-! What each call answers on a fresh object, in the class and in the reference. -/
def k1J : kjI := mv_up kcZ 59 0 0
theorem k1_not {x : Int32} (h : ¬ x < 0) : (0 : Int32) ≤ x := Int32.not_lt.mp h
theorem k1_32 (b : Bool) (v : Int32) : kf32 b kcZ kcZL v = some 0 := by
  unfold kf32
  by_cases h : v < 0
  · rw [if_pos h]
  · rw [if_neg h]
    exact if_pos (k1_not h)
theorem k1_33 (b : Bool) (v1 v2 : Int32) : kf33 b kcZ kcZL v1 v2 = some (-1) := by
  unfold kf33
  by_cases h : v2 < 0
  · rw [if_pos h]
  · rw [if_neg h, k1_32]
    show (if (0 : Int32) ≤ v2 then some (-1 : Int32) else none) = _
    exact if_pos (k1_not h)
theorem k1_66 (b : Bool) (v1 v2 : Int32) : kf66 b kcZ kcZL v1 v2 = some 0 := by
  unfold kf66
  rw [k1_33]
  show (if (-1 : Int32) < 0 then some (0 : Int32) else none) = _
  exact if_pos (by decide)
theorem k1_has (v : Int32) : (if v < 0 then (some (0 : Int32)) else (if (0 : Int32) ≤ v then (some (0 : Int32)) else none)) = some 0 := by
  by_cases h : v < 0
  · rw [if_pos h]
  · rw [if_neg h]
    exact if_pos (k1_not h)
theorem k1_37 (b : Bool) (v : Int32) : kf37 b kcZ kcZL v = some 0 := k1_has v
theorem k1_49 (b : Bool) (v : Int32) : kf49 b kcZ kcZL v = some 0 := k1_has v
theorem k1_m1 : (if ¬ (0 : Int32) = 0 then none else some (-1 : Int32)) = some (-1) := if_neg (fun h => h rfl)
theorem k1_kind (a b c : Int32) : kf4 false kcZ kcZL a b c = some (-1) := by
  unfold kf4
  rw [k1_66]
  exact k1_m1
theorem k1_ways (a b : Int32) : kf6 false kcZ kcZL a b = some (-1) := by
  unfold kf6
  rw [k1_66]
  exact k1_m1
theorem k1_count (a b : Int32) : kf7 false kcZ kcZL a b = some (-1) := by
  unfold kf7
  rw [k1_49]
  rfl
theorem k1_fits (a b : Int32) : kf8 false kcZ kcZL a b = some (-1) := if_pos rfl
theorem k1_meet (a b : Int32) : kf9 false kcZ kcZL a b = some (-1) := if_pos rfl
theorem k1_method (a b : Int32) : kf10 false kcZ kcZL a b = some (-1) := by
  unfold kf10 kf29
  rw [k1_37]
  rfl
theorem k1_type (a b : Int32) : kf11 false kcZ kcZL a b = some (-1) := by
  unfold kf11
  rw [k1_37]
  rfl
theorem k1_fault (v : Int32) : ∃ r, kf3 false kcZ kcZL v = some r ∧ kf125 v kcZ kcZL = some (r, k1J, kcZL) := by
  by_cases h0 : v = 0
  · exact ⟨0, by unfold kf3; exact if_neg (fun h => h h0), by unfold kf125; exact if_neg (fun h => h h0)⟩
  by_cases h1 : v = 1
  · exact ⟨0, by unfold kf3; rw [if_pos h0]; exact if_neg (fun h => h h1), by unfold kf125; rw [if_pos h0]; exact if_neg (fun h => h h1)⟩
  by_cases h2 : v = 2
  · exact ⟨0, by unfold kf3; rw [if_pos h0, if_pos h1]; exact if_neg (fun h => h h2), by unfold kf125; rw [if_pos h0, if_pos h1]; exact if_neg (fun h => h h2)⟩
  · exact ⟨-1, by unfold kf3; rw [if_pos h0, if_pos h1, if_pos h2], by unfold kf125; rw [if_pos h0, if_pos h1, if_pos h2]; rfl⟩
theorem k1_mkind (a b c : Int32) : kf139 a b c kcZ kcZL = some (-1, k1J, kcZL) := if_pos rfl
theorem k1_140 {I : kjI} (hI : I 59 8 = 0) (a : Int32) : kf140 I kcZL a = some 0 := if_pos hI
theorem k1_141 {I : kjI} (hI : I 59 8 = 0) (a b : Int32) : kf141 I kcZL a b = some 0 := by
  unfold kf141
  rw [k1_140 hI]
  rfl
theorem k1_mways (a b : Int32) : kf146 a b kcZ kcZL = some (-1, k1J, kcZL) := by
  unfold kf146
  rw [k1_141 rfl]
  rfl
theorem k1_mcount (a b : Int32) : kf147 a b kcZ kcZL = some (-1, k1J, kcZL) := by
  unfold kf147
  rw [k1_140 rfl]
  rfl
theorem k1_mfits (a b : Int32) : kf149 a b kcZ kcZL = some (-1, k1J, kcZL) := if_pos rfl
theorem k1_mmeet (a b : Int32) : kf150 a b kcZ kcZL = some (-1, k1J, kcZL) := if_pos rfl
theorem k1_mmethod (a b : Int32) : kf151 a b kcZ kcZL = some (-1, k1J, kcZL) := if_pos rfl
theorem k1_mtype (a b : Int32) : kf152 a b kcZ kcZL = some (-1, k1J, kcZL) := if_pos rfl
theorem k1_total (v : Int32) : ∃ r, kf12 false kcZ kcZL v = some r ∧ kf153 v kcZ kcZL = some (r, k1J, kcZL) := by
  by_cases h0 : v.toInt = 0
  · exact ⟨0, by unfold kf12; rw [if_pos h0]; rfl, by unfold kf153; rw [if_pos h0]; exact if_pos rfl⟩
  by_cases h1 : v.toInt = 1
  · exact ⟨0, by unfold kf12; rw [if_neg h0, if_pos h1]; rfl, by unfold kf153; rw [if_neg h0, if_pos h1]; exact if_pos rfl⟩
  by_cases h2 : v.toInt = 2
  · exact ⟨0, by unfold kf12; rw [if_neg h0, if_neg h1, if_pos h2]; rfl, by unfold kf153; rw [if_neg h0, if_neg h1, if_pos h2]; exact if_pos rfl⟩
  by_cases h3 : v.toInt = 3
  · exact ⟨0, by unfold kf12; rw [if_neg h0, if_neg h1, if_neg h2, if_pos h3]; rfl, by unfold kf153; rw [if_neg h0, if_neg h1, if_neg h2, if_pos h3]; rfl⟩
  by_cases h4 : v.toInt = 4
  · exact ⟨0, by unfold kf12; rw [if_neg h0, if_neg h1, if_neg h2, if_neg h3, if_pos h4]; rfl, by unfold kf153; rw [if_neg h0, if_neg h1, if_neg h2, if_neg h3, if_pos h4]; rfl⟩
  · exact ⟨-1, by unfold kf12; rw [if_neg h0, if_neg h1, if_neg h2, if_neg h3, if_neg h4], by unfold kf153; rw [if_neg h0, if_neg h1, if_neg h2, if_neg h3, if_neg h4]; rfl⟩
/-- put: the class is asked first, then the reference -/
theorem k1_put (x : Int64) (v : Int32) : ∃ (r : Int32) (I' J' : kjI), kf1 false 9 x v kcZ kcZL = some (r, I', kcZL) ∧ kf104 9 x v I' kcZL = some (r, J', kcZL) := by
  obtain ⟨r, n', B', I', J', h1, h2, h3, -⟩ := k_put true 9 (Nat.le_refl _) x v kcZL kcZL 0 (fun _ => 0) kcZ kcZ ⟨by omega, rfl, fun i hi => absurd hi (Nat.not_lt_zero _)⟩ ⟨rfl, fun i hi => absurd hi (Nat.not_lt_zero _)⟩
  obtain ⟨r2, n2, B2, I2, J2, g1, g2, g3, g4, g5, g6, -⟩ := k_put true 9 (Nat.le_refl _) x v kcZL kcZL 0 (fun _ => 0) kcZ kcZ ⟨by omega, rfl, fun i hi => absurd hi (Nat.not_lt_zero _)⟩ ⟨rfl, fun i hi => absurd hi (Nat.not_lt_zero _)⟩
  have hI : I' = I2 := by
    have := h1.symm.trans g1
    exact (Prod.mk.inj (Prod.mk.inj (Option.some.inj this)).2).1
  have e59 : I' 59 = kcZ 59 := by
    rw [hI]
    exact g6 59 (by decide)
  have e60 : I' 60 = kcZ 60 := by
    rw [hI]
    exact g6 60 (by decide)
  obtain ⟨r3, n3, B3, I3, J3, q1, q2, -⟩ := k_put true 9 (Nat.le_refl _) x v kcZL kcZL 0 (fun _ => 0) kcZ I' ⟨by omega, rfl, fun i hi => absurd hi (Nat.not_lt_zero _)⟩ ⟨by rw [e59]; rfl, fun i hi => absurd hi (Nat.not_lt_zero _)⟩
  have er : r3 = r := by
    have := q1.symm.trans h1
    exact (Prod.mk.inj (Option.some.inj this)).1
  refine ⟨r, I', J3, ?_, by rw [← er]; exact q2⟩
  unfold kf1
  show (kf20 true 9 x v kcZ kcZL).bind _ = _
  rw [h1]
  exact if_pos h3
/-- load: what was put together has no byte -/
theorem k1_load : ∃ I' J' : kjI, kf13 false kcZ kcZL = some (I', kcZL) ∧ I' 0 3 = 1 ∧ kf123 (mv_up I' 31 1 0) kcZL = some (0, J', kcZL) ∧ J' 59 0 = 1 := ⟨_, _, rfl, rfl, rfl, rfl⟩
theorem k1_mlook (a b c : Int32) : kf144 a b c kcZ kcZL = some (0, mv_up kcZ 59 0 1, kcZL) := by
  unfold kf144
  rw [k1_141 rfl]
  rfl
end
section
/-! load and look throw on a fresh object. -/
abbrev kt_U : Jvm.Cond := Jvm.Cond.isRef (.static "java/lang/Throwable" "UNASSIGNED_STACK" "[Ljava/lang/StackTraceElement;")
abbrev kt_V : Jvm.Cond := Jvm.Cond.isRef (.static "java/lang/Throwable" "SUPPRESSED_SENTINEL" "Ljava/util/List;")
abbrev kt_LU : Jvm.Cond := Jvm.Cond.laysStatic "java/lang/Throwable" "UNASSIGNED_STACK" "[Ljava/lang/StackTraceElement;"
abbrev kt_LV : Jvm.Cond := Jvm.Cond.laysStatic "java/lang/Throwable" "SUPPRESSED_SENTINEL" "Ljava/util/List;"
def kt_ok (Fw : List Jvm.Cond) (a : Jvm.Cond) : Bool := mv_has lw_tbl a || (Fw.any (fun x => decide (x = a)) || (decide (a = kt_U) || (decide (a = kt_V) || (decide (a = kt_LU) || decide (a = kt_LV)))))
theorem kt_at {l Fw : List Jvm.Cond} (h : l.all (kt_ok Fw) = true) : ∀ a ∈ l, a ∈ kjTs ∨ a ∈ Fw ∨ a = kt_U ∨ a = kt_V ∨ a = kt_LU ∨ a = kt_LV := by
  intro a ha
  have h1 := List.all_eq_true.mp h a ha
  simp only [kt_ok, Bool.or_eq_true] at h1
  rcases h1 with h1 | h1 | h1 | h1 | h1 | h1
  · exact Or.inl (mv_has_in (fun _ h => h) h1)
  · exact Or.inr (Or.inl (mv_any_in h1))
  · exact Or.inr (Or.inr (Or.inl (of_decide_eq_true h1)))
  · exact Or.inr (Or.inr (Or.inr (Or.inl (of_decide_eq_true h1))))
  · exact Or.inr (Or.inr (Or.inr (Or.inr (Or.inl (of_decide_eq_true h1)))))
  · exact Or.inr (Or.inr (Or.inr (Or.inr (Or.inr (of_decide_eq_true h1)))))
abbrev kt_Y : String := "java/lang/RuntimeException"
abbrev kt_N : List String := ["java/lang/Exception"]
abbrev kt_I : String := "java/lang/IllegalArgumentException"
abbrev kt_E : String := "java/util/NoSuchElementException"
/-- the words of casts and declarations -/
def kt_F : List Jvm.Cond := [.castable kt_I kt_I, .castable kt_E kt_E, .declares ⟨"java/lang/RuntimeException", "<init>", "(Ljava/lang/String;)V"⟩, .declares ⟨"java/lang/Exception", "<init>", "(Ljava/lang/String;)V"⟩, .declares ⟨"java/lang/Throwable", "<init>", "(Ljava/lang/String;)V"⟩]
theorem kt_Fo : mv_Fo kt_F := by
  intro w hw
  simp only [kt_F, List.mem_cons, List.not_mem_nil, or_false] at hw
  rcases hw with rfl | rfl | rfl | rfl | rfl
  · exact Or.inl ⟨_, _, rfl⟩
  · exact Or.inl ⟨_, _, rfl⟩
  · exact Or.inr ⟨_, rfl⟩
  · exact Or.inr ⟨_, rfl⟩
  · exact Or.inr ⟨_, rfl⟩
set_option maxRecDepth 100000 in
set_option maxHeartbeats 4000000 in
theorem kt_Fin : kt_F.all (fun a => lw_tbl.any (fun x => decide (x = a))) = true := by decide +kernel
set_option maxRecDepth 100000 in
set_option maxHeartbeats 4000000 in
theorem kt_a2 : (mv_Xat "KindJudge" 43 kt_I 7 prog_13_method_2_code kt_Y kt_N).all (kt_ok kt_F) = true := by decide +kernel
set_option maxRecDepth 100000 in
set_option maxHeartbeats 4000000 in
theorem kt_a5 : (mv_Xat "KindJudge" 102 kt_E 13 prog_18_method_4_code kt_Y kt_N).all (kt_ok kt_F) = true := by decide +kernel
set_option maxRecDepth 100000 in
set_option maxHeartbeats 4000000 in
theorem kt_w2 : [Jvm.Cond.classLink "KindJudge" 39 kt_I, Jvm.Cond.instantiable kt_I 6, Jvm.Cond.initialized kt_I].all (mv_has lw_tbl) = true := by decide +kernel
set_option maxRecDepth 100000 in
set_option maxHeartbeats 4000000 in
theorem kt_w5 : [Jvm.Cond.classLink "KindJudge" 98 kt_E, Jvm.Cond.instantiable kt_E 6, Jvm.Cond.initialized kt_E].all (mv_has lw_tbl) = true := by decide +kernel
theorem kt_all {l : List Jvm.Cond} (h : l.all (mv_has lw_tbl) = true) : ∀ a ∈ l, a ∈ kjTs := fun a ha => mv_has_in (fun _ h => h) (List.all_eq_true.mp h a ha)
set_option maxRecDepth 100000 in
set_option maxHeartbeats 4000000 in
theorem kt_thr2 : mv_Thr kjTs kt_F kjM_2 21 kt_I kt_Y kt_N 39 41 43 7 prog_13_method_2_code :=
  ⟨by decide +kernel, by decide +kernel, by decide +kernel, by decide +kernel, by decide +kernel, by decide +kernel, by decide +kernel, by decide +kernel, ⟨by decide +kernel, by decide +kernel, by decide +kernel, by decide +kernel⟩, kt_all kt_w2 _ (List.Mem.head _), kt_all kt_w2 _ (List.Mem.tail _ (List.Mem.head _)), kt_all kt_w2 _ (List.Mem.tail _ (List.Mem.tail _ (List.Mem.head _))), kt_at kt_a2⟩
set_option maxRecDepth 100000 in
set_option maxHeartbeats 4000000 in
theorem kt_thr5 : mv_Thr kjTs kt_F kjM_5 24 kt_E kt_Y kt_N 98 100 102 13 prog_18_method_4_code :=
  ⟨by decide +kernel, by decide +kernel, by decide +kernel, by decide +kernel, by decide +kernel, by decide +kernel, by decide +kernel, by decide +kernel, ⟨by decide +kernel, by decide +kernel, by decide +kernel, by decide +kernel⟩, kt_all kt_w5 _ (List.Mem.head _), kt_all kt_w5 _ (List.Mem.tail _ (List.Mem.head _)), kt_all kt_w5 _ (List.Mem.tail _ (List.Mem.tail _ (List.Mem.head _))), kt_at kt_a5⟩
set_option maxRecDepth 100000 in
set_option maxHeartbeats 4000000 in
theorem kt_load {I' : kjI} (h1 : kf13 false kcZ kcZL = some (I', kcZL)) (h2 : I' 0 3 = 1) : mv_Gs kjP kjSta (mv_C kjP kjSta 7) kjM_2 (fun F => ∃ (lc : mv_L) (S' : mv_S), F = (21, lc, [], 0, 0, S') ∧ S' = kjS false (mv_up I' 31 1 0) kcZL) (0, mv_ent (mv_ml kjM_2) [.ref 0], [], 0, 0, kjS false kcZ kcZL) := by
  refine mv_Gs_run 1 (F' := (1, [some (.ref 0), none], [.ref 0], 0, 0, kjS false kcZ kcZL)) rfl ?_
  refine mv_Gs_call (r := []) (kf13_ok _ _ _ 0 _ h1) rfl rfl rfl rfl rfl (Nat.le_of_ble_eq_true rfl) (Nat.le_of_ble_eq_true rfl) (Nat.le_of_ble_eq_true rfl) ?_
  rintro _ _ ⟨rfl, rfl⟩
  refine mv_Gs_run 2 (F' := (8, [some (.ref 0), none], [.int (I' 0 3)], 0, 0, kjS false I' kcZL)) rfl ?_
  refine mv_Gs_br (tgt := 31) rfl rfl (by decide) (fun z => absurd z (by rw [h2]; decide)) (fun _ => ?_)
  refine mv_Gs_run 3 (F' := (18, [some (.ref 0), none], [.ref (kb true 2)], 0, 0, kjS false I' kcZL)) rfl ?_
  refine mv_Gs_call (r := []) (kf21_ok false true I' kcZL 6 _ rfl) rfl rfl rfl rfl rfl (Nat.le_of_ble_eq_true rfl) (Nat.le_of_ble_eq_true rfl) (Nat.le_of_ble_eq_true rfl) ?_
  rintro _ _ ⟨rfl, rfl⟩
  exact mv_Gs_stop ⟨_, _, rfl, rfl⟩
set_option maxRecDepth 100000 in
set_option maxHeartbeats 4000000 in
theorem kt_look (v1 v2 v3 : Int32) : mv_Gs kjP kjSta (mv_C kjP kjSta 7) kjM_5 (fun F => ∃ (lc : mv_L) (S' : mv_S), F = (24, lc, [], 0, 0, S') ∧ S' = kjS false kcZ kcZL) (0, mv_ent (mv_ml kjM_5) [.ref 0, .int v1, .int v2, .int v3], [], 0, 0, kjS false kcZ kcZL) := by
  refine mv_Gs_run 1 (F' := (1, [some (.ref 0), some (.int v1), some (.int v2), some (.int v3), none, none, none], [.int v3], 0, 0, kjS false kcZ kcZL)) rfl ?_
  refine mv_Gs_br (tgt := 24) rfl rfl (by decide) (fun _ => mv_Gs_stop ⟨_, _, rfl, rfl⟩) (fun _ => ?_)
  refine mv_Gs_run 2 (F' := (6, [some (.ref 0), some (.int v1), some (.int v2), some (.int v3), none, none, none], [.int 5, .int v3], 0, 0, kjS false kcZ kcZL)) rfl ?_
  refine mv_Gs_br (tgt := 24) rfl rfl (by decide) (fun _ => mv_Gs_stop ⟨_, _, rfl, rfl⟩) (fun _ => ?_)
  refine mv_Gs_run 5 (F' := (18, [some (.ref 0), some (.int v1), some (.int v2), some (.int v3), none, none, none], [.int v2, .int v1, .ref (kb false 24)], 0, 0, kjS false kcZ kcZL)) rfl ?_
  refine mv_Gs_call (r := []) (kf66_ok false false kcZ kcZL v1 v2 4 _ (k1_66 false v1 v2)) rfl rfl rfl rfl rfl (Nat.le_of_ble_eq_true rfl) (Nat.le_of_ble_eq_true rfl) (Nat.le_of_ble_eq_true rfl) ?_
  rintro _ _ ⟨rfl, rfl⟩
  refine mv_Gs_br (tgt := 34) rfl rfl (by decide) (fun z => absurd rfl z) (fun _ => ?_)
  exact mv_Gs_stop ⟨_, _, rfl, rfl⟩
section KT
variable (l : Launch) (hfl : l.flags.contains noTraceFlag = true) (A : Nat → Prop) (D : va_G) (cA : Nat → ClassId) (ad : Nat → Nat)
theorem kt_load_met (hfl : l.flags.contains noTraceFlag = true) {I' : kjI} (h1 : kf13 false kcZ kcZL = some (I', kcZL)) (h2 : I' 0 3 = 1) (text : String) (sa : Nat) :
    MetFree l kjM_2.1 (headSpec (Jvm.Cond.code kjM_2.1 (mv_cc kjM_2) (mv_ml kjM_2) (mv_rt kjM_2) :: kjTs) { frames := 7, cells := 1, slots := 6, locals := 176 }) (mv_PreT A D kjCl kjKd cA ad kjNw kjSta kjStn [.ref 0] (kjS false kcZ kcZL) kt_F "KindJudge" 41 text sa) (fun _ _ _ _ _ => True) (mv_PT A D kjCl kjKd cA ad kt_I (fun S' => S' = kjS false (mv_up I' 31 1 0) kcZL)) :=
  mv_soundT kjSy l hfl A D cA ad (d := 7) (i := 2) (as := [.ref 0]) (M := kjM_2) rfl rfl ⟨rfl, rfl⟩ kt_Fo kt_thr2 ⟨by decide, by decide⟩ ⟨by decide, by decide⟩ (kt_load h1 h2)
theorem kt_look_met (hfl : l.flags.contains noTraceFlag = true) (v1 v2 v3 : Int32) (text : String) (sa : Nat) :
    MetFree l kjM_5.1 (headSpec (Jvm.Cond.code kjM_5.1 (mv_cc kjM_5) (mv_ml kjM_5) (mv_rt kjM_5) :: kjTs) { frames := 7, cells := 1, slots := 6, locals := 176 }) (mv_PreT A D kjCl kjKd cA ad kjNw kjSta kjStn [.ref 0, .int v1, .int v2, .int v3] (kjS false kcZ kcZL) kt_F "KindJudge" 100 text sa) (fun _ _ _ _ _ => True) (mv_PT A D kjCl kjKd cA ad kt_E (fun S' => S' = kjS false kcZ kcZL)) :=
  mv_soundT kjSy l hfl A D cA ad (d := 7) (i := 5) (as := [.ref 0, .int v1, .int v2, .int v3]) (M := kjM_5) rfl rfl ⟨rfl, rfl⟩ kt_Fo kt_thr5 ⟨by decide, by decide⟩ ⟨by decide, by decide⟩ (kt_look v1 v2 v3)
end KT
end
section
/-! A static call of a method that has handlers. -/
section MVQ
variable {p : Program} {l : Launch} {e : Env} {R : Room} {s : State} {m : MethodId} {args : Array Value} {below : List Frame} {meth : Method} {cod : Code} {H : Heap} {locs : List Loc} {cells slots : Nat}
variable {y : MethodName} {bytes cc : ByteArray} {maxL nL mc ms index pc : Nat} {ret : Option FieldType} {hs : List (Nat × Nat × Nat × Nat)} {ws : List Jvm.Cond} {rm : Room} {Pc : Array Value → State → Prop} {Qc : Array Value → State → Outcome → State → Prop} {free : Addr → Prop} {own : String} {As rest : List Value} {ls : Array Slot}
theorem mv_backW (hM : Met l y ws rm Pc Qc mc ms free) (hblind : FrameBlind Pc) (hrc : rm.cells = mc) (hrs : rm.slots = ms)
    (hframes : rm.frames + 1 ≤ R.frames) (hlocals : 8 + (maxL + 11) + rm.locals ≤ R.locals)
    (hws : ∀ w ∈ ws, ∀ (a' : Array Value) (U : State), s.WarmedH U.vm → w.before a' U = true) (hcode : Jvm.Cond.codeWith y bytes maxL ret hs ∈ ws) (hinit : ∀ (a' : Array Value) (U : State), s.WarmedH U.vm → (Jvm.Cond.initialized y.cls).before a' U = true) :
    Back l R p e below s args y 3 8 (PreOf R mc ms Pc) (PostOf Qc mc ms free) := by
  refine Back.of_freeWith (handlers := hs) (S := headSpec ws rm) (P := Pc) (K := fun _ _ _ _ _ => True) (Q := fun a st o t => Qc a st o t ∧ ∃ L, FrameEnd st o t L mc ms ∧ ∀ q ∈ L, free q.base) (bytes := bytes) (maxL := maxL) (ret := ret)
    (E := fun a st o t L k n => k = mc ∧ n = ms ∧ ∀ q ∈ L, free q.base) hM hframes hlocals ?_ ?_ (fun _ _ _ _ _ _ _ _ _ => trivial) ?_ ?_
  · intro m meth c A a X hp
    exact ⟨atoms_intro fun w hw => hws w hw _ _ X.warmed, hws _ hcode _ _ X.warmed, hinit _ _ X.warmed, by rw [show (headSpec ws rm).room.cells = mc from hrc]; exact hp.1, by rw [show (headSpec ws rm).room.slots = ms from hrs]; exact hp.2.1⟩
  · intro m meth c A a g mk X hp
    exact hblind _ _ _ _ hp.2.2
  · intro a st o t ⟨hq, L, hF, hL⟩
    exact ⟨L, mc, ms, hF, rfl, rfl, hL⟩
  · intro m meth c A a g mk v t L k n X hp hq hF ⟨e1, e2, hL⟩
    subst e1; subst e2
    exact ⟨g, mk, t, L, rfl, rfl, hq.1, rfl, hL, rfl, rfl⟩
theorem mv_runSW (hx : p.tables.exec = Jvm.exec) (hb : cod.code = cc) (hml : cod.maxLocals = nL) (hown : s.vm.findClass own = some m.cls) (hlink : (Jvm.Cond.methodLink own index y).before args s = true) (hstat : (Jvm.Cond.static y).before args s = true) (hini : (Jvm.Cond.initialized y.cls).before args s = true)
    (hcode : (Jvm.Cond.codeWith y bytes maxL ret hs).before args s = true) (hy : y.cls ≠ "java/lang/invoke/MethodHandle" ∧ y.cls ≠ "java/lang/invoke/VarHandle") (hlen : ∀ sig, parseMethodDescriptor y.desc = some sig → As.length = sig.parameters.length)
    (hK : Back l R p e below s args y 3 8 (PreOf R mc ms Pc) (PostOf Qc mc ms free)) (hPc : ∀ U : State, U.heap = H → s.WarmedH U.vm → Pc As.toArray U) (hsize : ls.size = nL) (hcat : (rest.map fun v => v.category).sum ≤ 8) (hdg : decode cc pc = .ok (.invokestatic index, 3)) (hf : cells + mc ≤ R.cells ∧ slots + ms ≤ R.slots) :
    va_Run p l e R s m args below meth cod H locs cells slots mc ms (F0 m pc ls (As.reverse ++ rest)) rest (Qc As.toArray) free := by
  intro T hT X
  obtain ⟨mk, methM, cM, hnamed, hmethM, -, -, -, -, -, -, hsigM⟩ := Cond.codeWith_spec hcode
  have hstatic : methM.isStatic = true := Cond.static_spec hnamed hmethM hstat
  obtain ⟨kP, hkP, -⟩ := className_of_methodNamed hnamed
  have hinitP : kP.init = .initialized := Cond.initialized_spec (findClass_of_methodNamed hnamed) hkP hini
  obtain ⟨vm₁, X₁, hstep₁⟩ := X.invokestatic hx hown hlink hnamed hmethM hstatic hkP hinitP hy (g := F0 m pc ls (As.reverse ++ rest)) rfl (argsL := As) (rest := rest) (hlen _ hsigM) rfl (by rw [hb]; exact hdg)
  obtain ⟨v, ⟨U', l2, c2, s2⟩, X', hpost, hsteps⟩ := hK m meth cod ⟨T.setVm vm₁, locs, cells, slots⟩ { F0 m pc ls (As.reverse ++ rest) with stack := rest } (.invokestatic index) mk As.toArray X₁ rfl (hsize.trans hml.symm) (by rw [hb]; exact hdg) (lv_room hcat) (X₁.named hnamed) ⟨hf.1, hf.2, hPc (T.setVm vm₁) hT X₁.warmed⟩
  obtain ⟨g', mk', t, L, e1, e2, hq, h1, hL, h2, h3⟩ := hpost
  dsimp only [Pt.U, Pt.locs, Pt.cells, Pt.slots] at X' e1 e2 h1 h2 h3 hsteps
  subst h1; subst h2; subst h3
  exact ⟨v, (T.setVm vm₁).calling g' mk' As.toArray, t, U', L, hT, X', hL, e1, e2, hq, fun target h => hstep₁ _ fun acts => by rw [doInvoke_state]; exact hsteps.trans h⟩
end MVQ
end
section
/-! The law's own load and look, which catch. -/
section KL
variable {A : Nat → Prop} {D : va_G} {cl : List vw_C} {kd : List (List Nat)} {cA : Nat → ClassId} {ad : Nat → Nat} {Nw Fw : List Jvm.Cond} {sta : Nat → List Int32} {stn : List (String × String × String)} {as : List Value} {S : mv_S} {own text : String} {is sa : Nat} {s U : State} {H : Heap} {locs : List Loc}
theorem mv_Ex_go (hF : mv_Fo Fw) (hW : s.WarmedH U.vm) (hS : va_S A s.heap H locs) (hU : U.heap = H) (h : mv_Ex Fw own is text sa A s) : mv_Ex Fw own is text sa A U := by
  obtain ⟨x0, x1, x2, x3, x4, x5⟩ := h
  have hk : ∀ a : Nat, a < s.heap.size → ¬ A a → U.heap[a]? = s.heap[a]? := fun a ha hn => by rw [hU]; exact hS.2.1 a ha hn
  exact ⟨mv_Fo_warm hF hW x0, vk_R.warm hW x1, (x2.moved hW.alike).kept hk, (x3.moved hW.alike).kept hk, (x4.moved hW.alike).kept hk, (x5.moved hW.alike).kept hk⟩
theorem mv_PreT_blind (hN : ∀ w ∈ Nw, (∃ a i b n d h, w = Jvm.Cond.fieldLinkNest a i b n d h) ∨ ∃ a i x h, w = Jvm.Cond.methodLinkNest a i x h) (hF : mv_Fo Fw) (as : List Value) : FrameBlind (mv_PreT A D cl kd cA ad Nw sta stn as S Fw own is text sa) := by
  intro a U g mk h
  obtain ⟨h0, x0, x1, x2, x3, x4, x5⟩ := h
  refine ⟨mv_Pre_blind hN as a U g mk h0, fun w hw => va_Nw.same (u := U) (U := U.calling g mk a) (mv_Fo_tab hF hw) rfl (x0 w hw), vk_R.same (u := U) (U := U.calling g mk a) rfl x1, ?_, ?_, ?_, ?_⟩
  · exact va_Zq.moved (u := U) (U := U.calling g mk a) (Vm.Alike.refl U.vm) x2
  · exact va_Zq.moved (u := U) (U := U.calling g mk a) (Vm.Alike.refl U.vm) x3
  · exact mv_Ls.moved (u := U) (U := U.calling g mk a) (Vm.Alike.refl U.vm) x4
  · exact mv_Ls.moved (u := U) (U := U.calling g mk a) (Vm.Alike.refl U.vm) x5
end KL
def kl_Pst (A : Nat → Prop) (D : va_G) (cA : Nat → ClassId) (ad : Nat → Nat) (Qt : mv_S → Prop) : Array Value → State → Outcome → State → Prop :=
  fun _ st oc t => ∃ S' : mv_S, Qt S' ∧ oc = .returned (some (.int 1)) ∧ va_P D kjCl (mv_ws kjKd cA ad S') t.heap ∧ va_D A (mv_ws kjKd cA ad S') ∧ va_F A st t ∧ t.heap.size = st.heap.size + 1
abbrev kl_nl : MethodName := ⟨"KindJudgeLaw", "load", "(LKindJudge;[J)I"⟩
abbrev kl_nk : MethodName := ⟨"KindJudgeLaw", "look", "(LKindJudge;III[J)I"⟩
abbrev kl_cl : Jvm.Cond := .codeWith kl_nl method_3_code 3 (some .int) [(0, 8, 11, 13)]
abbrev kl_ck : Jvm.Cond := .codeWith kl_nk method_4_code 6 (some .int) [(0, 12, 15, 19)]
def kl_W : List Jvm.Cond := [.methodLink "KindJudgeLaw" 7 kjM_2.1, .instanceMethod kjM_2.1, .selects "KindJudge" kjM_2.1 kjM_2.1, .classLink "KindJudgeLaw" 13 kt_I, .methodLink "KindJudgeLaw" 15 kjM_5.1, .instanceMethod kjM_5.1, .selects "KindJudge" kjM_5.1 kjM_5.1, .classLink "KindJudgeLaw" 19 kt_E, .initialized "KindJudge", .initialized "KindJudgeLaw", .methodLink "KindJudgeLaw" 32 kl_nl, .methodLink "KindJudgeLaw" 50 kl_nk, .static kl_nl, .static kl_nk, kl_cl, kl_ck]
set_option maxRecDepth 100000 in
set_option maxHeartbeats 4000000 in
theorem kl_Wok : kl_W.all (mv_has lw_tbl) = true := by decide +kernel
theorem kl_in (k : Nat) {w : Jvm.Cond} (h : kl_W[k]? = some w) : w ∈ kjTs := kt_all kl_Wok w (List.mem_of_getElem? h)
theorem kl_len {y : MethodName} {n : Nat} (h : (parseMethodDescriptor y.desc).map (fun d => d.parameters.length) = some n) : ∀ sig, parseMethodDescriptor y.desc = some sig → n = sig.parameters.length := by
  intro sig hs
  rw [hs] at h
  exact (Option.some.inj h).symm
theorem kl_one {l : List ExceptionTableEntry} {a b c d : Nat} (h : l.map (fun h => (h.startPc, h.endPc, h.handlerPc, h.catchType)) = [(a, b, c, d)]) : ∃ x, l = [x] ∧ x.startPc = a ∧ x.endPc = b ∧ x.handlerPc = c ∧ x.catchType = d := by
  match l, h with
  | [x], h =>
    simp only [List.map_cons, List.map_nil, List.cons.injEq, Prod.mk.injEq, and_true] at h
    exact ⟨x, rfl, h.1, h.2.1, h.2.2.1, h.2.2.2⟩
set_option maxRecDepth 100000 in
set_option maxHeartbeats 4000000 in
theorem kl_load (l : Launch) (hfl : l.flags.contains noTraceFlag = true) (A : Nat → Prop) (D : va_G) (cA : Nat → ClassId) (ad : Nat → Nat) {I' : kjI} (h1 : kf13 false kcZ kcZL = some (I', kcZL)) (h2 : I' 0 3 = 1) (text : String) (sa : Nat) :
    Met l kl_nl (kl_cl :: kjTs) { frames := 8, cells := 1, slots := 6, locals := 210 } (mv_PreT A D kjCl kjKd cA ad kjNw kjSta kjStn [.ref 0, .ref 81] (kjS false kcZ kcZL) kt_F "KindJudge" 41 text sa) (kl_Pst A D cA ad (fun S' => S' = kjS false (mv_up I' 31 1 0) kcZL)) 1 6 A := by
  refine MetFree.of_bodyS (code := method_3_code) (maxLocals := 3) (ret := some .int) (by decide) ?_ ?_
  · intro args s m h hn
    obtain ⟨m', meth, c, hn', g1, g2, g3, g4, -, g5, g6, -⟩ := Cond.codeWith_spec (atoms_spec (ws := kl_cl :: kjTs) h _ List.mem_cons_self)
    cases hn.symm.trans hn'
    exact ⟨meth, c, g1, g2, g3, g4, g5, g6⟩
  · intro p e s m args below meth c s₁ B hml hv _
    have hv0 := hv
    obtain ⟨⟨rfl, v1, v2, v3, v4, v5, v6, v7⟩, hex⟩ := hv
    have hts : ∀ w ∈ kl_cl :: kjTs, w.before _ s = true := atoms_spec (ws := kl_cl :: kjTs) B.pre
    have htk : ∀ w ∈ kjTs, w.before _ s = true := fun w hw => hts w (List.mem_cons_of_mem _ hw)
    have hown : s.vm.findClass "KindJudgeLaw" = some m.cls := findClass_of_methodNamed B.named
    obtain ⟨m', meth', c', hn', g1, g2, -, -, g5, -⟩ := Cond.codeWith_spec (hts _ List.mem_cons_self)
    cases hn'.symm.trans B.named
    cases g1.symm.trans B.method
    have hcc : c' = c := by
      have h3 := B.here.code
      rw [State.code?_eq] at h3
      have h4 : s₁.vm.method? m = some meth := by rw [B.state]; exact B.method
      rw [h4] at h3
      exact Option.some.inj (g2.symm.trans h3)
    subst hcc
    obtain ⟨x, hx1, hx2, hx3, hx4, hx5⟩ := kl_one g5
    have hh0 : s₁.heap = s.heap := by rw [B.state]; rfl
    have K : W p l e { frames := 8, cells := 1, slots := 6, locals := 210 } s m ([Value.ref 0, .ref 81].map (mv_tr ad)).toArray below meth c' s.heap [] 0 0 (MQ below (kl_Pst A D cA ad (fun S' => S' = kjS false (mv_up I' 31 1 0) kcZL)) ([Value.ref 0, .ref 81].map (mv_tr ad)).toArray s 1 6 A) (entryFrame m ([Value.ref 0, .ref 81].map (mv_tr ad)).toArray 3) := by
      have hl := lv_entry ([Value.ref 0, .ref 81].map (mv_tr ad)) (n := 3) (Nat.le_of_ble_eq_true rfl)
      rw [lg_entry_eq]
      generalize (lg_sl ([Value.ref 0, .ref 81].map (mv_tr ad)) ++ List.replicate (3 - (lg_sl ([Value.ref 0, .ref 81].map (mv_tr ad))).length) Slot.unset).toArray = ls at hl ⊢
      have hl : lv_has ls 3 [(0, .ref (ad 0)), (1, .ref (ad 81))] := hl
      refine lv_aload_n B.exec B.bytes (k := 1) (i := 1) (x := ad 81) (by decide +kernel) rfl (hl.2.2 _ (List.Mem.tail _ (List.Mem.head _))) ?_
      refine lv_iconst B.exec B.bytes (n := 0) (v := 0) (by decide +kernel) rfl ?_
      refine lv_aload_n B.exec B.bytes (k := 0) (i := 0) (x := ad 0) (by decide +kernel) rfl (hl.2.2 _ (List.Mem.head _)) ?_
      refine mv_callT (x := x) (pc := 3) (cells := 0) (slots := 0) (locs := []) (R := { frames := 8, cells := 1, slots := 6, locals := 210 }) (own := "KindJudgeLaw") (index := 7) (bytes := mv_cc kjM_2) (maxL := 2) (ret := some .int) (As := []) (rest := [.int 0, .ref (ad 81)]) (b := ad 0) B.exec B.bytes (hml.trans hl.1.symm) (kt_load_met l A D cA ad hfl h1 h2 text sa) (mv_PreT_blind mv_nest_all kt_Fo _) ⟨rfl, rfl⟩ (Nat.le_of_ble_eq_true rfl) (Nat.le_of_ble_eq_true rfl) (Nat.le_of_ble_eq_true rfl) (Nat.le_of_ble_eq_true rfl)
        (fun w hw a' U hW => ?_) List.mem_cons_self hown (htk _ (kl_in 0 rfl)) (htk _ (kl_in 1 rfl)) (htk _ (kl_in 2 rfl)) (htk _ (kjSy.2.2.2.1 2 kjM_2 rfl).2.2.1) (fun a' U hW => word_at hW (kjSy.2.1 _ (kl_in 8 rfl)) (htk _ (kl_in 8 rfl))) ⟨by decide, by decide⟩ ?_ (fun U hU hW => ?_) (kl_len (n := 0) (by decide +kernel)) (Nat.le_of_ble_eq_true rfl) (by decide +kernel) hx1 ?_ (by rw [hx5]; decide) (by rw [hx5]; exact htk _ (kl_in 3 rfl)) ?_
      · rcases List.mem_cons.mp hw with rfl | hw
        · exact word_at hW (kjSy.2.1 _ (kjSy.2.2.2.1 2 kjM_2 rfl).2.2.1) (htk _ (kjSy.2.2.2.1 2 kjM_2 rfl).2.2.1)
        · exact word_at hW (kjSy.2.1 _ hw) (htk _ hw)
      · exact va_recv (q0 := 0) (ci := 0) v2 v5 rfl (mv_ws_get (k := 0) (sh := .inr 0) rfl)
      · refine ⟨⟨rfl, mv_Nw_warm mv_nest_all hW v1, va_K.moved hW.alike v2, mv_Sts_go hW.alike va_S.rf hU v3, fun q hq => v4 q (by rw [← hU]; exact hq), by rw [hU]; exact v5, v6, by rw [hU]; exact v7⟩, mv_Ex_go kt_Fo hW va_S.rf hU hex⟩
      · simp [covers, hx2, hx3]
      · intro S' ax t L q1 q2 q3 q4 q5 q6 q7
        rw [hx4]
        refine lv_astore_n B.exec B.bytes (k := 2) (i := 2) (by decide +kernel) rfl hl (by decide) rfl (fun ls' hl' => ?_)
        refine lv_iconst B.exec B.bytes (n := 1) (v := 1) (by decide +kernel) rfl ?_
        refine W.iret B.exec B.bytes B.returns (fun t' ht' _ => ?_) (fun q hq => q7 q (by simpa using hq)) (by decide +kernel) B.notSynchronized
        exact ⟨S', q1, rfl, by rw [ht']; exact q2, q3, ⟨by rw [ht']; exact q4, fun q a b => by rw [ht']; exact q5 q a b⟩, by rw [ht']; exact q6⟩
    obtain ⟨t, a1, o, b1, b2, b3⟩ := K s₁ hh0 (Stand.of_body B)
    exact ⟨t, o, a1, b1, b2, ⟨b3.1, b3.2⟩⟩
end
section
/-! The law's own look. -/
set_option maxRecDepth 100000 in
set_option maxHeartbeats 4000000 in
theorem kl_look (l : Launch) (hfl : l.flags.contains noTraceFlag = true) (A : Nat → Prop) (D : va_G) (cA : Nat → ClassId) (ad : Nat → Nat) (w1 w2 w3 : Int32) (text : String) (sa : Nat) :
    Met l kl_nk (kl_ck :: kjTs) { frames := 8, cells := 1, slots := 6, locals := 210 } (mv_PreT A D kjCl kjKd cA ad kjNw kjSta kjStn [.ref 0, .int w1, .int w2, .int w3, .ref 81] (kjS false kcZ kcZL) kt_F "KindJudge" 100 text sa) (kl_Pst A D cA ad (fun S' => S' = kjS false kcZ kcZL)) 1 6 A := by
  refine MetFree.of_bodyS (code := method_4_code) (maxLocals := 6) (ret := some .int) (by decide) ?_ ?_
  · intro args s m h hn
    obtain ⟨m', meth, c, hn', g1, g2, g3, g4, -, g5, g6, -⟩ := Cond.codeWith_spec (atoms_spec (ws := kl_ck :: kjTs) h _ List.mem_cons_self)
    cases hn.symm.trans hn'
    exact ⟨meth, c, g1, g2, g3, g4, g5, g6⟩
  · intro p e s m args below meth c s₁ B hml hv _
    have hv0 := hv
    obtain ⟨⟨rfl, v1, v2, v3, v4, v5, v6, v7⟩, hex⟩ := hv
    have hts : ∀ w ∈ kl_ck :: kjTs, w.before _ s = true := atoms_spec (ws := kl_ck :: kjTs) B.pre
    have htk : ∀ w ∈ kjTs, w.before _ s = true := fun w hw => hts w (List.mem_cons_of_mem _ hw)
    have hown : s.vm.findClass "KindJudgeLaw" = some m.cls := findClass_of_methodNamed B.named
    obtain ⟨m', meth', c', hn', g1, g2, -, -, g5, -⟩ := Cond.codeWith_spec (hts _ List.mem_cons_self)
    cases hn'.symm.trans B.named
    cases g1.symm.trans B.method
    have hcc : c' = c := by
      have h3 := B.here.code
      rw [State.code?_eq] at h3
      have h4 : s₁.vm.method? m = some meth := by rw [B.state]; exact B.method
      rw [h4] at h3
      exact Option.some.inj (g2.symm.trans h3)
    subst hcc
    obtain ⟨x, hx1, hx2, hx3, hx4, hx5⟩ := kl_one g5
    have hh0 : s₁.heap = s.heap := by rw [B.state]; rfl
    have K : W p l e { frames := 8, cells := 1, slots := 6, locals := 210 } s m ([Value.ref 0, .int w1, .int w2, .int w3, .ref 81].map (mv_tr ad)).toArray below meth c' s.heap [] 0 0 (MQ below (kl_Pst A D cA ad (fun S' => S' = kjS false kcZ kcZL)) ([Value.ref 0, .int w1, .int w2, .int w3, .ref 81].map (mv_tr ad)).toArray s 1 6 A) (entryFrame m ([Value.ref 0, .int w1, .int w2, .int w3, .ref 81].map (mv_tr ad)).toArray 6) := by
      have hl := lv_entry ([Value.ref 0, .int w1, .int w2, .int w3, .ref 81].map (mv_tr ad)) (n := 6) (Nat.le_of_ble_eq_true rfl)
      rw [lg_entry_eq]
      generalize (lg_sl ([Value.ref 0, .int w1, .int w2, .int w3, .ref 81].map (mv_tr ad)) ++ List.replicate (6 - (lg_sl ([Value.ref 0, .int w1, .int w2, .int w3, .ref 81].map (mv_tr ad))).length) Slot.unset).toArray = ls at hl ⊢
      have hl : lv_has ls 6 [(0, .ref (ad 0)), (1, .int w1), (2, .int w2), (3, .int w3), (4, .ref (ad 81))] := hl
      refine lv_aload B.exec B.bytes (i := 4) (x := ad 81) (by decide +kernel) (lv_at hl 4 rfl) ?_
      refine lv_iconst B.exec B.bytes (n := 0) (v := 0) (by decide +kernel) rfl ?_
      refine lv_aload_n B.exec B.bytes (k := 0) (i := 0) (x := ad 0) (by decide +kernel) rfl (lv_at hl 0 rfl) ?_
      refine lv_iload_n B.exec B.bytes (k := 1) (i := 1) (x := w1) (by decide +kernel) rfl (lv_at hl 1 rfl) ?_
      refine lv_iload_n B.exec B.bytes (k := 2) (i := 2) (x := w2) (by decide +kernel) rfl (lv_at hl 2 rfl) ?_
      refine lv_iload_n B.exec B.bytes (k := 3) (i := 3) (x := w3) (by decide +kernel) rfl (lv_at hl 3 rfl) ?_
      refine mv_callT (x := x) (pc := 7) (cells := 0) (slots := 0) (locs := []) (R := { frames := 8, cells := 1, slots := 6, locals := 210 }) (own := "KindJudgeLaw") (index := 15) (bytes := mv_cc kjM_5) (maxL := 7) (ret := some .int) (As := [.int w1, .int w2, .int w3]) (rest := [.int 0, .ref (ad 81)]) (b := ad 0) B.exec B.bytes (hml.trans hl.1.symm) (kt_look_met l A D cA ad hfl w1 w2 w3 text sa) (mv_PreT_blind mv_nest_all kt_Fo _) ⟨rfl, rfl⟩ (Nat.le_of_ble_eq_true rfl) (Nat.le_of_ble_eq_true rfl) (Nat.le_of_ble_eq_true rfl) (Nat.le_of_ble_eq_true rfl)
        (fun w hw a' U hW => ?_) List.mem_cons_self hown (htk _ (kl_in 4 rfl)) (htk _ (kl_in 5 rfl)) (htk _ (kl_in 6 rfl)) (htk _ (kjSy.2.2.2.1 5 kjM_5 rfl).2.2.1) (fun a' U hW => word_at hW (kjSy.2.1 _ (kl_in 8 rfl)) (htk _ (kl_in 8 rfl))) ⟨by decide, by decide⟩ ?_ (fun U hU hW => ?_) (kl_len (n := 3) (by decide +kernel)) (Nat.le_of_ble_eq_true rfl) (by decide +kernel) hx1 ?_ (by rw [hx5]; decide) (by rw [hx5]; exact htk _ (kl_in 7 rfl)) ?_
      · rcases List.mem_cons.mp hw with rfl | hw
        · exact word_at hW (kjSy.2.1 _ (kjSy.2.2.2.1 5 kjM_5 rfl).2.2.1) (htk _ (kjSy.2.2.2.1 5 kjM_5 rfl).2.2.1)
        · exact word_at hW (kjSy.2.1 _ hw) (htk _ hw)
      · exact va_recv (q0 := 0) (ci := 0) v2 v5 rfl (mv_ws_get (k := 0) (sh := .inr 0) rfl)
      · refine ⟨⟨rfl, mv_Nw_warm mv_nest_all hW v1, va_K.moved hW.alike v2, mv_Sts_go hW.alike va_S.rf hU v3, fun q hq => v4 q (by rw [← hU]; exact hq), by rw [hU]; exact v5, v6, by rw [hU]; exact v7⟩, mv_Ex_go kt_Fo hW va_S.rf hU hex⟩
      · simp [covers, hx2, hx3]
      · intro S' ax t L q1 q2 q3 q4 q5 q6 q7
        rw [hx4]
        refine lv_astore B.exec B.bytes (i := 5) (by decide +kernel) hl (by decide) rfl (fun ls' hl' => ?_)
        refine lv_iconst B.exec B.bytes (n := 1) (v := 1) (by decide +kernel) rfl ?_
        refine W.iret B.exec B.bytes B.returns (fun t' ht' _ => ?_) (fun q hq => q7 q (by simpa using hq)) (by decide +kernel) B.notSynchronized
        exact ⟨S', q1, rfl, by rw [ht']; exact q2, q3, ⟨by rw [ht']; exact q4, fun q a b => by rw [ht']; exact q5 q a b⟩, by rw [ht']; exact q6⟩
    obtain ⟨t, a1, o, b1, b2, b3⟩ := K s₁ hh0 (Stand.of_body B)
    exact ⟨t, o, a1, b1, b2, ⟨b3.1, b3.2⟩⟩
end
section
/-! THE CLAIM OUT OF ONE WALK OF THE LAW'S BODY. Your part is whole_start (and what it stands on); all else here is the same for every law, but numbers. -/
def R_law : String := "KindJudgeLaw"
def lw_P (b : Addr) (xs : List Int32) (args : Array Value) (s : State) : Prop := args = #[.ref b] ∧ s.IntsAt b xs ∧ xs.length ≤ 4 ∧ (Jvm.Cond.and given_1 narrow_1).before args s = true
def lw_Q (_ : Array Value) (s : State) (o : Outcome) (t : State) : Prop := o = .returned (some (.int 1)) ∧ Framed s o t [] 86 54544
def lw_Z (below : List Frame) (a : Array Value) (s : State) : State → Prop := fun t => ∃ o, t.status = .running ∧ Ended t below o ∧ lw_Q a s o t
/-- the law's own end, with 1 on the stack, nothing written that was there before, its room as the claim has it -/
theorem lw_ret {p : Program} {l : Launch} {e : Env} {s : State} {m : MethodId} {below : List Frame} {meth : Method} {c : Code} {b : Nat} (hx : p.tables.exec = Jvm.exec) (hb : c.code = code) (hr : meth.sig.returnType = ret) (hlocks : meth.locks = false) {pc : Nat} {H : Heap} {ls : Array Slot} (hdg : decode code pc = .ok (.ireturn, 1)) : W p l e room_1 s m #[Value.ref b] below meth c H [] 86 54544 (lw_Z below #[Value.ref b] s) (F0 m pc ls [.int 1]) := by
  intro T hT X
  obtain ⟨fs, hret, hrun, hended, hW, hframe⟩ := X.leave (v := some (.int 1)) (hlocks := hlocks) (fun h => by rw [hr] at h; cases h)
  have hmeth' : T.vm.method? m = some meth := X.method'
  refine ⟨T.setFrames fs, ?_, .returned (some (.int 1)), hrun, hended, rfl, ⟨_, rfl⟩, hW, hframe⟩
  jvm_step X.here [X.here.top, hx, hb, hdg, hmeth', hr, ret, narrow_b1]
  (try refine ⟨rfl, ?_⟩); (try refine ⟨rfl, ?_⟩)
  first | (intro acts; rw [hret _ acts rfl rfl rfl]) | rw [hret _ _ rfl rfl rfl]
  exact Steps.refl _
/-- what holds at the law's entry: the machine, the code, the tables' words (any of lw_tbl by 'hts w (by decide +kernel)'), the script of L ints xs at the cell b, what the Statement gives of the start (any of its parts by flat_of_before) -/
def lw_At (p : Program) (s : State) (m : MethodId) (meth : Method) (c : Code) (b L : Nat) (xs : Nat → Int32) : Prop :=
  p.tables.exec = Jvm.exec ∧ c.code = code ∧ meth.sig.returnType = ret ∧ c.maxLocals = 7 ∧ s.vm.findClass R_law = some m.cls ∧ (∀ w ∈ lw_tbl, w.before #[Value.ref b] s = true) ∧ va_X b L xs s s.heap ∧ b < s.heap.size ∧ meth.locks = false ∧ (Jvm.Cond.and given_1 narrow_1).before #[Value.ref b] s = true ∧ meth.name = x.name
end
section
/-! The law's own rows (all but those that read the script, call its load and look, or answer). -/
def kjTL : List mv_E := [(0, .new 8, 3, 0, 6, 0, 0), (3, .dup, 1, 0, 0, 0, 0), (4, .invokespecial 21, 3, 0, 1, 2, 0), (7, .astore_n 1, 1, 0, 0, 0, 0), (8, .new 22, 3, 9, 37, 0, 0), (11, .dup, 1, 0, 0, 0, 0), (12, .invokespecial 24, 3, 100, 1, 2, 0), (15, .astore_n 2, 1, 0, 0, 0, 0), (16, .iconst 1, 1, 0, 0, 0, 0), (17, .newarray .long, 2, 0, 0, 3, 0), (19, .astore_n 3, 1, 0, 0, 0, 0), (20, .iconst 0, 1, 0, 0, 0, 0), (21, .istore 4, 2, 0, 0, 0, 0), (23, .iload 4, 2, 0, 0, 0, 0), (25, .aload_n 0, 1, 0, 0, 0, 0), (27, .iconst 4, 1, 0, 0, 0, 0), (28, .isub, 1, 0, 0, 0, 0), (29, .if_icmp .gt 591, 3, 0, 0, 0, 0), (32, .aload_n 0, 1, 0, 0, 0, 0), (33, .iload 4, 2, 0, 0, 0, 0), (36, .bipush 15, 2, 0, 0, 0, 0), (38, .iand, 1, 0, 0, 0, 0), (39, .tableswitch 575 0 11 #[61, 130, 174, 199, 248, 328, 365, 402, 439, 476, 513, 550], 61, 0, 0, 0, 0), (100, .aload_n 1, 1, 0, 0, 0, 0), (101, .aload_n 0, 1, 0, 0, 0, 0), (102, .iload 4, 2, 0, 0, 0, 0), (104, .iconst 1, 1, 0, 0, 0, 0), (105, .iadd, 1, 0, 0, 0, 0), (107, .i2l, 1, 0, 0, 0, 0), (108, .bipush 32, 2, 0, 0, 0, 0), (110, .lshl, 1, 0, 0, 0, 0), (111, .aload_n 0, 1, 0, 0, 0, 0), (112, .iload 4, 2, 0, 0, 0, 0), (114, .iconst 2, 1, 0, 0, 0, 0), (115, .iadd, 1, 0, 0, 0, 0), (117, .i2l, 1, 0, 0, 0, 0), (118, .ldc2_w 25, 3, 4294967295, 0, 0, 0), (121, .land, 1, 0, 0, 0, 0), (122, .lor, 1, 0, 0, 0, 0), (123, .aload_n 0, 1, 0, 0, 0, 0), (124, .iload 4, 2, 0, 0, 0, 0), (126, .iconst 3, 1, 0, 0, 0, 0), (127, .iadd, 1, 0, 0, 0, 0), (129, .invokevirtual 27, 3, 1, 3, 0, 0), (132, .aload_n 2, 1, 0, 0, 0, 0), (133, .aload_n 0, 1, 0, 0, 0, 0), (134, .iload 4, 2, 0, 0, 0, 0), (136, .iconst 1, 1, 0, 0, 0, 0), (137, .iadd, 1, 0, 0, 0, 0), (139, .i2l, 1, 0, 0, 0, 0), (140, .bipush 32, 2, 0, 0, 0, 0), (142, .lshl, 1, 0, 0, 0, 0), (143, .aload_n 0, 1, 0, 0, 0, 0), (144, .iload 4, 2, 0, 0, 0, 0), (146, .iconst 2, 1, 0, 0, 0, 0), (147, .iadd, 1, 0, 0, 0, 0), (149, .i2l, 1, 0, 0, 0, 0), (150, .ldc2_w 25, 3, 4294967295, 0, 0, 0), (153, .land, 1, 0, 0, 0, 0), (154, .lor, 1, 0, 0, 0, 0), (155, .aload_n 0, 1, 0, 0, 0, 0), (156, .iload 4, 2, 0, 0, 0, 0), (158, .iconst 3, 1, 0, 0, 0, 0), (159, .iadd, 1, 0, 0, 0, 0), (161, .invokevirtual 31, 3, 104, 3, 0, 9), (164, .if_icmp .eq 450, 3, 0, 0, 0, 0), (169, .aload_n 1, 1, 0, 0, 0, 0), (170, .aload_n 3, 1, 0, 0, 0, 0), (174, .istore 5, 2, 0, 0, 0, 0), (176, .aload_n 2, 1, 0, 0, 0, 0), (177, .invokevirtual 37, 3, 123, 1, 0, 9), (180, .istore 6, 2, 0, 0, 0, 0), (182, .aload_n 2, 1, 0, 0, 0, 0), (183, .invokevirtual 38, 3, 101, 1, 0, 9), (186, .iload 5, 2, 0, 0, 0, 0), (188, .if_icmp .eq 5, 3, 0, 0, 0, 0), (193, .iload 5, 2, 0, 0, 0, 0), (195, .ifCond .ne 15, 3, 0, 0, 0, 0), (210, .goto 404, 3, 0, 0, 0, 0), (213, .aload_n 1, 1, 0, 0, 0, 0), (214, .aload_n 0, 1, 0, 0, 0, 0), (215, .iload 4, 2, 0, 0, 0, 0), (217, .iconst 1, 1, 0, 0, 0, 0), (218, .iadd, 1, 0, 0, 0, 0), (220, .invokevirtual 41, 3, 3, 2, 0, 0), (223, .aload_n 2, 1, 0, 0, 0, 0), (224, .aload_n 0, 1, 0, 0, 0, 0), (225, .iload 4, 2, 0, 0, 0, 0), (227, .iconst 1, 1, 0, 0, 0, 0), (228, .iadd, 1, 0, 0, 0, 0), (230, .invokevirtual 45, 3, 125, 2, 0, 9), (233, .if_icmp .eq 381, 3, 0, 0, 0, 0), (238, .aload_n 1, 1, 0, 0, 0, 0), (239, .aload_n 0, 1, 0, 0, 0, 0), (240, .iload 4, 2, 0, 0, 0, 0), (242, .iconst 1, 1, 0, 0, 0, 0), (243, .iadd, 1, 0, 0, 0, 0), (245, .aload_n 0, 1, 0, 0, 0, 0), (246, .iload 4, 2, 0, 0, 0, 0), (248, .iconst 2, 1, 0, 0, 0, 0), (249, .iadd, 1, 0, 0, 0, 0), (251, .aload_n 0, 1, 0, 0, 0, 0), (252, .iload 4, 2, 0, 0, 0, 0), (254, .iconst 3, 1, 0, 0, 0, 0), (255, .iadd, 1, 0, 0, 0, 0), (257, .invokevirtual 46, 3, 4, 4, 0, 0), (260, .aload_n 2, 1, 0, 0, 0, 0), (261, .aload_n 0, 1, 0, 0, 0, 0), (262, .iload 4, 2, 0, 0, 0, 0), (264, .iconst 1, 1, 0, 0, 0, 0), (265, .iadd, 1, 0, 0, 0, 0), (267, .aload_n 0, 1, 0, 0, 0, 0), (268, .iload 4, 2, 0, 0, 0, 0), (270, .iconst 2, 1, 0, 0, 0, 0), (271, .iadd, 1, 0, 0, 0, 0), (273, .aload_n 0, 1, 0, 0, 0, 0), (274, .iload 4, 2, 0, 0, 0, 0), (276, .iconst 3, 1, 0, 0, 0, 0), (277, .iadd, 1, 0, 0, 0, 0), (279, .invokevirtual 49, 3, 139, 4, 0, 9), (282, .if_icmp .eq 332, 3, 0, 0, 0, 0), (287, .aload_n 1, 1, 0, 0, 0, 0), (288, .aload_n 0, 1, 0, 0, 0, 0), (289, .iload 4, 2, 0, 0, 0, 0), (291, .iconst 1, 1, 0, 0, 0, 0), (292, .iadd, 1, 0, 0, 0, 0), (294, .aload_n 0, 1, 0, 0, 0, 0), (295, .iload 4, 2, 0, 0, 0, 0), (297, .iconst 2, 1, 0, 0, 0, 0), (298, .iadd, 1, 0, 0, 0, 0), (300, .aload_n 0, 1, 0, 0, 0, 0), (301, .iload 4, 2, 0, 0, 0, 0), (303, .iconst 3, 1, 0, 0, 0, 0), (304, .iadd, 1, 0, 0, 0, 0), (306, .aload_n 3, 1, 0, 0, 0, 0), (310, .istore 5, 2, 0, 0, 0, 0), (312, .aload_n 2, 1, 0, 0, 0, 0), (313, .aload_n 0, 1, 0, 0, 0, 0), (314, .iload 4, 2, 0, 0, 0, 0), (316, .iconst 1, 1, 0, 0, 0, 0), (317, .iadd, 1, 0, 0, 0, 0), (319, .aload_n 0, 1, 0, 0, 0, 0), (320, .iload 4, 2, 0, 0, 0, 0), (322, .iconst 2, 1, 0, 0, 0, 0), (323, .iadd, 1, 0, 0, 0, 0), (325, .aload_n 0, 1, 0, 0, 0, 0), (326, .iload 4, 2, 0, 0, 0, 0), (328, .iconst 3, 1, 0, 0, 0, 0), (329, .iadd, 1, 0, 0, 0, 0), (331, .invokevirtual 53, 3, 144, 4, 0, 9), (334, .istore 6, 2, 0, 0, 0, 0), (336, .aload_n 2, 1, 0, 0, 0, 0), (337, .invokevirtual 38, 3, 101, 1, 0, 9), (340, .iload 5, 2, 0, 0, 0, 0), (342, .if_icmp .eq 5, 3, 0, 0, 0, 0), (347, .iload 5, 2, 0, 0, 0, 0), (349, .ifCond .ne 15, 3, 0, 0, 0, 0), (364, .goto 250, 3, 0, 0, 0, 0), (367, .aload_n 1, 1, 0, 0, 0, 0), (368, .aload_n 0, 1, 0, 0, 0, 0), (369, .iload 4, 2, 0, 0, 0, 0), (371, .iconst 1, 1, 0, 0, 0, 0), (372, .iadd, 1, 0, 0, 0, 0), (374, .aload_n 0, 1, 0, 0, 0, 0), (375, .iload 4, 2, 0, 0, 0, 0), (377, .iconst 2, 1, 0, 0, 0, 0), (378, .iadd, 1, 0, 0, 0, 0), (380, .invokevirtual 54, 3, 6, 3, 0, 0), (383, .aload_n 2, 1, 0, 0, 0, 0), (384, .aload_n 0, 1, 0, 0, 0, 0), (385, .iload 4, 2, 0, 0, 0, 0), (387, .iconst 1, 1, 0, 0, 0, 0), (388, .iadd, 1, 0, 0, 0, 0), (390, .aload_n 0, 1, 0, 0, 0, 0), (391, .iload 4, 2, 0, 0, 0, 0), (393, .iconst 2, 1, 0, 0, 0, 0), (394, .iadd, 1, 0, 0, 0, 0), (396, .invokevirtual 58, 3, 146, 3, 0, 9), (399, .if_icmp .eq 215, 3, 0, 0, 0, 0), (404, .aload_n 1, 1, 0, 0, 0, 0), (405, .aload_n 0, 1, 0, 0, 0, 0), (406, .iload 4, 2, 0, 0, 0, 0), (408, .iconst 1, 1, 0, 0, 0, 0), (409, .iadd, 1, 0, 0, 0, 0), (411, .aload_n 0, 1, 0, 0, 0, 0), (412, .iload 4, 2, 0, 0, 0, 0), (414, .iconst 2, 1, 0, 0, 0, 0), (415, .iadd, 1, 0, 0, 0, 0), (417, .invokevirtual 59, 3, 7, 3, 0, 0), (420, .aload_n 2, 1, 0, 0, 0, 0), (421, .aload_n 0, 1, 0, 0, 0, 0), (422, .iload 4, 2, 0, 0, 0, 0), (424, .iconst 1, 1, 0, 0, 0, 0), (425, .iadd, 1, 0, 0, 0, 0), (427, .aload_n 0, 1, 0, 0, 0, 0), (428, .iload 4, 2, 0, 0, 0, 0), (430, .iconst 2, 1, 0, 0, 0, 0), (431, .iadd, 1, 0, 0, 0, 0), (433, .invokevirtual 62, 3, 147, 3, 0, 9), (436, .if_icmp .eq 178, 3, 0, 0, 0, 0), (441, .aload_n 1, 1, 0, 0, 0, 0), (442, .aload_n 0, 1, 0, 0, 0, 0), (443, .iload 4, 2, 0, 0, 0, 0), (445, .iconst 1, 1, 0, 0, 0, 0), (446, .iadd, 1, 0, 0, 0, 0), (448, .aload_n 0, 1, 0, 0, 0, 0), (449, .iload 4, 2, 0, 0, 0, 0), (451, .iconst 2, 1, 0, 0, 0, 0), (452, .iadd, 1, 0, 0, 0, 0), (454, .invokevirtual 63, 3, 8, 3, 0, 0), (457, .aload_n 2, 1, 0, 0, 0, 0), (458, .aload_n 0, 1, 0, 0, 0, 0), (459, .iload 4, 2, 0, 0, 0, 0), (461, .iconst 1, 1, 0, 0, 0, 0), (462, .iadd, 1, 0, 0, 0, 0), (464, .aload_n 0, 1, 0, 0, 0, 0), (465, .iload 4, 2, 0, 0, 0, 0), (467, .iconst 2, 1, 0, 0, 0, 0), (468, .iadd, 1, 0, 0, 0, 0), (470, .invokevirtual 66, 3, 149, 3, 0, 9), (473, .if_icmp .eq 141, 3, 0, 0, 0, 0), (478, .aload_n 1, 1, 0, 0, 0, 0), (479, .aload_n 0, 1, 0, 0, 0, 0), (480, .iload 4, 2, 0, 0, 0, 0), (482, .iconst 1, 1, 0, 0, 0, 0), (483, .iadd, 1, 0, 0, 0, 0), (485, .aload_n 0, 1, 0, 0, 0, 0), (486, .iload 4, 2, 0, 0, 0, 0), (488, .iconst 2, 1, 0, 0, 0, 0), (489, .iadd, 1, 0, 0, 0, 0), (491, .invokevirtual 67, 3, 9, 3, 0, 0), (494, .aload_n 2, 1, 0, 0, 0, 0), (495, .aload_n 0, 1, 0, 0, 0, 0), (496, .iload 4, 2, 0, 0, 0, 0), (498, .iconst 1, 1, 0, 0, 0, 0), (499, .iadd, 1, 0, 0, 0, 0), (501, .aload_n 0, 1, 0, 0, 0, 0), (502, .iload 4, 2, 0, 0, 0, 0), (504, .iconst 2, 1, 0, 0, 0, 0), (505, .iadd, 1, 0, 0, 0, 0), (507, .invokevirtual 70, 3, 150, 3, 0, 9), (510, .if_icmp .eq 104, 3, 0, 0, 0, 0), (515, .aload_n 1, 1, 0, 0, 0, 0), (516, .aload_n 0, 1, 0, 0, 0, 0), (517, .iload 4, 2, 0, 0, 0, 0), (519, .iconst 1, 1, 0, 0, 0, 0), (520, .iadd, 1, 0, 0, 0, 0), (522, .aload_n 0, 1, 0, 0, 0, 0), (523, .iload 4, 2, 0, 0, 0, 0), (525, .iconst 2, 1, 0, 0, 0, 0), (526, .iadd, 1, 0, 0, 0, 0), (528, .invokevirtual 71, 3, 10, 3, 0, 0), (531, .aload_n 2, 1, 0, 0, 0, 0), (532, .aload_n 0, 1, 0, 0, 0, 0), (533, .iload 4, 2, 0, 0, 0, 0), (535, .iconst 1, 1, 0, 0, 0, 0), (536, .iadd, 1, 0, 0, 0, 0), (538, .aload_n 0, 1, 0, 0, 0, 0), (539, .iload 4, 2, 0, 0, 0, 0), (541, .iconst 2, 1, 0, 0, 0, 0), (542, .iadd, 1, 0, 0, 0, 0), (544, .invokevirtual 74, 3, 151, 3, 0, 9), (547, .if_icmp .eq 67, 3, 0, 0, 0, 0), (552, .aload_n 1, 1, 0, 0, 0, 0), (553, .aload_n 0, 1, 0, 0, 0, 0), (554, .iload 4, 2, 0, 0, 0, 0), (556, .iconst 1, 1, 0, 0, 0, 0), (557, .iadd, 1, 0, 0, 0, 0), (559, .aload_n 0, 1, 0, 0, 0, 0), (560, .iload 4, 2, 0, 0, 0, 0), (562, .iconst 2, 1, 0, 0, 0, 0), (563, .iadd, 1, 0, 0, 0, 0), (565, .invokevirtual 75, 3, 11, 3, 0, 0), (568, .aload_n 2, 1, 0, 0, 0, 0), (569, .aload_n 0, 1, 0, 0, 0, 0), (570, .iload 4, 2, 0, 0, 0, 0), (572, .iconst 1, 1, 0, 0, 0, 0), (573, .iadd, 1, 0, 0, 0, 0), (575, .aload_n 0, 1, 0, 0, 0, 0), (576, .iload 4, 2, 0, 0, 0, 0), (578, .iconst 2, 1, 0, 0, 0, 0), (579, .iadd, 1, 0, 0, 0, 0), (581, .invokevirtual 78, 3, 152, 3, 0, 9), (584, .if_icmp .eq 30, 3, 0, 0, 0, 0), (589, .aload_n 1, 1, 0, 0, 0, 0), (590, .aload_n 0, 1, 0, 0, 0, 0), (591, .iload 4, 2, 0, 0, 0, 0), (593, .iconst 1, 1, 0, 0, 0, 0), (594, .iadd, 1, 0, 0, 0, 0), (596, .invokevirtual 79, 3, 12, 2, 0, 0), (599, .aload_n 2, 1, 0, 0, 0, 0), (600, .aload_n 0, 1, 0, 0, 0, 0), (601, .iload 4, 2, 0, 0, 0, 0), (603, .iconst 1, 1, 0, 0, 0, 0), (604, .iadd, 1, 0, 0, 0, 0), (606, .invokevirtual 82, 3, 153, 2, 0, 9), (609, .if_icmp .eq 5, 3, 0, 0, 0, 0), (614, .iinc 4 4, 3, 0, 0, 0, 0), (617, .goto (-594), 3, 0, 0, 0, 0), (620, .iconst 1, 1, 0, 0, 0, 0)]
def kjLaw : mv_Me := (x, code, 7, ret, "KindJudgeLaw", kjTL, 86, 54544, 11, 438)
def kjWL : List Jvm.Cond := [(Jvm.Cond.initialized "KindJudgeLaw"), (Jvm.Cond.classLink "KindJudgeLaw" (8 : Nat) "KindJudge"), (Jvm.Cond.instantiable "KindJudge" (6 : Nat)), (Jvm.Cond.initialized "KindJudge"), (Jvm.Cond.methodLink "KindJudgeLaw" (21 : Nat) ({ cls := "KindJudge", name := "<init>", desc := "()V" } : Jvm.MethodName)), (Jvm.Cond.instanceMethod ({ cls := "KindJudge", name := "<init>", desc := "()V" } : Jvm.MethodName)), (Jvm.Cond.classLink "KindJudgeLaw" (22 : Nat) "KindJudgeModel"), (Jvm.Cond.instantiable "KindJudgeModel" (37 : Nat)), (Jvm.Cond.initialized "KindJudgeModel"), (Jvm.Cond.methodLink "KindJudgeLaw" (24 : Nat) ({ cls := "KindJudgeModel", name := "<init>", desc := "()V" } : Jvm.MethodName)), (Jvm.Cond.instanceMethod ({ cls := "KindJudgeModel", name := "<init>", desc := "()V" } : Jvm.MethodName)), (Jvm.Cond.arrayClass Jvm.ClassFile.FieldType.long), (Jvm.Cond.constantLong "KindJudgeLaw" (25 : Nat) (4294967295 : Int64)), (Jvm.Cond.methodLink "KindJudgeLaw" (27 : Nat) ({ cls := "KindJudge", name := "put", desc := "(JI)Z" } : Jvm.MethodName)), (Jvm.Cond.instanceMethod ({ cls := "KindJudge", name := "put", desc := "(JI)Z" } : Jvm.MethodName)), (Jvm.Cond.selects "KindJudge" ({ cls := "KindJudge", name := "put", desc := "(JI)Z" } : Jvm.MethodName) ({ cls := "KindJudge", name := "put", desc := "(JI)Z" } : Jvm.MethodName)), (Jvm.Cond.methodLink "KindJudgeLaw" (31 : Nat) ({ cls := "KindJudgeModel", name := "put", desc := "(JI)Z" } : Jvm.MethodName)), (Jvm.Cond.instanceMethod ({ cls := "KindJudgeModel", name := "put", desc := "(JI)Z" } : Jvm.MethodName)), (Jvm.Cond.selects "KindJudgeModel" ({ cls := "KindJudgeModel", name := "put", desc := "(JI)Z" } : Jvm.MethodName) ({ cls := "KindJudgeModel", name := "put", desc := "(JI)Z" } : Jvm.MethodName)), (Jvm.Cond.methodLink "KindJudgeLaw" (37 : Nat) ({ cls := "KindJudgeModel", name := "load", desc := "()I" } : Jvm.MethodName)), (Jvm.Cond.instanceMethod ({ cls := "KindJudgeModel", name := "load", desc := "()I" } : Jvm.MethodName)), (Jvm.Cond.selects "KindJudgeModel" ({ cls := "KindJudgeModel", name := "load", desc := "()I" } : Jvm.MethodName) ({ cls := "KindJudgeModel", name := "load", desc := "()I" } : Jvm.MethodName)), (Jvm.Cond.methodLink "KindJudgeLaw" (38 : Nat) ({ cls := "KindJudgeModel", name := "thrown", desc := "()I" } : Jvm.MethodName)), (Jvm.Cond.instanceMethod ({ cls := "KindJudgeModel", name := "thrown", desc := "()I" } : Jvm.MethodName)), (Jvm.Cond.selects "KindJudgeModel" ({ cls := "KindJudgeModel", name := "thrown", desc := "()I" } : Jvm.MethodName) ({ cls := "KindJudgeModel", name := "thrown", desc := "()I" } : Jvm.MethodName)), (Jvm.Cond.methodLink "KindJudgeLaw" (41 : Nat) ({ cls := "KindJudge", name := "fault", desc := "(I)I" } : Jvm.MethodName)), (Jvm.Cond.instanceMethod ({ cls := "KindJudge", name := "fault", desc := "(I)I" } : Jvm.MethodName)), (Jvm.Cond.selects "KindJudge" ({ cls := "KindJudge", name := "fault", desc := "(I)I" } : Jvm.MethodName) ({ cls := "KindJudge", name := "fault", desc := "(I)I" } : Jvm.MethodName)), (Jvm.Cond.methodLink "KindJudgeLaw" (45 : Nat) ({ cls := "KindJudgeModel", name := "fault", desc := "(I)I" } : Jvm.MethodName)), (Jvm.Cond.instanceMethod ({ cls := "KindJudgeModel", name := "fault", desc := "(I)I" } : Jvm.MethodName)), (Jvm.Cond.selects "KindJudgeModel" ({ cls := "KindJudgeModel", name := "fault", desc := "(I)I" } : Jvm.MethodName) ({ cls := "KindJudgeModel", name := "fault", desc := "(I)I" } : Jvm.MethodName)), (Jvm.Cond.methodLink "KindJudgeLaw" (46 : Nat) ({ cls := "KindJudge", name := "kind", desc := "(III)I" } : Jvm.MethodName)), (Jvm.Cond.instanceMethod ({ cls := "KindJudge", name := "kind", desc := "(III)I" } : Jvm.MethodName)), (Jvm.Cond.selects "KindJudge" ({ cls := "KindJudge", name := "kind", desc := "(III)I" } : Jvm.MethodName) ({ cls := "KindJudge", name := "kind", desc := "(III)I" } : Jvm.MethodName)), (Jvm.Cond.methodLink "KindJudgeLaw" (49 : Nat) ({ cls := "KindJudgeModel", name := "kind", desc := "(III)I" } : Jvm.MethodName)), (Jvm.Cond.instanceMethod ({ cls := "KindJudgeModel", name := "kind", desc := "(III)I" } : Jvm.MethodName)), (Jvm.Cond.selects "KindJudgeModel" ({ cls := "KindJudgeModel", name := "kind", desc := "(III)I" } : Jvm.MethodName) ({ cls := "KindJudgeModel", name := "kind", desc := "(III)I" } : Jvm.MethodName)), (Jvm.Cond.methodLink "KindJudgeLaw" (53 : Nat) ({ cls := "KindJudgeModel", name := "look", desc := "(III)I" } : Jvm.MethodName)), (Jvm.Cond.instanceMethod ({ cls := "KindJudgeModel", name := "look", desc := "(III)I" } : Jvm.MethodName)), (Jvm.Cond.selects "KindJudgeModel" ({ cls := "KindJudgeModel", name := "look", desc := "(III)I" } : Jvm.MethodName) ({ cls := "KindJudgeModel", name := "look", desc := "(III)I" } : Jvm.MethodName)), (Jvm.Cond.methodLink "KindJudgeLaw" (54 : Nat) ({ cls := "KindJudge", name := "ways", desc := "(II)I" } : Jvm.MethodName)), (Jvm.Cond.instanceMethod ({ cls := "KindJudge", name := "ways", desc := "(II)I" } : Jvm.MethodName)), (Jvm.Cond.selects "KindJudge" ({ cls := "KindJudge", name := "ways", desc := "(II)I" } : Jvm.MethodName) ({ cls := "KindJudge", name := "ways", desc := "(II)I" } : Jvm.MethodName)), (Jvm.Cond.methodLink "KindJudgeLaw" (58 : Nat) ({ cls := "KindJudgeModel", name := "ways", desc := "(II)I" } : Jvm.MethodName)), (Jvm.Cond.instanceMethod ({ cls := "KindJudgeModel", name := "ways", desc := "(II)I" } : Jvm.MethodName)), (Jvm.Cond.selects "KindJudgeModel" ({ cls := "KindJudgeModel", name := "ways", desc := "(II)I" } : Jvm.MethodName) ({ cls := "KindJudgeModel", name := "ways", desc := "(II)I" } : Jvm.MethodName)), (Jvm.Cond.methodLink "KindJudgeLaw" (59 : Nat) ({ cls := "KindJudge", name := "count", desc := "(II)I" } : Jvm.MethodName)), (Jvm.Cond.instanceMethod ({ cls := "KindJudge", name := "count", desc := "(II)I" } : Jvm.MethodName)), (Jvm.Cond.selects "KindJudge" ({ cls := "KindJudge", name := "count", desc := "(II)I" } : Jvm.MethodName) ({ cls := "KindJudge", name := "count", desc := "(II)I" } : Jvm.MethodName)), (Jvm.Cond.methodLink "KindJudgeLaw" (62 : Nat) ({ cls := "KindJudgeModel", name := "count", desc := "(II)I" } : Jvm.MethodName)), (Jvm.Cond.instanceMethod ({ cls := "KindJudgeModel", name := "count", desc := "(II)I" } : Jvm.MethodName)), (Jvm.Cond.selects "KindJudgeModel" ({ cls := "KindJudgeModel", name := "count", desc := "(II)I" } : Jvm.MethodName) ({ cls := "KindJudgeModel", name := "count", desc := "(II)I" } : Jvm.MethodName)), (Jvm.Cond.methodLink "KindJudgeLaw" (63 : Nat) ({ cls := "KindJudge", name := "fits", desc := "(II)I" } : Jvm.MethodName)), (Jvm.Cond.instanceMethod ({ cls := "KindJudge", name := "fits", desc := "(II)I" } : Jvm.MethodName)), (Jvm.Cond.selects "KindJudge" ({ cls := "KindJudge", name := "fits", desc := "(II)I" } : Jvm.MethodName) ({ cls := "KindJudge", name := "fits", desc := "(II)I" } : Jvm.MethodName)), (Jvm.Cond.methodLink "KindJudgeLaw" (66 : Nat) ({ cls := "KindJudgeModel", name := "fits", desc := "(II)I" } : Jvm.MethodName)), (Jvm.Cond.instanceMethod ({ cls := "KindJudgeModel", name := "fits", desc := "(II)I" } : Jvm.MethodName)), (Jvm.Cond.selects "KindJudgeModel" ({ cls := "KindJudgeModel", name := "fits", desc := "(II)I" } : Jvm.MethodName) ({ cls := "KindJudgeModel", name := "fits", desc := "(II)I" } : Jvm.MethodName)), (Jvm.Cond.methodLink "KindJudgeLaw" (67 : Nat) ({ cls := "KindJudge", name := "meet", desc := "(II)I" } : Jvm.MethodName)), (Jvm.Cond.instanceMethod ({ cls := "KindJudge", name := "meet", desc := "(II)I" } : Jvm.MethodName)), (Jvm.Cond.selects "KindJudge" ({ cls := "KindJudge", name := "meet", desc := "(II)I" } : Jvm.MethodName) ({ cls := "KindJudge", name := "meet", desc := "(II)I" } : Jvm.MethodName)), (Jvm.Cond.methodLink "KindJudgeLaw" (70 : Nat) ({ cls := "KindJudgeModel", name := "meet", desc := "(II)I" } : Jvm.MethodName)), (Jvm.Cond.instanceMethod ({ cls := "KindJudgeModel", name := "meet", desc := "(II)I" } : Jvm.MethodName)), (Jvm.Cond.selects "KindJudgeModel" ({ cls := "KindJudgeModel", name := "meet", desc := "(II)I" } : Jvm.MethodName) ({ cls := "KindJudgeModel", name := "meet", desc := "(II)I" } : Jvm.MethodName)), (Jvm.Cond.methodLink "KindJudgeLaw" (71 : Nat) ({ cls := "KindJudge", name := "method", desc := "(II)I" } : Jvm.MethodName)), (Jvm.Cond.instanceMethod ({ cls := "KindJudge", name := "method", desc := "(II)I" } : Jvm.MethodName)), (Jvm.Cond.selects "KindJudge" ({ cls := "KindJudge", name := "method", desc := "(II)I" } : Jvm.MethodName) ({ cls := "KindJudge", name := "method", desc := "(II)I" } : Jvm.MethodName)), (Jvm.Cond.methodLink "KindJudgeLaw" (74 : Nat) ({ cls := "KindJudgeModel", name := "method", desc := "(II)I" } : Jvm.MethodName)), (Jvm.Cond.instanceMethod ({ cls := "KindJudgeModel", name := "method", desc := "(II)I" } : Jvm.MethodName)), (Jvm.Cond.selects "KindJudgeModel" ({ cls := "KindJudgeModel", name := "method", desc := "(II)I" } : Jvm.MethodName) ({ cls := "KindJudgeModel", name := "method", desc := "(II)I" } : Jvm.MethodName)), (Jvm.Cond.methodLink "KindJudgeLaw" (75 : Nat) ({ cls := "KindJudge", name := "type", desc := "(II)I" } : Jvm.MethodName)), (Jvm.Cond.instanceMethod ({ cls := "KindJudge", name := "type", desc := "(II)I" } : Jvm.MethodName)), (Jvm.Cond.selects "KindJudge" ({ cls := "KindJudge", name := "type", desc := "(II)I" } : Jvm.MethodName) ({ cls := "KindJudge", name := "type", desc := "(II)I" } : Jvm.MethodName)), (Jvm.Cond.methodLink "KindJudgeLaw" (78 : Nat) ({ cls := "KindJudgeModel", name := "type", desc := "(II)I" } : Jvm.MethodName)), (Jvm.Cond.instanceMethod ({ cls := "KindJudgeModel", name := "type", desc := "(II)I" } : Jvm.MethodName)), (Jvm.Cond.selects "KindJudgeModel" ({ cls := "KindJudgeModel", name := "type", desc := "(II)I" } : Jvm.MethodName) ({ cls := "KindJudgeModel", name := "type", desc := "(II)I" } : Jvm.MethodName)), (Jvm.Cond.methodLink "KindJudgeLaw" (79 : Nat) ({ cls := "KindJudge", name := "total", desc := "(I)I" } : Jvm.MethodName)), (Jvm.Cond.instanceMethod ({ cls := "KindJudge", name := "total", desc := "(I)I" } : Jvm.MethodName)), (Jvm.Cond.selects "KindJudge" ({ cls := "KindJudge", name := "total", desc := "(I)I" } : Jvm.MethodName) ({ cls := "KindJudge", name := "total", desc := "(I)I" } : Jvm.MethodName)), (Jvm.Cond.methodLink "KindJudgeLaw" (82 : Nat) ({ cls := "KindJudgeModel", name := "total", desc := "(I)I" } : Jvm.MethodName)), (Jvm.Cond.instanceMethod ({ cls := "KindJudgeModel", name := "total", desc := "(I)I" } : Jvm.MethodName)), (Jvm.Cond.selects "KindJudgeModel" ({ cls := "KindJudgeModel", name := "total", desc := "(I)I" } : Jvm.MethodName) ({ cls := "KindJudgeModel", name := "total", desc := "(I)I" } : Jvm.MethodName))]
set_option maxRecDepth 100000 in
set_option maxHeartbeats 4000000 in
theorem kjSL : ∀ w ∈ kjWL, w ∈ lw_tbl := mv_sub_of [64, 81, 82, 65, 83, 84, 824, 825, 74, 826, 827, 276, 1152, 313, 314, 315, 946, 947, 948, 951, 952, 953, 942, 943, 944, 321, 322, 323, 1088, 1089, 1090, 325, 326, 327, 1092, 1093, 1094, 1096, 1097, 1098, 361, 362, 363, 1116, 1117, 1118, 404, 405, 406, 1124, 1125, 1126, 455, 456, 457, 1128, 1129, 1130, 476, 477, 478, 1136, 1137, 1138, 487, 488, 489, 1140, 1141, 1142, 500, 501, 502, 1144, 1145, 1146, 518, 519, 520, 1148, 1149, 1150] (by decide +kernel)
set_option maxRecDepth 100000 in
set_option maxHeartbeats 4000000 in
theorem kjKL_0 : (kjTL.take 25).all (mv_rowB kjWL kjCl kjKd kjP kjStn kjLaw) = true := by decide +kernel
set_option maxRecDepth 100000 in
set_option maxHeartbeats 4000000 in
theorem kjKL_25 : ((kjTL.drop 25).take 25).all (mv_rowB kjWL kjCl kjKd kjP kjStn kjLaw) = true := by decide +kernel
set_option maxRecDepth 100000 in
set_option maxHeartbeats 4000000 in
theorem kjKL_50 : ((kjTL.drop 50).take 25).all (mv_rowB kjWL kjCl kjKd kjP kjStn kjLaw) = true := by decide +kernel
set_option maxRecDepth 100000 in
set_option maxHeartbeats 4000000 in
theorem kjKL_75 : ((kjTL.drop 75).take 25).all (mv_rowB kjWL kjCl kjKd kjP kjStn kjLaw) = true := by decide +kernel
end
section
set_option maxRecDepth 100000 in
set_option maxHeartbeats 4000000 in
theorem kjKL_100 : ((kjTL.drop 100).take 25).all (mv_rowB kjWL kjCl kjKd kjP kjStn kjLaw) = true := by decide +kernel
set_option maxRecDepth 100000 in
set_option maxHeartbeats 4000000 in
theorem kjKL_125 : ((kjTL.drop 125).take 25).all (mv_rowB kjWL kjCl kjKd kjP kjStn kjLaw) = true := by decide +kernel
set_option maxRecDepth 100000 in
set_option maxHeartbeats 4000000 in
theorem kjKL_150 : ((kjTL.drop 150).take 25).all (mv_rowB kjWL kjCl kjKd kjP kjStn kjLaw) = true := by decide +kernel
set_option maxRecDepth 100000 in
set_option maxHeartbeats 4000000 in
theorem kjKL_175 : ((kjTL.drop 175).take 25).all (mv_rowB kjWL kjCl kjKd kjP kjStn kjLaw) = true := by decide +kernel
end
section
set_option maxRecDepth 100000 in
set_option maxHeartbeats 4000000 in
theorem kjKL_200 : ((kjTL.drop 200).take 25).all (mv_rowB kjWL kjCl kjKd kjP kjStn kjLaw) = true := by decide +kernel
set_option maxRecDepth 100000 in
set_option maxHeartbeats 4000000 in
theorem kjKL_225 : ((kjTL.drop 225).take 25).all (mv_rowB kjWL kjCl kjKd kjP kjStn kjLaw) = true := by decide +kernel
set_option maxRecDepth 100000 in
set_option maxHeartbeats 4000000 in
theorem kjKL_250 : ((kjTL.drop 250).take 25).all (mv_rowB kjWL kjCl kjKd kjP kjStn kjLaw) = true := by decide +kernel
set_option maxRecDepth 100000 in
set_option maxHeartbeats 4000000 in
theorem kjKL_275 : (kjTL.drop 275).all (mv_rowB kjWL kjCl kjKd kjP kjStn kjLaw) = true := by decide +kernel
end
section
set_option maxRecDepth 100000 in
set_option maxHeartbeats 4000000 in
theorem kjLaw_all : kjTL.all (mv_rowB kjWL kjCl kjKd kjP kjStn kjLaw) = true := (mv_all_split (l := kjTL) 25 kjKL_0 (mv_all_split (l := (kjTL.drop 25)) 25 kjKL_25 (show ((kjTL.drop 25).drop 25).all _ = true by rw [List.drop_drop]; exact (mv_all_split (l := (kjTL.drop 50)) 25 kjKL_50 (show ((kjTL.drop 50).drop 25).all _ = true by rw [List.drop_drop]; exact (mv_all_split (l := (kjTL.drop 75)) 25 kjKL_75 (show ((kjTL.drop 75).drop 25).all _ = true by rw [List.drop_drop]; exact (mv_all_split (l := (kjTL.drop 100)) 25 kjKL_100 (show ((kjTL.drop 100).drop 25).all _ = true by rw [List.drop_drop]; exact (mv_all_split (l := (kjTL.drop 125)) 25 kjKL_125 (show ((kjTL.drop 125).drop 25).all _ = true by rw [List.drop_drop]; exact (mv_all_split (l := (kjTL.drop 150)) 25 kjKL_150 (show ((kjTL.drop 150).drop 25).all _ = true by rw [List.drop_drop]; exact (mv_all_split (l := (kjTL.drop 175)) 25 kjKL_175 (show ((kjTL.drop 175).drop 25).all _ = true by rw [List.drop_drop]; exact (mv_all_split (l := (kjTL.drop 200)) 25 kjKL_200 (show ((kjTL.drop 200).drop 25).all _ = true by rw [List.drop_drop]; exact (mv_all_split (l := (kjTL.drop 225)) 25 kjKL_225 (show ((kjTL.drop 225).drop 25).all _ = true by rw [List.drop_drop]; exact (mv_all_split (l := (kjTL.drop 250)) 25 kjKL_250 (show ((kjTL.drop 250).drop 25).all _ = true by rw [List.drop_drop]; exact kjKL_275)))))))))))))))))))))
theorem kjLaw_ok : mv_Ro kjCl kjKd kjTs kjNw kjP kjStn kjLaw := by
  intro e he
  have h := List.all_eq_true.mp kjLaw_all e he
  unfold mv_rowB at h
  rw [Bool.and_eq_true] at h
  exact ⟨of_decide_eq_true h.1, mv_rwB_ok kjSL h.2⟩
end
section
/-! The law's walk: what its rows of the small machine, its reads of the script, its answer, and its own load and look do. -/
def kw_A (s : State) : Nat → Prop := fun q => s.heap.size ≤ q
def kw_C (p : Program) (s : State) (m : MethodId) (meth : Method) (c : Code) (b L : Nat) (xs : Nat → Int32) (D : va_G) (cA : Nat → ClassId) (ad : Nat → Nat) : Prop :=
  mv_Cx p s m #[Value.ref b] meth c (kw_A s) D kjCl cA ad kjTs kjNw kjSta kjStn kjLaw ∧ va_X b L xs s s.heap ∧ b < s.heap.size ∧ ad 200000 = b
abbrev kw_W (p : Program) (l : Launch) (e : Env) (s : State) (m : MethodId) (below : List Frame) (meth : Method) (c : Code) (b : Nat) (D : va_G) (cA : Nat → ClassId) (ad : Nat → Nat) (F : mv_F) : Prop :=
  mv_W p l e room_1 s m #[Value.ref b] below meth c (kw_A s) D kjCl kjKd cA ad 7 (lw_Z below #[Value.ref b] s) F
theorem kw_in0 : vp_in (0 : Int32) 4 := by unfold vp_in; decide
theorem kw_in1 : vp_in (1 : Int32) 4 := by unfold vp_in; decide
theorem kw_in2 : vp_in (2 : Int32) 4 := by unfold vp_in; decide
theorem kw_in3 : vp_in (3 : Int32) 4 := by unfold vp_in; decide
/-- the cells' addresses behind a throw: what comes next lies one further -/
def kw_up (ad : Nat → Nat) : Nat → Nat := fun k => if k < 82 then ad k else if k < 100000 then ad k + 1 else ad k
set_option maxRecDepth 100000 in
theorem kw_refs : (kjRt false).all (fun r => r.all (fun o => match o with
  | none => true
  | some q => Nat.blt q 82)) = true := by decide +kernel
theorem kw_ref {k j q : Nat} (h : kjR false k j = some q) : q < 82 := by
  unfold kjR at h
  rw [List.getD_eq_getElem?_getD, List.getD_eq_getElem?_getD] at h
  cases h1 : (kjRt false)[k]? with
  | none => rw [h1] at h; simp at h
  | some r =>
    rw [h1] at h
    have hr := List.all_eq_true.mp kw_refs r (List.mem_of_getElem? h1)
    cases h2 : r[j]? with
    | none => rw [Option.getD_some, h2] at h; simp at h
    | some o =>
      rw [Option.getD_some, h2, Option.getD_some] at h
      have ho := List.all_eq_true.mp hr o (List.mem_of_getElem? h2)
      rw [h] at ho
      exact Nat.le_of_ble_eq_true ho
theorem kw_ws (cA : Nat → ClassId) (ad : Nat → Nat) (I : kjI) (L : kjL) : mv_ws kjKd cA (kw_up ad) (kjS false I L) = mv_ws kjKd cA ad (kjS false I L) := by
  have key : ∀ q, q < 82 → kw_up ad q = ad q := fun q hq => if_pos hq
  have hc : ∀ (k : Nat) (sh : mv_Sh), mv_cell kjKd cA (kw_up ad) (kjS false I L) k sh = mv_cell kjKd cA ad (kjS false I L) k sh := by
    intro k sh
    cases sh with
    | inl q => rfl
    | inr ci =>
      have hf : (fun (j q : Nat) => mv_tr (kw_up ad) (mv_fval q (kjS false I L) k j)) = (fun (j q : Nat) => mv_tr ad (mv_fval q (kjS false I L) k j)) := by
        funext j q
        unfold mv_fval
        cases Nat.beq q 3 with
        | true => rfl
        | false =>
          cases Nat.beq q 4 with
          | true =>
            show mv_tr (kw_up ad) (match kjR false k j with
              | none => Value.null
              | some q => .ref q) = mv_tr ad (match kjR false k j with
              | none => Value.null
              | some q => .ref q)
            cases hq : kjR false k j with
            | none => rfl
            | some q =>
              show Value.ref (kw_up ad q) = Value.ref (ad q)
              rw [key q (kw_ref hq)]
          | false => rfl
      show Sum.inr (ci, _) = Sum.inr (ci, _)
      rw [hf]
  unfold mv_ws
  refine List.ext_getElem? (fun k => ?_)
  rw [List.getElem?_mapIdx, List.getElem?_mapIdx]
  cases hk : (kjS false I L).1[k]? with
  | none => rfl
  | some sh =>
    have hlt : k < 82 := by
      have h1 := (List.getElem?_eq_some_iff.mp hk).1
      exact h1
    show some (kw_up ad k, mv_cell kjKd cA (kw_up ad) (kjS false I L) k sh) = some (ad k, mv_cell kjKd cA ad (kjS false I L) k sh)
    rw [key k hlt, hc]
section KW
variable {p : Program} {l : Launch} {e : Env} {s : State} {m : MethodId} {below : List Frame} {meth : Method} {c : Code} {b L : Nat} {xs : Nat → Int32} {D : va_G} {cA : Nat → ClassId} {ad : Nat → Nat}
variable {pc vc vs : Nat} {lc : mv_L} {r : List Value} {S : mv_S}
theorem kw_go (C : kw_C p s m meth c b L xs D cA ad) {F : mv_F} (h : mv_Gs kjP kjSta (mv_C kjP kjSta 10) kjLaw (kw_W p l e s m below meth c b D cA ad) F) : kw_W p l e s m below meth c b D cA ad F :=
  h _ (fun _ h => h) (fun F hF => mv_close (d := 10) (Q := fun _ _ => False) kjSy C.1 kjLaw_ok ⟨Nat.le_refl _, Nat.le_refl _⟩ ⟨Nat.le_refl _, Nat.le_refl _⟩ (fun _ _ _ _ _ _ hq => by
    obtain ⟨_, _, _, _, _, _, _, _, -, -, -, -, -, hq⟩ := hq
    exact hq.elim) hF)
theorem kw_len (C : kw_C p s m meth c b L xs D cA ad) (hd : decode code pc = .ok (.arraylength, 1)) (k : kw_W p l e s m below meth c b D cA ad (pc + 1, lc, .int (Int32.ofNat L) :: r, vc, vs, S)) : kw_W p l e s m below meth c b D cA ad (pc, lc, .ref 200000 :: r, vc, vs, S) := by
  intro H locs ls hH hL hcs
  obtain ⟨C1, C2, C3, C4⟩ := C
  have key := k H locs ls hH hL hcs
  show W p l e room_1 s m #[Value.ref b] below meth c H locs vc vs _ (F0 m pc ls (.ref (ad 200000) :: r.map (mv_tr ad)))
  rw [C4]
  exact va_slen C1.1 C1.2.1 C2 C3 (Nat.not_le.mpr C3) hH.2.2.1 hd key
theorem kw_ld (C : kw_C p s m meth c b L xs D cA ad) {i : Int32} (hin : vp_in i L) (hd : decode code pc = .ok (.iaload, 1)) (k : kw_W p l e s m below meth c b D cA ad (pc + 1, lc, .int (xs (Int32.toNatClampNeg i)) :: r, vc, vs, S)) : kw_W p l e s m below meth c b D cA ad (pc, lc, .int i :: .ref 200000 :: r, vc, vs, S) := by
  intro H locs ls hH hL hcs
  obtain ⟨C1, C2, C3, C4⟩ := C
  have key := k H locs ls hH hL hcs
  show W p l e room_1 s m #[Value.ref b] below meth c H locs vc vs _ (F0 m pc ls (.int i :: .ref (ad 200000) :: r.map (mv_tr ad)))
  rw [C4]
  exact va_sld C1.1 C1.2.1 C2 C3 (Nat.not_le.mpr C3) hH.2.2.1 hin hd key
theorem kw_ret (C : kw_C p s m meth c b L xs D cA ad) (hd : decode code pc = .ok (.ireturn, 1)) : kw_W p l e s m below meth c b D cA ad (pc, lc, [.int 1], vc, vs, S) := by
  intro H locs ls hH hL hcs
  obtain ⟨C1, C2, C3, C4⟩ := C
  refine va_forget (fun q hq => hH.2.2.1.2.2 q hq) ?_
  refine W.widen (k := 86) (n := 54544) hcs.1 hcs.2 ?_
  exact lw_ret C1.1 C1.2.1 C1.2.2.2.2.2.2.2.2.2.1 C1.2.2.2.2.2.2.2.2.1 hd
theorem kw_C_up (C : kw_C p s m meth c b L xs D cA ad) : kw_C p s m meth c b L xs D cA (kw_up ad) := by
  obtain ⟨C1, C2, C3, C4⟩ := C
  obtain ⟨c1, c2, c3, c4, c5, c6, c7, c8, c9, c10, c11, c12⟩ := C1
  exact ⟨⟨c1, c2, c3, c4, c5, c6, c7, c8, c9, c10, c11, fun t q hq => by cases hq⟩, C2, C3, C4⟩
abbrev kw_L0 : mv_L := [some (.ref 200000), some (.ref 0), some (.ref 59), some (.ref 81), some (.int (0 : Int32)), none, none]
def kw_Lo (lc : mv_L) : Prop := ∀ (j k : Nat), lc[j]? = some (some (.ref k)) → k < 82 ∨ 100000 ≤ k
theorem kw_lc0 : kw_Lo kw_L0 := by
  intro j k h
  match j, h with
  | 0, h => cases h; exact Or.inr (by decide)
  | 1, h => cases h; exact Or.inl (by decide)
  | 2, h => cases h; exact Or.inl (by decide)
  | 3, h => cases h; exact Or.inl (by decide)
  | 4, h => cases h
  | 5, h => cases h
  | 6, h => cases h
  | j + 7, h => cases h
theorem kw_Lc_up {ls : Array Slot} {n : Nat} (ho : kw_Lo lc) (h : mv_Lc ad ls n lc) : mv_Lc (kw_up ad) ls n lc := by
  obtain ⟨h1, h2, h3⟩ := h
  refine ⟨h1, h2, fun j v hj => ?_⟩
  rw [h3 j v hj]
  cases v with
  | ref k =>
    show some (Slot.val (.ref (ad k))) = some (Slot.val (.ref (kw_up ad k)))
    have : kw_up ad k = ad k := by
      unfold kw_up
      rcases ho j k hj with h | h
      · exact if_pos h
      · rw [if_neg (by omega), if_neg (by omega)]
    rw [this]
  | _ => rfl
/-- behind a call of the law's own load or look -/
theorem kw_behind (C : kw_C p s m meth c b L xs D cA ad) {I J : kjI} {K K' : kjL} {index : Nat} {y : MethodName} {bytes : ByteArray} {maxL : Nat} {hs : List (Nat × Nat × Nat × Nat)} {Pc : Array Value → State → Prop} {As : List Value} {n : Nat} (ho : kw_Lo lc)
    (hM : Met l y (Jvm.Cond.codeWith y bytes maxL (some .int) hs :: kjTs) { frames := 8, cells := 1, slots := 6, locals := 210 } Pc (kl_Pst (kw_A s) D cA ad (fun S' => S' = kjS false J K')) 1 6 (kw_A s)) (hbl : FrameBlind Pc) (hml : 8 + (maxL + 11) + 210 ≤ 438)
    (hlink : Jvm.Cond.methodLink "KindJudgeLaw" index y ∈ kjTs) (hstat : Jvm.Cond.static y ∈ kjTs) (hcode : Jvm.Cond.codeWith y bytes maxL (some .int) hs ∈ kjTs) (hy : y.cls = "KindJudgeLaw") (hn : (parseMethodDescriptor y.desc).map (fun d => d.parameters.length) = some As.length) (hd : decode code pc = .ok (.invokestatic index, 3)) (hvc : vc + 1 ≤ 86) (hvs : vs + 6 ≤ 54544)
    (hpre : ∀ (H : Heap) (locs : List Loc), mv_Hc (kw_A s) D kjCl kjKd cA ad s (kjS false I K) vc H locs → ∀ U : State, U.heap = H → s.WarmedH U.vm → Pc (As.map (mv_tr ad)).toArray U)
    (k : kw_C p s m meth c b L xs D cA (kw_up ad) → kw_W p l e s m below meth c b D cA (kw_up ad) (pc + 3, lc, [.int 1], vc + 1, vs + 6, kjS false J K')) : kw_W p l e s m below meth c b D cA ad (pc, lc, As.reverse, vc, vs, kjS false I K) := by
  intro H locs ls hH hL hcs
  have C1 := C.1
  have hts := C1.2.2.2.2.1
  have hini : Jvm.Cond.initialized y.cls ∈ kjTs := by rw [hy]; exact kl_in 9 rfl
  have hwk : ∀ w ∈ kjTs, ∀ (a' : Array Value) (U : State), s.WarmedH U.vm → w.before a' U = true := fun w hw a' U hW => word_at hW (kjSy.2.1 w hw) (hts w hw)
  have hK := mv_backW (p := p) (e := e) (below := below) (s := s) (args := #[Value.ref b]) (R := room_1) hM hbl rfl rfl (Nat.le_of_ble_eq_true rfl) hml (fun w hw => by
    rcases List.mem_cons.mp hw with rfl | hw
    · exact hwk _ hcode
    · exact hwk _ hw) List.mem_cons_self (hwk _ hini)
  have hrun := mv_runSW (meth := meth) (locs := locs) (cells := vc) (slots := vs) (pc := pc) (ls := ls) (rest := []) (As := As.map (mv_tr ad)) C1.1 C1.2.1 C1.2.2.1 C1.2.2.2.1 (hts _ hlink) (hts _ hstat) (hts _ hini) (hts _ hcode) (by rw [hy]; decide) (by rw [List.length_map]; exact kl_len hn) hK (hpre H locs hH) hL.1.1 (Nat.zero_le _) hd ⟨hvc, hvs⟩
  have e0 : (As.map (mv_tr ad)).reverse ++ [] = (As.reverse).map (mv_tr ad) := by rw [List.append_nil, List.map_reverse]
  rw [e0] at hrun
  refine mv_callx hrun (fun v st0 t H1 L' h0 h1 hq hL' => ?_)
  obtain ⟨S', rfl, q2, q3, q4, q5, q6⟩ := hq
  cases q2
  rw [h1] at q3 q6
  rw [h0] at q6
  have hF : va_S (kw_A s) H H1 (locs ++ L') := by
    obtain ⟨f1, f2⟩ := q5
    rw [h0, h1] at f1
    refine ⟨f1, fun q q1 q2 => ?_, fun q hq => ?_⟩
    · have := f2 q (by rw [h0]; exact q1) q2
      rw [h0, h1] at this
      exact this
    · rcases List.mem_append.mp hq with h | h
      · exact hH.2.2.1.2.2 q h
      · exact hL' q h
  have h4 : H.size = s.heap.size + vc := hH.2.2.2.1
  have h5 : ∀ k, 82 ≤ k → k < 100000 → ad k + 82 = H.size + k := hH.2.2.2.2
  refine k (kw_C_up C) H1 (locs ++ L') ls ⟨by rw [kw_ws]; exact q3, by rw [kw_ws]; exact q4, mv_S_trans hH.2.2.1 hF, by show H1.size = s.heap.size + (vc + 1); omega, fun q g1 g2 => ?_⟩ (kw_Lc_up ho hL) ⟨hvc, hvs⟩
  have g1 : 82 ≤ q := g1
  have h6 := h5 q g1 g2
  have e1 : kw_up ad q = ad q + 1 := by
    unfold kw_up
    rw [if_neg (by omega), if_pos g2]
  show kw_up ad q + 82 = H1.size + q
  omega
theorem kw_pre (C : kw_C p s m meth c b L xs D cA ad) {I : kjI} {K : kjL} {as : List Value} {own text : String} {is sa : Nat} (hex : mv_Ex kt_F own is text sa (kw_A s) s) (H : Heap) (locs : List Loc) (hH : mv_Hc (kw_A s) D kjCl kjKd cA ad s (kjS false I K) vc H locs) (U : State) (hU : U.heap = H) (hW : s.WarmedH U.vm) : mv_PreT (kw_A s) D kjCl kjKd cA ad kjNw kjSta kjStn as (kjS false I K) kt_F own is text sa (as.map (mv_tr ad)).toArray U := by
  obtain ⟨h1, h2, h3, h4, h5⟩ := hH
  obtain ⟨c1, c2, c3, c4, c5, c6, c7, c8, c9, c10, c11, c12⟩ := C.1
  exact ⟨⟨rfl, mv_Nw_warm mv_nest_all hW c6, va_K.moved hW.alike c7, mv_Sts_go hW.alike h3 hU c12, fun q hq => c8 q (Nat.le_trans h3.1 (by rw [← hU]; exact hq)), by rw [hU]; exact h1, h2, by rw [hU]; exact h5⟩, mv_Ex_go kt_Fo hW h3 hU hex⟩
theorem kw_cload (C : kw_C p s m meth c b L xs D cA ad) (hfl : l.flags.contains noTraceFlag = true) (hex : ∃ (text : String) (sa : Nat), mv_Ex kt_F "KindJudge" 41 text sa (kw_A s) s) (hv : vc + 1 ≤ 86 ∧ vs + 6 ≤ 54544) {I' : kjI} (h1 : kf13 false kcZ kcZL = some (I', kcZL)) (h2 : I' 0 3 = 1) (ho : kw_Lo lc)
    (k : kw_C p s m meth c b L xs D cA (kw_up ad) → kw_W p l e s m below meth c b D cA (kw_up ad) (174, lc, [.int 1], vc + 1, vs + 6, kjS false (mv_up I' 31 1 0) kcZL)) : kw_W p l e s m below meth c b D cA ad (171, lc, [.ref 81, .ref 0], vc, vs, kjS false kcZ kcZL) := by
  obtain ⟨text, sa, hex⟩ := hex
  exact kw_behind (As := [.ref 0, .ref 81]) (n := 2) C ho (kl_load l hfl (kw_A s) D cA ad h1 h2 text sa) (mv_PreT_blind mv_nest_all kt_Fo _) (Nat.le_of_ble_eq_true rfl) (kl_in 10 rfl) (kl_in 12 rfl) (kl_in 14 rfl) rfl (by decide +kernel) (by decide +kernel) hv.1 hv.2 (kw_pre C hex) k
theorem kw_clook (C : kw_C p s m meth c b L xs D cA ad) (hfl : l.flags.contains noTraceFlag = true) (hex : ∃ (text : String) (sa : Nat), mv_Ex kt_F "KindJudge" 100 text sa (kw_A s) s) (hv : vc + 1 ≤ 86 ∧ vs + 6 ≤ 54544) {w1 w2 w3 : Int32} (ho : kw_Lo lc)
    (k : kw_C p s m meth c b L xs D cA (kw_up ad) → kw_W p l e s m below meth c b D cA (kw_up ad) (310, lc, [.int 1], vc + 1, vs + 6, kjS false kcZ kcZL)) : kw_W p l e s m below meth c b D cA ad (307, lc, [.ref 81, .int w3, .int w2, .int w1, .ref 0], vc, vs, kjS false kcZ kcZL) := by
  obtain ⟨text, sa, hex⟩ := hex
  exact kw_behind (As := [.ref 0, .int w1, .int w2, .int w3, .ref 81]) (n := 5) C ho (kl_look l hfl (kw_A s) D cA ad w1 w2 w3 text sa) (mv_PreT_blind mv_nest_all kt_Fo _) (Nat.le_of_ble_eq_true rfl) (kl_in 11 rfl) (kl_in 13 rfl) (kl_in 15 rfl) rfl (by show (parseMethodDescriptor kl_nk.desc).map (fun d => d.parameters.length) = some 5; decide +kernel) (by decide +kernel) hv.1 hv.2 (kw_pre C hex) k
end KW
end
section
/-! The law's walk, by program (wip/p1/law.py): the end of a turn, and each case. -/
section KW
variable {p : Program} {l : Launch} {e : Env} {s : State} {m : MethodId} {below : List Frame} {meth : Method} {c : Code} {b L : Nat} {xs : Nat → Int32} {D : va_G} {cA : Nat → ClassId} {ad : Nat → Nat}
set_option maxRecDepth 100000 in
set_option maxHeartbeats 4000000 in
theorem kw_end (C : kw_C p s m meth c b 4 xs D cA ad) {vc vs : Nat} {S : mv_S} {k5 k6 : Option Value} : kw_W p l e s m below meth c b D cA ad (614, [some (.ref 200000), some (.ref 0), some (.ref 59), some (.ref 81), some (.int (0 : Int32)), k5, k6], [], vc, vs, S) := by
  refine kw_go C ?_
  refine mv_Gs_run 4 (F' := (26, [some (.ref 200000), some (.ref 0), some (.ref 59), some (.ref 81), some (.int (4 : Int32)), k5, k6], [.ref 200000, .int (4 : Int32)], vc, vs, S)) rfl ?_
  refine mv_Gs_stop (kw_len C (by decide +kernel) (kw_go C ?_))
  refine mv_Gs_run 2 (F' := (29, [some (.ref 200000), some (.ref 0), some (.ref 59), some (.ref 81), some (.int (4 : Int32)), k5, k6], [.int (Int32.ofNat 4 - 4), .int (4 : Int32)], vc, vs, S)) rfl ?_
  refine mv_Gs_br (tgt := 620) rfl rfl (by decide) (fun _ => ?_) (fun z => absurd (by decide) z)
  refine mv_Gs_run 1 (F' := (621, [some (.ref 200000), some (.ref 0), some (.ref 59), some (.ref 81), some (.int (4 : Int32)), k5, k6], [.int (1 : Int32)], vc, vs, S)) rfl ?_
  exact mv_Gs_stop (kw_ret C (by decide +kernel))
set_option maxRecDepth 100000 in
set_option maxHeartbeats 4000000 in
theorem kw_fault (C : kw_C p s m meth c b 4 xs D cA ad) : kw_W p l e s m below meth c b D cA ad (213, [some (.ref 200000), some (.ref 0), some (.ref 59), some (.ref 81), some (.int (0 : Int32)), none, none], [], 82, 54516, kjS false kcZ kcZL) := by
  refine kw_go C ?_
  obtain ⟨r, h1, h2⟩ := k1_fault (xs (Int32.toNatClampNeg (1 : Int32)))
  refine mv_Gs_run 5 (F' := (219, [some (.ref 200000), some (.ref 0), some (.ref 59), some (.ref 81), some (.int (0 : Int32)), none, none], [.int (1 : Int32), .ref 200000, .ref 0], 82, 54516, kjS false kcZ kcZL)) rfl ?_
  refine mv_Gs_stop (kw_ld C kw_in1 (by decide +kernel) (kw_go C ?_))
  refine mv_Gs_call (r := []) (kf3_ok _ _ _ _ _ _ h1) rfl rfl rfl rfl rfl (Nat.le_of_ble_eq_true rfl) (Nat.le_of_ble_eq_true rfl) (Nat.le_of_ble_eq_true rfl) ?_
  rintro _ _ ⟨rfl, rfl⟩
  refine mv_Gs_run 5 (F' := (229, [some (.ref 200000), some (.ref 0), some (.ref 59), some (.ref 81), some (.int (0 : Int32)), none, none], [.int (1 : Int32), .ref 200000, .ref 59, .int r], 82, 54516, kjS false kcZ kcZL)) rfl ?_
  refine mv_Gs_stop (kw_ld C kw_in1 (by decide +kernel) (kw_go C ?_))
  refine mv_Gs_call (r := [.int r]) (kf125_ok _ _ _ _ _ _ h2) rfl rfl rfl rfl rfl (Nat.le_of_ble_eq_true rfl) (Nat.le_of_ble_eq_true rfl) (Nat.le_of_ble_eq_true rfl) ?_
  rintro _ _ ⟨rfl, rfl⟩
  refine mv_Gs_br (tgt := 614) rfl rfl (by decide) (fun _ => ?_) (fun z => absurd rfl z)
  exact mv_Gs_stop (kw_end C)
set_option maxRecDepth 100000 in
set_option maxHeartbeats 4000000 in
theorem kw_kind (C : kw_C p s m meth c b 4 xs D cA ad) : kw_W p l e s m below meth c b D cA ad (238, [some (.ref 200000), some (.ref 0), some (.ref 59), some (.ref 81), some (.int (0 : Int32)), none, none], [], 82, 54516, kjS false kcZ kcZL) := by
  refine kw_go C ?_
  refine mv_Gs_run 5 (F' := (244, [some (.ref 200000), some (.ref 0), some (.ref 59), some (.ref 81), some (.int (0 : Int32)), none, none], [.int (1 : Int32), .ref 200000, .ref 0], 82, 54516, kjS false kcZ kcZL)) rfl ?_
  refine mv_Gs_stop (kw_ld C kw_in1 (by decide +kernel) (kw_go C ?_))
  refine mv_Gs_run 4 (F' := (250, [some (.ref 200000), some (.ref 0), some (.ref 59), some (.ref 81), some (.int (0 : Int32)), none, none], [.int (2 : Int32), .ref 200000, .int (xs (Int32.toNatClampNeg (1 : Int32))), .ref 0], 82, 54516, kjS false kcZ kcZL)) rfl ?_
  refine mv_Gs_stop (kw_ld C kw_in2 (by decide +kernel) (kw_go C ?_))
  refine mv_Gs_run 4 (F' := (256, [some (.ref 200000), some (.ref 0), some (.ref 59), some (.ref 81), some (.int (0 : Int32)), none, none], [.int (3 : Int32), .ref 200000, .int (xs (Int32.toNatClampNeg (2 : Int32))), .int (xs (Int32.toNatClampNeg (1 : Int32))), .ref 0], 82, 54516, kjS false kcZ kcZL)) rfl ?_
  refine mv_Gs_stop (kw_ld C kw_in3 (by decide +kernel) (kw_go C ?_))
  refine mv_Gs_call (r := []) (kf4_ok _ _ _ _ _ _ _ _ (k1_kind (xs (Int32.toNatClampNeg (1 : Int32))) (xs (Int32.toNatClampNeg (2 : Int32))) (xs (Int32.toNatClampNeg (3 : Int32))))) rfl rfl rfl rfl rfl (Nat.le_of_ble_eq_true rfl) (Nat.le_of_ble_eq_true rfl) (Nat.le_of_ble_eq_true rfl) ?_
  rintro _ _ ⟨rfl, rfl⟩
  refine mv_Gs_run 5 (F' := (266, [some (.ref 200000), some (.ref 0), some (.ref 59), some (.ref 81), some (.int (0 : Int32)), none, none], [.int (1 : Int32), .ref 200000, .ref 59, .int (-1 : Int32)], 82, 54516, kjS false kcZ kcZL)) rfl ?_
  refine mv_Gs_stop (kw_ld C kw_in1 (by decide +kernel) (kw_go C ?_))
  refine mv_Gs_run 4 (F' := (272, [some (.ref 200000), some (.ref 0), some (.ref 59), some (.ref 81), some (.int (0 : Int32)), none, none], [.int (2 : Int32), .ref 200000, .int (xs (Int32.toNatClampNeg (1 : Int32))), .ref 59, .int (-1 : Int32)], 82, 54516, kjS false kcZ kcZL)) rfl ?_
  refine mv_Gs_stop (kw_ld C kw_in2 (by decide +kernel) (kw_go C ?_))
  refine mv_Gs_run 4 (F' := (278, [some (.ref 200000), some (.ref 0), some (.ref 59), some (.ref 81), some (.int (0 : Int32)), none, none], [.int (3 : Int32), .ref 200000, .int (xs (Int32.toNatClampNeg (2 : Int32))), .int (xs (Int32.toNatClampNeg (1 : Int32))), .ref 59, .int (-1 : Int32)], 82, 54516, kjS false kcZ kcZL)) rfl ?_
  refine mv_Gs_stop (kw_ld C kw_in3 (by decide +kernel) (kw_go C ?_))
  refine mv_Gs_call (r := [.int (-1 : Int32)]) (kf139_ok _ _ _ _ _ _ _ _ (k1_mkind (xs (Int32.toNatClampNeg (1 : Int32))) (xs (Int32.toNatClampNeg (2 : Int32))) (xs (Int32.toNatClampNeg (3 : Int32))))) rfl rfl rfl rfl rfl (Nat.le_of_ble_eq_true rfl) (Nat.le_of_ble_eq_true rfl) (Nat.le_of_ble_eq_true rfl) ?_
  rintro _ _ ⟨rfl, rfl⟩
  refine mv_Gs_br (tgt := 614) rfl rfl (by decide) (fun _ => ?_) (fun z => absurd rfl z)
  exact mv_Gs_stop (kw_end C)
set_option maxRecDepth 100000 in
set_option maxHeartbeats 4000000 in
theorem kw_ways (C : kw_C p s m meth c b 4 xs D cA ad) : kw_W p l e s m below meth c b D cA ad (367, [some (.ref 200000), some (.ref 0), some (.ref 59), some (.ref 81), some (.int (0 : Int32)), none, none], [], 82, 54516, kjS false kcZ kcZL) := by
  refine kw_go C ?_
  refine mv_Gs_run 5 (F' := (373, [some (.ref 200000), some (.ref 0), some (.ref 59), some (.ref 81), some (.int (0 : Int32)), none, none], [.int (1 : Int32), .ref 200000, .ref 0], 82, 54516, kjS false kcZ kcZL)) rfl ?_
  refine mv_Gs_stop (kw_ld C kw_in1 (by decide +kernel) (kw_go C ?_))
  refine mv_Gs_run 4 (F' := (379, [some (.ref 200000), some (.ref 0), some (.ref 59), some (.ref 81), some (.int (0 : Int32)), none, none], [.int (2 : Int32), .ref 200000, .int (xs (Int32.toNatClampNeg (1 : Int32))), .ref 0], 82, 54516, kjS false kcZ kcZL)) rfl ?_
  refine mv_Gs_stop (kw_ld C kw_in2 (by decide +kernel) (kw_go C ?_))
  refine mv_Gs_call (r := []) (kf6_ok _ _ _ _ _ _ _ (k1_ways (xs (Int32.toNatClampNeg (1 : Int32))) (xs (Int32.toNatClampNeg (2 : Int32))))) rfl rfl rfl rfl rfl (Nat.le_of_ble_eq_true rfl) (Nat.le_of_ble_eq_true rfl) (Nat.le_of_ble_eq_true rfl) ?_
  rintro _ _ ⟨rfl, rfl⟩
  refine mv_Gs_run 5 (F' := (389, [some (.ref 200000), some (.ref 0), some (.ref 59), some (.ref 81), some (.int (0 : Int32)), none, none], [.int (1 : Int32), .ref 200000, .ref 59, .int (-1 : Int32)], 82, 54516, kjS false kcZ kcZL)) rfl ?_
  refine mv_Gs_stop (kw_ld C kw_in1 (by decide +kernel) (kw_go C ?_))
  refine mv_Gs_run 4 (F' := (395, [some (.ref 200000), some (.ref 0), some (.ref 59), some (.ref 81), some (.int (0 : Int32)), none, none], [.int (2 : Int32), .ref 200000, .int (xs (Int32.toNatClampNeg (1 : Int32))), .ref 59, .int (-1 : Int32)], 82, 54516, kjS false kcZ kcZL)) rfl ?_
  refine mv_Gs_stop (kw_ld C kw_in2 (by decide +kernel) (kw_go C ?_))
  refine mv_Gs_call (r := [.int (-1 : Int32)]) (kf146_ok _ _ _ _ _ _ _ (k1_mways (xs (Int32.toNatClampNeg (1 : Int32))) (xs (Int32.toNatClampNeg (2 : Int32))))) rfl rfl rfl rfl rfl (Nat.le_of_ble_eq_true rfl) (Nat.le_of_ble_eq_true rfl) (Nat.le_of_ble_eq_true rfl) ?_
  rintro _ _ ⟨rfl, rfl⟩
  refine mv_Gs_br (tgt := 614) rfl rfl (by decide) (fun _ => ?_) (fun z => absurd rfl z)
  exact mv_Gs_stop (kw_end C)
set_option maxRecDepth 100000 in
set_option maxHeartbeats 4000000 in
theorem kw_count (C : kw_C p s m meth c b 4 xs D cA ad) : kw_W p l e s m below meth c b D cA ad (404, [some (.ref 200000), some (.ref 0), some (.ref 59), some (.ref 81), some (.int (0 : Int32)), none, none], [], 82, 54516, kjS false kcZ kcZL) := by
  refine kw_go C ?_
  refine mv_Gs_run 5 (F' := (410, [some (.ref 200000), some (.ref 0), some (.ref 59), some (.ref 81), some (.int (0 : Int32)), none, none], [.int (1 : Int32), .ref 200000, .ref 0], 82, 54516, kjS false kcZ kcZL)) rfl ?_
  refine mv_Gs_stop (kw_ld C kw_in1 (by decide +kernel) (kw_go C ?_))
  refine mv_Gs_run 4 (F' := (416, [some (.ref 200000), some (.ref 0), some (.ref 59), some (.ref 81), some (.int (0 : Int32)), none, none], [.int (2 : Int32), .ref 200000, .int (xs (Int32.toNatClampNeg (1 : Int32))), .ref 0], 82, 54516, kjS false kcZ kcZL)) rfl ?_
  refine mv_Gs_stop (kw_ld C kw_in2 (by decide +kernel) (kw_go C ?_))
  refine mv_Gs_call (r := []) (kf7_ok _ _ _ _ _ _ _ (k1_count (xs (Int32.toNatClampNeg (1 : Int32))) (xs (Int32.toNatClampNeg (2 : Int32))))) rfl rfl rfl rfl rfl (Nat.le_of_ble_eq_true rfl) (Nat.le_of_ble_eq_true rfl) (Nat.le_of_ble_eq_true rfl) ?_
  rintro _ _ ⟨rfl, rfl⟩
  refine mv_Gs_run 5 (F' := (426, [some (.ref 200000), some (.ref 0), some (.ref 59), some (.ref 81), some (.int (0 : Int32)), none, none], [.int (1 : Int32), .ref 200000, .ref 59, .int (-1 : Int32)], 82, 54516, kjS false kcZ kcZL)) rfl ?_
  refine mv_Gs_stop (kw_ld C kw_in1 (by decide +kernel) (kw_go C ?_))
  refine mv_Gs_run 4 (F' := (432, [some (.ref 200000), some (.ref 0), some (.ref 59), some (.ref 81), some (.int (0 : Int32)), none, none], [.int (2 : Int32), .ref 200000, .int (xs (Int32.toNatClampNeg (1 : Int32))), .ref 59, .int (-1 : Int32)], 82, 54516, kjS false kcZ kcZL)) rfl ?_
  refine mv_Gs_stop (kw_ld C kw_in2 (by decide +kernel) (kw_go C ?_))
  refine mv_Gs_call (r := [.int (-1 : Int32)]) (kf147_ok _ _ _ _ _ _ _ (k1_mcount (xs (Int32.toNatClampNeg (1 : Int32))) (xs (Int32.toNatClampNeg (2 : Int32))))) rfl rfl rfl rfl rfl (Nat.le_of_ble_eq_true rfl) (Nat.le_of_ble_eq_true rfl) (Nat.le_of_ble_eq_true rfl) ?_
  rintro _ _ ⟨rfl, rfl⟩
  refine mv_Gs_br (tgt := 614) rfl rfl (by decide) (fun _ => ?_) (fun z => absurd rfl z)
  exact mv_Gs_stop (kw_end C)
set_option maxRecDepth 100000 in
set_option maxHeartbeats 4000000 in
theorem kw_fits (C : kw_C p s m meth c b 4 xs D cA ad) : kw_W p l e s m below meth c b D cA ad (441, [some (.ref 200000), some (.ref 0), some (.ref 59), some (.ref 81), some (.int (0 : Int32)), none, none], [], 82, 54516, kjS false kcZ kcZL) := by
  refine kw_go C ?_
  refine mv_Gs_run 5 (F' := (447, [some (.ref 200000), some (.ref 0), some (.ref 59), some (.ref 81), some (.int (0 : Int32)), none, none], [.int (1 : Int32), .ref 200000, .ref 0], 82, 54516, kjS false kcZ kcZL)) rfl ?_
  refine mv_Gs_stop (kw_ld C kw_in1 (by decide +kernel) (kw_go C ?_))
  refine mv_Gs_run 4 (F' := (453, [some (.ref 200000), some (.ref 0), some (.ref 59), some (.ref 81), some (.int (0 : Int32)), none, none], [.int (2 : Int32), .ref 200000, .int (xs (Int32.toNatClampNeg (1 : Int32))), .ref 0], 82, 54516, kjS false kcZ kcZL)) rfl ?_
  refine mv_Gs_stop (kw_ld C kw_in2 (by decide +kernel) (kw_go C ?_))
  refine mv_Gs_call (r := []) (kf8_ok _ _ _ _ _ _ _ (k1_fits (xs (Int32.toNatClampNeg (1 : Int32))) (xs (Int32.toNatClampNeg (2 : Int32))))) rfl rfl rfl rfl rfl (Nat.le_of_ble_eq_true rfl) (Nat.le_of_ble_eq_true rfl) (Nat.le_of_ble_eq_true rfl) ?_
  rintro _ _ ⟨rfl, rfl⟩
  refine mv_Gs_run 5 (F' := (463, [some (.ref 200000), some (.ref 0), some (.ref 59), some (.ref 81), some (.int (0 : Int32)), none, none], [.int (1 : Int32), .ref 200000, .ref 59, .int (-1 : Int32)], 82, 54516, kjS false kcZ kcZL)) rfl ?_
  refine mv_Gs_stop (kw_ld C kw_in1 (by decide +kernel) (kw_go C ?_))
  refine mv_Gs_run 4 (F' := (469, [some (.ref 200000), some (.ref 0), some (.ref 59), some (.ref 81), some (.int (0 : Int32)), none, none], [.int (2 : Int32), .ref 200000, .int (xs (Int32.toNatClampNeg (1 : Int32))), .ref 59, .int (-1 : Int32)], 82, 54516, kjS false kcZ kcZL)) rfl ?_
  refine mv_Gs_stop (kw_ld C kw_in2 (by decide +kernel) (kw_go C ?_))
  refine mv_Gs_call (r := [.int (-1 : Int32)]) (kf149_ok _ _ _ _ _ _ _ (k1_mfits (xs (Int32.toNatClampNeg (1 : Int32))) (xs (Int32.toNatClampNeg (2 : Int32))))) rfl rfl rfl rfl rfl (Nat.le_of_ble_eq_true rfl) (Nat.le_of_ble_eq_true rfl) (Nat.le_of_ble_eq_true rfl) ?_
  rintro _ _ ⟨rfl, rfl⟩
  refine mv_Gs_br (tgt := 614) rfl rfl (by decide) (fun _ => ?_) (fun z => absurd rfl z)
  exact mv_Gs_stop (kw_end C)
set_option maxRecDepth 100000 in
set_option maxHeartbeats 4000000 in
theorem kw_meet (C : kw_C p s m meth c b 4 xs D cA ad) : kw_W p l e s m below meth c b D cA ad (478, [some (.ref 200000), some (.ref 0), some (.ref 59), some (.ref 81), some (.int (0 : Int32)), none, none], [], 82, 54516, kjS false kcZ kcZL) := by
  refine kw_go C ?_
  refine mv_Gs_run 5 (F' := (484, [some (.ref 200000), some (.ref 0), some (.ref 59), some (.ref 81), some (.int (0 : Int32)), none, none], [.int (1 : Int32), .ref 200000, .ref 0], 82, 54516, kjS false kcZ kcZL)) rfl ?_
  refine mv_Gs_stop (kw_ld C kw_in1 (by decide +kernel) (kw_go C ?_))
  refine mv_Gs_run 4 (F' := (490, [some (.ref 200000), some (.ref 0), some (.ref 59), some (.ref 81), some (.int (0 : Int32)), none, none], [.int (2 : Int32), .ref 200000, .int (xs (Int32.toNatClampNeg (1 : Int32))), .ref 0], 82, 54516, kjS false kcZ kcZL)) rfl ?_
  refine mv_Gs_stop (kw_ld C kw_in2 (by decide +kernel) (kw_go C ?_))
  refine mv_Gs_call (r := []) (kf9_ok _ _ _ _ _ _ _ (k1_meet (xs (Int32.toNatClampNeg (1 : Int32))) (xs (Int32.toNatClampNeg (2 : Int32))))) rfl rfl rfl rfl rfl (Nat.le_of_ble_eq_true rfl) (Nat.le_of_ble_eq_true rfl) (Nat.le_of_ble_eq_true rfl) ?_
  rintro _ _ ⟨rfl, rfl⟩
  refine mv_Gs_run 5 (F' := (500, [some (.ref 200000), some (.ref 0), some (.ref 59), some (.ref 81), some (.int (0 : Int32)), none, none], [.int (1 : Int32), .ref 200000, .ref 59, .int (-1 : Int32)], 82, 54516, kjS false kcZ kcZL)) rfl ?_
  refine mv_Gs_stop (kw_ld C kw_in1 (by decide +kernel) (kw_go C ?_))
  refine mv_Gs_run 4 (F' := (506, [some (.ref 200000), some (.ref 0), some (.ref 59), some (.ref 81), some (.int (0 : Int32)), none, none], [.int (2 : Int32), .ref 200000, .int (xs (Int32.toNatClampNeg (1 : Int32))), .ref 59, .int (-1 : Int32)], 82, 54516, kjS false kcZ kcZL)) rfl ?_
  refine mv_Gs_stop (kw_ld C kw_in2 (by decide +kernel) (kw_go C ?_))
  refine mv_Gs_call (r := [.int (-1 : Int32)]) (kf150_ok _ _ _ _ _ _ _ (k1_mmeet (xs (Int32.toNatClampNeg (1 : Int32))) (xs (Int32.toNatClampNeg (2 : Int32))))) rfl rfl rfl rfl rfl (Nat.le_of_ble_eq_true rfl) (Nat.le_of_ble_eq_true rfl) (Nat.le_of_ble_eq_true rfl) ?_
  rintro _ _ ⟨rfl, rfl⟩
  refine mv_Gs_br (tgt := 614) rfl rfl (by decide) (fun _ => ?_) (fun z => absurd rfl z)
  exact mv_Gs_stop (kw_end C)
set_option maxRecDepth 100000 in
set_option maxHeartbeats 4000000 in
theorem kw_method (C : kw_C p s m meth c b 4 xs D cA ad) : kw_W p l e s m below meth c b D cA ad (515, [some (.ref 200000), some (.ref 0), some (.ref 59), some (.ref 81), some (.int (0 : Int32)), none, none], [], 82, 54516, kjS false kcZ kcZL) := by
  refine kw_go C ?_
  refine mv_Gs_run 5 (F' := (521, [some (.ref 200000), some (.ref 0), some (.ref 59), some (.ref 81), some (.int (0 : Int32)), none, none], [.int (1 : Int32), .ref 200000, .ref 0], 82, 54516, kjS false kcZ kcZL)) rfl ?_
  refine mv_Gs_stop (kw_ld C kw_in1 (by decide +kernel) (kw_go C ?_))
  refine mv_Gs_run 4 (F' := (527, [some (.ref 200000), some (.ref 0), some (.ref 59), some (.ref 81), some (.int (0 : Int32)), none, none], [.int (2 : Int32), .ref 200000, .int (xs (Int32.toNatClampNeg (1 : Int32))), .ref 0], 82, 54516, kjS false kcZ kcZL)) rfl ?_
  refine mv_Gs_stop (kw_ld C kw_in2 (by decide +kernel) (kw_go C ?_))
  refine mv_Gs_call (r := []) (kf10_ok _ _ _ _ _ _ _ (k1_method (xs (Int32.toNatClampNeg (1 : Int32))) (xs (Int32.toNatClampNeg (2 : Int32))))) rfl rfl rfl rfl rfl (Nat.le_of_ble_eq_true rfl) (Nat.le_of_ble_eq_true rfl) (Nat.le_of_ble_eq_true rfl) ?_
  rintro _ _ ⟨rfl, rfl⟩
  refine mv_Gs_run 5 (F' := (537, [some (.ref 200000), some (.ref 0), some (.ref 59), some (.ref 81), some (.int (0 : Int32)), none, none], [.int (1 : Int32), .ref 200000, .ref 59, .int (-1 : Int32)], 82, 54516, kjS false kcZ kcZL)) rfl ?_
  refine mv_Gs_stop (kw_ld C kw_in1 (by decide +kernel) (kw_go C ?_))
  refine mv_Gs_run 4 (F' := (543, [some (.ref 200000), some (.ref 0), some (.ref 59), some (.ref 81), some (.int (0 : Int32)), none, none], [.int (2 : Int32), .ref 200000, .int (xs (Int32.toNatClampNeg (1 : Int32))), .ref 59, .int (-1 : Int32)], 82, 54516, kjS false kcZ kcZL)) rfl ?_
  refine mv_Gs_stop (kw_ld C kw_in2 (by decide +kernel) (kw_go C ?_))
  refine mv_Gs_call (r := [.int (-1 : Int32)]) (kf151_ok _ _ _ _ _ _ _ (k1_mmethod (xs (Int32.toNatClampNeg (1 : Int32))) (xs (Int32.toNatClampNeg (2 : Int32))))) rfl rfl rfl rfl rfl (Nat.le_of_ble_eq_true rfl) (Nat.le_of_ble_eq_true rfl) (Nat.le_of_ble_eq_true rfl) ?_
  rintro _ _ ⟨rfl, rfl⟩
  refine mv_Gs_br (tgt := 614) rfl rfl (by decide) (fun _ => ?_) (fun z => absurd rfl z)
  exact mv_Gs_stop (kw_end C)
set_option maxRecDepth 100000 in
set_option maxHeartbeats 4000000 in
theorem kw_type (C : kw_C p s m meth c b 4 xs D cA ad) : kw_W p l e s m below meth c b D cA ad (552, [some (.ref 200000), some (.ref 0), some (.ref 59), some (.ref 81), some (.int (0 : Int32)), none, none], [], 82, 54516, kjS false kcZ kcZL) := by
  refine kw_go C ?_
  refine mv_Gs_run 5 (F' := (558, [some (.ref 200000), some (.ref 0), some (.ref 59), some (.ref 81), some (.int (0 : Int32)), none, none], [.int (1 : Int32), .ref 200000, .ref 0], 82, 54516, kjS false kcZ kcZL)) rfl ?_
  refine mv_Gs_stop (kw_ld C kw_in1 (by decide +kernel) (kw_go C ?_))
  refine mv_Gs_run 4 (F' := (564, [some (.ref 200000), some (.ref 0), some (.ref 59), some (.ref 81), some (.int (0 : Int32)), none, none], [.int (2 : Int32), .ref 200000, .int (xs (Int32.toNatClampNeg (1 : Int32))), .ref 0], 82, 54516, kjS false kcZ kcZL)) rfl ?_
  refine mv_Gs_stop (kw_ld C kw_in2 (by decide +kernel) (kw_go C ?_))
  refine mv_Gs_call (r := []) (kf11_ok _ _ _ _ _ _ _ (k1_type (xs (Int32.toNatClampNeg (1 : Int32))) (xs (Int32.toNatClampNeg (2 : Int32))))) rfl rfl rfl rfl rfl (Nat.le_of_ble_eq_true rfl) (Nat.le_of_ble_eq_true rfl) (Nat.le_of_ble_eq_true rfl) ?_
  rintro _ _ ⟨rfl, rfl⟩
  refine mv_Gs_run 5 (F' := (574, [some (.ref 200000), some (.ref 0), some (.ref 59), some (.ref 81), some (.int (0 : Int32)), none, none], [.int (1 : Int32), .ref 200000, .ref 59, .int (-1 : Int32)], 82, 54516, kjS false kcZ kcZL)) rfl ?_
  refine mv_Gs_stop (kw_ld C kw_in1 (by decide +kernel) (kw_go C ?_))
  refine mv_Gs_run 4 (F' := (580, [some (.ref 200000), some (.ref 0), some (.ref 59), some (.ref 81), some (.int (0 : Int32)), none, none], [.int (2 : Int32), .ref 200000, .int (xs (Int32.toNatClampNeg (1 : Int32))), .ref 59, .int (-1 : Int32)], 82, 54516, kjS false kcZ kcZL)) rfl ?_
  refine mv_Gs_stop (kw_ld C kw_in2 (by decide +kernel) (kw_go C ?_))
  refine mv_Gs_call (r := [.int (-1 : Int32)]) (kf152_ok _ _ _ _ _ _ _ (k1_mtype (xs (Int32.toNatClampNeg (1 : Int32))) (xs (Int32.toNatClampNeg (2 : Int32))))) rfl rfl rfl rfl rfl (Nat.le_of_ble_eq_true rfl) (Nat.le_of_ble_eq_true rfl) (Nat.le_of_ble_eq_true rfl) ?_
  rintro _ _ ⟨rfl, rfl⟩
  refine mv_Gs_br (tgt := 614) rfl rfl (by decide) (fun _ => ?_) (fun z => absurd rfl z)
  exact mv_Gs_stop (kw_end C)
set_option maxRecDepth 100000 in
set_option maxHeartbeats 4000000 in
theorem kw_total (C : kw_C p s m meth c b 4 xs D cA ad) : kw_W p l e s m below meth c b D cA ad (589, [some (.ref 200000), some (.ref 0), some (.ref 59), some (.ref 81), some (.int (0 : Int32)), none, none], [], 82, 54516, kjS false kcZ kcZL) := by
  refine kw_go C ?_
  obtain ⟨r, h1, h2⟩ := k1_total (xs (Int32.toNatClampNeg (1 : Int32)))
  refine mv_Gs_run 5 (F' := (595, [some (.ref 200000), some (.ref 0), some (.ref 59), some (.ref 81), some (.int (0 : Int32)), none, none], [.int (1 : Int32), .ref 200000, .ref 0], 82, 54516, kjS false kcZ kcZL)) rfl ?_
  refine mv_Gs_stop (kw_ld C kw_in1 (by decide +kernel) (kw_go C ?_))
  refine mv_Gs_call (r := []) (kf12_ok _ _ _ _ _ _ h1) rfl rfl rfl rfl rfl (Nat.le_of_ble_eq_true rfl) (Nat.le_of_ble_eq_true rfl) (Nat.le_of_ble_eq_true rfl) ?_
  rintro _ _ ⟨rfl, rfl⟩
  refine mv_Gs_run 5 (F' := (605, [some (.ref 200000), some (.ref 0), some (.ref 59), some (.ref 81), some (.int (0 : Int32)), none, none], [.int (1 : Int32), .ref 200000, .ref 59, .int r], 82, 54516, kjS false kcZ kcZL)) rfl ?_
  refine mv_Gs_stop (kw_ld C kw_in1 (by decide +kernel) (kw_go C ?_))
  refine mv_Gs_call (r := [.int r]) (kf153_ok _ _ _ _ _ _ h2) rfl rfl rfl rfl rfl (Nat.le_of_ble_eq_true rfl) (Nat.le_of_ble_eq_true rfl) (Nat.le_of_ble_eq_true rfl) ?_
  rintro _ _ ⟨rfl, rfl⟩
  refine mv_Gs_br (tgt := 614) rfl rfl (by decide) (fun _ => ?_) (fun z => absurd rfl z)
  exact mv_Gs_stop (kw_end C)
set_option maxRecDepth 100000 in
set_option maxHeartbeats 4000000 in
theorem kw_put (C : kw_C p s m meth c b 4 xs D cA ad) : kw_W p l e s m below meth c b D cA ad (100, [some (.ref 200000), some (.ref 0), some (.ref 59), some (.ref 81), some (.int (0 : Int32)), none, none], [], 82, 54516, kjS false kcZ kcZL) := by
  refine kw_go C ?_
  obtain ⟨r, I1, J1, h1, h2⟩ := k1_put (((Int32.toInt64 (xs (Int32.toNatClampNeg (1 : Int32)))) <<< (Int32.toInt64 (32 : Int32) &&& 63)) ||| ((Int32.toInt64 (xs (Int32.toNatClampNeg (2 : Int32)))) &&& (4294967295 : Int64))) (xs (Int32.toNatClampNeg (3 : Int32)))
  refine mv_Gs_run 5 (F' := (106, [some (.ref 200000), some (.ref 0), some (.ref 59), some (.ref 81), some (.int (0 : Int32)), none, none], [.int (1 : Int32), .ref 200000, .ref 0], 82, 54516, kjS false kcZ kcZL)) rfl ?_
  refine mv_Gs_stop (kw_ld C kw_in1 (by decide +kernel) (kw_go C ?_))
  refine mv_Gs_run 7 (F' := (116, [some (.ref 200000), some (.ref 0), some (.ref 59), some (.ref 81), some (.int (0 : Int32)), none, none], [.int (2 : Int32), .ref 200000, .long ((Int32.toInt64 (xs (Int32.toNatClampNeg (1 : Int32)))) <<< (Int32.toInt64 (32 : Int32) &&& 63)), .ref 0], 82, 54516, kjS false kcZ kcZL)) rfl ?_
  refine mv_Gs_stop (kw_ld C kw_in2 (by decide +kernel) (kw_go C ?_))
  refine mv_Gs_run 8 (F' := (128, [some (.ref 200000), some (.ref 0), some (.ref 59), some (.ref 81), some (.int (0 : Int32)), none, none], [.int (3 : Int32), .ref 200000, .long (((Int32.toInt64 (xs (Int32.toNatClampNeg (1 : Int32)))) <<< (Int32.toInt64 (32 : Int32) &&& 63)) ||| ((Int32.toInt64 (xs (Int32.toNatClampNeg (2 : Int32)))) &&& (4294967295 : Int64))), .ref 0], 82, 54516, kjS false kcZ kcZL)) rfl ?_
  refine mv_Gs_stop (kw_ld C kw_in3 (by decide +kernel) (kw_go C ?_))
  refine mv_Gs_call (r := []) (kf1_ok _ _ _ _ _ _ _ _ h1) rfl rfl rfl rfl rfl (Nat.le_of_ble_eq_true rfl) (Nat.le_of_ble_eq_true rfl) (Nat.le_of_ble_eq_true rfl) ?_
  rintro _ _ ⟨rfl, rfl⟩
  refine mv_Gs_run 5 (F' := (138, [some (.ref 200000), some (.ref 0), some (.ref 59), some (.ref 81), some (.int (0 : Int32)), none, none], [.int (1 : Int32), .ref 200000, .ref 59, .int r], 82, 54516, kjS false I1 kcZL)) rfl ?_
  refine mv_Gs_stop (kw_ld C kw_in1 (by decide +kernel) (kw_go C ?_))
  refine mv_Gs_run 7 (F' := (148, [some (.ref 200000), some (.ref 0), some (.ref 59), some (.ref 81), some (.int (0 : Int32)), none, none], [.int (2 : Int32), .ref 200000, .long ((Int32.toInt64 (xs (Int32.toNatClampNeg (1 : Int32)))) <<< (Int32.toInt64 (32 : Int32) &&& 63)), .ref 59, .int r], 82, 54516, kjS false I1 kcZL)) rfl ?_
  refine mv_Gs_stop (kw_ld C kw_in2 (by decide +kernel) (kw_go C ?_))
  refine mv_Gs_run 8 (F' := (160, [some (.ref 200000), some (.ref 0), some (.ref 59), some (.ref 81), some (.int (0 : Int32)), none, none], [.int (3 : Int32), .ref 200000, .long (((Int32.toInt64 (xs (Int32.toNatClampNeg (1 : Int32)))) <<< (Int32.toInt64 (32 : Int32) &&& 63)) ||| ((Int32.toInt64 (xs (Int32.toNatClampNeg (2 : Int32)))) &&& (4294967295 : Int64))), .ref 59, .int r], 82, 54516, kjS false I1 kcZL)) rfl ?_
  refine mv_Gs_stop (kw_ld C kw_in3 (by decide +kernel) (kw_go C ?_))
  refine mv_Gs_call (r := [.int r]) (kf104_ok _ _ _ _ _ _ _ _ h2) rfl rfl rfl rfl rfl (Nat.le_of_ble_eq_true rfl) (Nat.le_of_ble_eq_true rfl) (Nat.le_of_ble_eq_true rfl) ?_
  rintro _ _ ⟨rfl, rfl⟩
  refine mv_Gs_br (tgt := 614) rfl rfl (by decide) (fun _ => ?_) (fun z => absurd rfl z)
  exact mv_Gs_stop (kw_end C)
set_option maxRecDepth 100000 in
set_option maxHeartbeats 4000000 in
theorem kw_load (C : kw_C p s m meth c b 4 xs D cA ad) (hfl : l.flags.contains noTraceFlag = true) (hex : ∃ (text : String) (sa : Nat), mv_Ex kt_F "KindJudge" 41 text sa (kw_A s) s) : kw_W p l e s m below meth c b D cA ad (169, [some (.ref 200000), some (.ref 0), some (.ref 59), some (.ref 81), some (.int (0 : Int32)), none, none], [], 82, 54516, kjS false kcZ kcZL) := by
  refine kw_go C ?_
  obtain ⟨I1, J1, h1, h2, h3, h4⟩ := k1_load
  refine mv_Gs_run 2 (F' := (171, [some (.ref 200000), some (.ref 0), some (.ref 59), some (.ref 81), some (.int (0 : Int32)), none, none], [.ref 81, .ref 0], 82, 54516, kjS false kcZ kcZL)) rfl ?_
  refine mv_Gs_stop (kw_cload C hfl hex (by decide) h1 h2 kw_lc0 (fun C => kw_go C ?_))
  refine mv_Gs_run 2 (F' := (177, [some (.ref 200000), some (.ref 0), some (.ref 59), some (.ref 81), some (.int (0 : Int32)), some (.int (1 : Int32)), none], [.ref 59], 83, 54522, kjS false (mv_up I1 31 1 0) kcZL)) rfl ?_
  refine mv_Gs_call (r := []) (kf123_ok _ _ _ _ _ h3) rfl rfl rfl rfl rfl (Nat.le_of_ble_eq_true rfl) (Nat.le_of_ble_eq_true rfl) (Nat.le_of_ble_eq_true rfl) ?_
  rintro _ _ ⟨rfl, rfl⟩
  refine mv_Gs_run 2 (F' := (183, [some (.ref 200000), some (.ref 0), some (.ref 59), some (.ref 81), some (.int (0 : Int32)), some (.int (1 : Int32)), some (.int (0 : Int32))], [.ref 59], 83, 54522, kjS false J1 kcZL)) rfl ?_
  refine mv_Gs_call (r := []) (kf101_ok _ _ _ _ _ rfl) rfl rfl rfl rfl rfl (Nat.le_of_ble_eq_true rfl) (Nat.le_of_ble_eq_true rfl) (Nat.le_of_ble_eq_true rfl) ?_
  rintro _ _ ⟨rfl, rfl⟩
  refine mv_Gs_run 1 (F' := (188, [some (.ref 200000), some (.ref 0), some (.ref 59), some (.ref 81), some (.int (0 : Int32)), some (.int (1 : Int32)), some (.int (0 : Int32))], [.int (1 : Int32), .int (J1 59 0)], 83, 54522, kjS false J1 kcZL)) rfl ?_
  refine mv_Gs_br (tgt := 193) rfl rfl (by decide) (fun _ => ?_) (fun z => absurd h4 z)
  refine mv_Gs_run 1 (F' := (195, [some (.ref 200000), some (.ref 0), some (.ref 59), some (.ref 81), some (.int (0 : Int32)), some (.int (1 : Int32)), some (.int (0 : Int32))], [.int (1 : Int32)], 83, 54522, kjS false J1 kcZL)) rfl ?_
  refine mv_Gs_br (tgt := 210) rfl rfl (by decide) (fun _ => ?_) (fun z => absurd (by decide) z)
  refine mv_Gs_run 1 (F' := (614, [some (.ref 200000), some (.ref 0), some (.ref 59), some (.ref 81), some (.int (0 : Int32)), some (.int (1 : Int32)), some (.int (0 : Int32))], [], 83, 54522, kjS false J1 kcZL)) rfl ?_
  exact mv_Gs_stop (kw_end C)
set_option maxRecDepth 100000 in
set_option maxHeartbeats 4000000 in
theorem kw_look (C : kw_C p s m meth c b 4 xs D cA ad) (hfl : l.flags.contains noTraceFlag = true) (hex : ∃ (text : String) (sa : Nat), mv_Ex kt_F "KindJudge" 100 text sa (kw_A s) s) : kw_W p l e s m below meth c b D cA ad (287, [some (.ref 200000), some (.ref 0), some (.ref 59), some (.ref 81), some (.int (0 : Int32)), none, none], [], 82, 54516, kjS false kcZ kcZL) := by
  refine kw_go C ?_
  refine mv_Gs_run 5 (F' := (293, [some (.ref 200000), some (.ref 0), some (.ref 59), some (.ref 81), some (.int (0 : Int32)), none, none], [.int (1 : Int32), .ref 200000, .ref 0], 82, 54516, kjS false kcZ kcZL)) rfl ?_
  refine mv_Gs_stop (kw_ld C kw_in1 (by decide +kernel) (kw_go C ?_))
  refine mv_Gs_run 4 (F' := (299, [some (.ref 200000), some (.ref 0), some (.ref 59), some (.ref 81), some (.int (0 : Int32)), none, none], [.int (2 : Int32), .ref 200000, .int (xs (Int32.toNatClampNeg (1 : Int32))), .ref 0], 82, 54516, kjS false kcZ kcZL)) rfl ?_
  refine mv_Gs_stop (kw_ld C kw_in2 (by decide +kernel) (kw_go C ?_))
  refine mv_Gs_run 4 (F' := (305, [some (.ref 200000), some (.ref 0), some (.ref 59), some (.ref 81), some (.int (0 : Int32)), none, none], [.int (3 : Int32), .ref 200000, .int (xs (Int32.toNatClampNeg (2 : Int32))), .int (xs (Int32.toNatClampNeg (1 : Int32))), .ref 0], 82, 54516, kjS false kcZ kcZL)) rfl ?_
  refine mv_Gs_stop (kw_ld C kw_in3 (by decide +kernel) (kw_go C ?_))
  refine mv_Gs_run 1 (F' := (307, [some (.ref 200000), some (.ref 0), some (.ref 59), some (.ref 81), some (.int (0 : Int32)), none, none], [.ref 81, .int (xs (Int32.toNatClampNeg (3 : Int32))), .int (xs (Int32.toNatClampNeg (2 : Int32))), .int (xs (Int32.toNatClampNeg (1 : Int32))), .ref 0], 82, 54516, kjS false kcZ kcZL)) rfl ?_
  refine mv_Gs_stop (kw_clook C hfl hex (by decide) kw_lc0 (fun C => kw_go C ?_))
  refine mv_Gs_run 6 (F' := (318, [some (.ref 200000), some (.ref 0), some (.ref 59), some (.ref 81), some (.int (0 : Int32)), some (.int (1 : Int32)), none], [.int (1 : Int32), .ref 200000, .ref 59], 83, 54522, kjS false kcZ kcZL)) rfl ?_
  refine mv_Gs_stop (kw_ld C kw_in1 (by decide +kernel) (kw_go C ?_))
  refine mv_Gs_run 4 (F' := (324, [some (.ref 200000), some (.ref 0), some (.ref 59), some (.ref 81), some (.int (0 : Int32)), some (.int (1 : Int32)), none], [.int (2 : Int32), .ref 200000, .int (xs (Int32.toNatClampNeg (1 : Int32))), .ref 59], 83, 54522, kjS false kcZ kcZL)) rfl ?_
  refine mv_Gs_stop (kw_ld C kw_in2 (by decide +kernel) (kw_go C ?_))
  refine mv_Gs_run 4 (F' := (330, [some (.ref 200000), some (.ref 0), some (.ref 59), some (.ref 81), some (.int (0 : Int32)), some (.int (1 : Int32)), none], [.int (3 : Int32), .ref 200000, .int (xs (Int32.toNatClampNeg (2 : Int32))), .int (xs (Int32.toNatClampNeg (1 : Int32))), .ref 59], 83, 54522, kjS false kcZ kcZL)) rfl ?_
  refine mv_Gs_stop (kw_ld C kw_in3 (by decide +kernel) (kw_go C ?_))
  refine mv_Gs_call (r := []) (kf144_ok _ _ _ _ _ _ _ _ (k1_mlook (xs (Int32.toNatClampNeg (1 : Int32))) (xs (Int32.toNatClampNeg (2 : Int32))) (xs (Int32.toNatClampNeg (3 : Int32))))) rfl rfl rfl rfl rfl (Nat.le_of_ble_eq_true rfl) (Nat.le_of_ble_eq_true rfl) (Nat.le_of_ble_eq_true rfl) ?_
  rintro _ _ ⟨rfl, rfl⟩
  refine mv_Gs_run 2 (F' := (337, [some (.ref 200000), some (.ref 0), some (.ref 59), some (.ref 81), some (.int (0 : Int32)), some (.int (1 : Int32)), some (.int (0 : Int32))], [.ref 59], 83, 54522, kjS false (mv_up kcZ 59 0 1) kcZL)) rfl ?_
  refine mv_Gs_call (r := []) (kf101_ok _ _ _ _ _ rfl) rfl rfl rfl rfl rfl (Nat.le_of_ble_eq_true rfl) (Nat.le_of_ble_eq_true rfl) (Nat.le_of_ble_eq_true rfl) ?_
  rintro _ _ ⟨rfl, rfl⟩
  refine mv_Gs_run 1 (F' := (342, [some (.ref 200000), some (.ref 0), some (.ref 59), some (.ref 81), some (.int (0 : Int32)), some (.int (1 : Int32)), some (.int (0 : Int32))], [.int (1 : Int32), .int (mv_up kcZ 59 0 1 59 0)], 83, 54522, kjS false (mv_up kcZ 59 0 1) kcZL)) rfl ?_
  refine mv_Gs_br (tgt := 347) rfl rfl (by decide) (fun _ => ?_) (fun z => absurd rfl z)
  refine mv_Gs_run 1 (F' := (349, [some (.ref 200000), some (.ref 0), some (.ref 59), some (.ref 81), some (.int (0 : Int32)), some (.int (1 : Int32)), some (.int (0 : Int32))], [.int (1 : Int32)], 83, 54522, kjS false (mv_up kcZ 59 0 1) kcZL)) rfl ?_
  refine mv_Gs_br (tgt := 364) rfl rfl (by decide) (fun _ => ?_) (fun z => absurd (by decide) z)
  refine mv_Gs_run 1 (F' := (614, [some (.ref 200000), some (.ref 0), some (.ref 59), some (.ref 81), some (.int (0 : Int32)), some (.int (1 : Int32)), some (.int (0 : Int32))], [], 83, 54522, kjS false (mv_up kcZ 59 0 1) kcZL)) rfl ?_
  exact mv_Gs_stop (kw_end C)
end KW
end
section
/-! A turn, and the start. -/
section KW
variable {p : Program} {l : Launch} {e : Env} {s : State} {m : MethodId} {below : List Frame} {meth : Method} {c : Code} {b L : Nat} {xs : Nat → Int32} {D : va_G} {cA : Nat → ClassId} {ad : Nat → Nat}
set_option maxRecDepth 100000 in
set_option maxHeartbeats 4000000 in
theorem kw_turn (C : kw_C p s m meth c b 4 xs D cA ad) (hfl : l.flags.contains noTraceFlag = true) (hx1 : ∃ (text : String) (sa : Nat), mv_Ex kt_F "KindJudge" 41 text sa (kw_A s) s) (hx2 : ∃ (text : String) (sa : Nat), mv_Ex kt_F "KindJudge" 100 text sa (kw_A s) s) : kw_W p l e s m below meth c b D cA ad (32, [some (.ref 200000), some (.ref 0), some (.ref 59), some (.ref 81), some (.int (0 : Int32)), none, none], [], 82, 54516, kjS false kcZ kcZL) := by
  refine kw_go C ?_
  refine mv_Gs_run 2 (F' := (35, [some (.ref 200000), some (.ref 0), some (.ref 59), some (.ref 81), some (.int (0 : Int32)), none, none], [.int (0 : Int32), .ref 200000], 82, 54516, kjS false kcZ kcZL)) rfl ?_
  refine mv_Gs_stop (kw_ld C kw_in0 (by decide +kernel) (kw_go C ?_))
  refine mv_Gs_run 2 (F' := (39, [some (.ref 200000), some (.ref 0), some (.ref 59), some (.ref 81), some (.int (0 : Int32)), none, none], [.int ((xs (Int32.toNatClampNeg (0 : Int32))) &&& (15 : Int32))], 82, 54516, kjS false kcZ kcZL)) rfl ?_
  by_cases h0 : (((xs (Int32.toNatClampNeg (0 : Int32))) &&& (15 : Int32))).toInt = 0
  · refine mv_Gs_rule (Or.inr (Or.inr ⟨39, _, _, _, _, _, _, _, _, _, _, _, rfl, rfl, Or.inr (Or.inl ⟨_, _, 61, 100, rfl, (by simp only [mv_sw, h0]; rfl), by decide, mv_Gs_stop (kw_put C)⟩)⟩))
  by_cases h1 : (((xs (Int32.toNatClampNeg (0 : Int32))) &&& (15 : Int32))).toInt = 1
  · refine mv_Gs_rule (Or.inr (Or.inr ⟨39, _, _, _, _, _, _, _, _, _, _, _, rfl, rfl, Or.inr (Or.inl ⟨_, _, 130, 169, rfl, (by simp only [mv_sw, h1]; rfl), by decide, mv_Gs_stop (kw_load C hfl hx1)⟩)⟩))
  by_cases h2 : (((xs (Int32.toNatClampNeg (0 : Int32))) &&& (15 : Int32))).toInt = 2
  · refine mv_Gs_rule (Or.inr (Or.inr ⟨39, _, _, _, _, _, _, _, _, _, _, _, rfl, rfl, Or.inr (Or.inl ⟨_, _, 174, 213, rfl, (by simp only [mv_sw, h2]; rfl), by decide, mv_Gs_stop (kw_fault C)⟩)⟩))
  by_cases h3 : (((xs (Int32.toNatClampNeg (0 : Int32))) &&& (15 : Int32))).toInt = 3
  · refine mv_Gs_rule (Or.inr (Or.inr ⟨39, _, _, _, _, _, _, _, _, _, _, _, rfl, rfl, Or.inr (Or.inl ⟨_, _, 199, 238, rfl, (by simp only [mv_sw, h3]; rfl), by decide, mv_Gs_stop (kw_kind C)⟩)⟩))
  by_cases h4 : (((xs (Int32.toNatClampNeg (0 : Int32))) &&& (15 : Int32))).toInt = 4
  · refine mv_Gs_rule (Or.inr (Or.inr ⟨39, _, _, _, _, _, _, _, _, _, _, _, rfl, rfl, Or.inr (Or.inl ⟨_, _, 248, 287, rfl, (by simp only [mv_sw, h4]; rfl), by decide, mv_Gs_stop (kw_look C hfl hx2)⟩)⟩))
  by_cases h5 : (((xs (Int32.toNatClampNeg (0 : Int32))) &&& (15 : Int32))).toInt = 5
  · refine mv_Gs_rule (Or.inr (Or.inr ⟨39, _, _, _, _, _, _, _, _, _, _, _, rfl, rfl, Or.inr (Or.inl ⟨_, _, 328, 367, rfl, (by simp only [mv_sw, h5]; rfl), by decide, mv_Gs_stop (kw_ways C)⟩)⟩))
  by_cases h6 : (((xs (Int32.toNatClampNeg (0 : Int32))) &&& (15 : Int32))).toInt = 6
  · refine mv_Gs_rule (Or.inr (Or.inr ⟨39, _, _, _, _, _, _, _, _, _, _, _, rfl, rfl, Or.inr (Or.inl ⟨_, _, 365, 404, rfl, (by simp only [mv_sw, h6]; rfl), by decide, mv_Gs_stop (kw_count C)⟩)⟩))
  by_cases h7 : (((xs (Int32.toNatClampNeg (0 : Int32))) &&& (15 : Int32))).toInt = 7
  · refine mv_Gs_rule (Or.inr (Or.inr ⟨39, _, _, _, _, _, _, _, _, _, _, _, rfl, rfl, Or.inr (Or.inl ⟨_, _, 402, 441, rfl, (by simp only [mv_sw, h7]; rfl), by decide, mv_Gs_stop (kw_fits C)⟩)⟩))
  by_cases h8 : (((xs (Int32.toNatClampNeg (0 : Int32))) &&& (15 : Int32))).toInt = 8
  · refine mv_Gs_rule (Or.inr (Or.inr ⟨39, _, _, _, _, _, _, _, _, _, _, _, rfl, rfl, Or.inr (Or.inl ⟨_, _, 439, 478, rfl, (by simp only [mv_sw, h8]; rfl), by decide, mv_Gs_stop (kw_meet C)⟩)⟩))
  by_cases h9 : (((xs (Int32.toNatClampNeg (0 : Int32))) &&& (15 : Int32))).toInt = 9
  · refine mv_Gs_rule (Or.inr (Or.inr ⟨39, _, _, _, _, _, _, _, _, _, _, _, rfl, rfl, Or.inr (Or.inl ⟨_, _, 476, 515, rfl, (by simp only [mv_sw, h9]; rfl), by decide, mv_Gs_stop (kw_method C)⟩)⟩))
  by_cases h10 : (((xs (Int32.toNatClampNeg (0 : Int32))) &&& (15 : Int32))).toInt = 10
  · refine mv_Gs_rule (Or.inr (Or.inr ⟨39, _, _, _, _, _, _, _, _, _, _, _, rfl, rfl, Or.inr (Or.inl ⟨_, _, 513, 552, rfl, (by simp only [mv_sw, h10]; rfl), by decide, mv_Gs_stop (kw_type C)⟩)⟩))
  by_cases h11 : (((xs (Int32.toNatClampNeg (0 : Int32))) &&& (15 : Int32))).toInt = 11
  · refine mv_Gs_rule (Or.inr (Or.inr ⟨39, _, _, _, _, _, _, _, _, _, _, _, rfl, rfl, Or.inr (Or.inl ⟨_, _, 550, 589, rfl, (by simp only [mv_sw, h11]; rfl), by decide, mv_Gs_stop (kw_total C)⟩)⟩))
  have hz : (((xs (Int32.toNatClampNeg (0 : Int32))) &&& (15 : Int32))).toInt < 0 ∨ 11 < (((xs (Int32.toNatClampNeg (0 : Int32))) &&& (15 : Int32))).toInt := by omega
  refine mv_Gs_rule (Or.inr (Or.inr ⟨39, _, _, _, _, _, _, _, _, _, _, _, rfl, rfl, Or.inr (Or.inl ⟨_, _, 575, 614, rfl, if_pos hz, by decide, mv_Gs_stop (kw_end C)⟩)⟩))
set_option maxRecDepth 100000 in
set_option maxHeartbeats 4000000 in
theorem kw_start (C : kw_C p s m meth c b L xs D cA ad) (hL : L ≤ 4) (hfl : l.flags.contains noTraceFlag = true) (hx1 : ∃ (text : String) (sa : Nat), mv_Ex kt_F "KindJudge" 41 text sa (kw_A s) s) (hx2 : ∃ (text : String) (sa : Nat), mv_Ex kt_F "KindJudge" 100 text sa (kw_A s) s) : kw_W p l e s m below meth c b D cA ad (0, [some (.ref 200000), none, none, none, none, none, none], [], 0, 0, kcS 0 89) := by
  refine kw_go C ?_
  refine mv_Gs_run 1 (F' := (3, [some (.ref 200000), none, none, none, none, none, none], [.ref 0], 1, 6, mv_new (kcS 0 89) (.inr 0))) rfl ?_
  rw [kc_new (a := 0) (t := 89) rfl rfl rfl]
  refine mv_Gs_run 1 (F' := (4, [some (.ref 200000), none, none, none, none, none, none], [.ref 0, .ref 0], 1, 6, (kcS 1 89))) rfl ?_
  refine mv_Gs_call (r := [.ref 0]) (kc_19_ok _) rfl rfl rfl rfl rfl (Nat.le_of_ble_eq_true rfl) (Nat.le_of_ble_eq_true rfl) (Nat.le_of_ble_eq_true rfl) ?_
  rintro _ _ ⟨rfl, rfl⟩
  refine mv_Gs_run 2 (F' := (11, [some (.ref 200000), some (.ref 0), none, none, none, none, none], [.ref 59], 60, 13191, mv_new (kcS 59 21) (.inr 9))) rfl ?_
  rw [kc_new (a := 59) (t := 21) rfl rfl rfl]
  refine mv_Gs_run 1 (F' := (12, [some (.ref 200000), some (.ref 0), none, none, none, none, none], [.ref 59, .ref 59], 60, 13191, (kcS 60 21))) rfl ?_
  refine mv_Gs_call (r := [.ref 59]) (kc_20_ok _) rfl rfl rfl rfl rfl (Nat.le_of_ble_eq_true rfl) (Nat.le_of_ble_eq_true rfl) (Nat.le_of_ble_eq_true rfl) ?_
  rintro _ _ ⟨rfl, rfl⟩
  refine mv_Gs_run 3 (F' := (19, [some (.ref 200000), some (.ref 0), some (.ref 59), none, none, none, none], [.ref 81], 82, 54516, mv_new (kcS 81 0) (.inl (3, 1)))) rfl ?_
  rw [kc_new (a := 81) (t := 0) rfl rfl rfl]
  rw [kc_end]
  refine mv_Gs_run 5 (F' := (26, [some (.ref 200000), some (.ref 0), some (.ref 59), some (.ref 81), some (.int (0 : Int32)), none, none], [.ref 200000, .int (0 : Int32)], 82, 54516, kjS false kcZ kcZL)) rfl ?_
  refine mv_Gs_stop (kw_len C (by decide +kernel) (kw_go C ?_))
  refine mv_Gs_run 2 (F' := (29, [some (.ref 200000), some (.ref 0), some (.ref 59), some (.ref 81), some (.int (0 : Int32)), none, none], [.int (Int32.ofNat L - 4), .int (0 : Int32)], 82, 54516, kjS false kcZ kcZL)) rfl ?_
  by_cases hL4 : L = 4
  · subst hL4
    exact mv_Gs_br (tgt := 620) rfl rfl (by decide) (fun z => absurd z (by decide)) (fun _ => mv_Gs_stop (kw_turn C hfl hx1 hx2))
  have hlt : Int32.ofNat L - 4 < 0 := by
    rcases (show L = 0 ∨ L = 1 ∨ L = 2 ∨ L = 3 by omega) with rfl | rfl | rfl | rfl <;> decide
  refine mv_Gs_br (tgt := 620) rfl rfl (by decide) (fun _ => ?_) (fun z => absurd hlt z)
  refine mv_Gs_run 1 (F' := (621, [some (.ref 200000), some (.ref 0), some (.ref 59), some (.ref 81), some (.int (0 : Int32)), none, none], [.int (1 : Int32)], 82, 54516, kjS false kcZ kcZL)) rfl ?_
  exact mv_Gs_stop (kw_ret C (by decide +kernel))
end KW
end
section
/-! From the entry: the world, and the claim. -/
def kx_I : List Jvm.Cond := [.instantiable "KindJudge" 6, .instantiable "KindJudge$Book" 4, .instantiable "KindJudge$Bytes" 2, .instantiable "KindJudge$Layout" 9, .instantiable "KindJudge$Classes" 5, .instantiable "KindJudge$Signatures" 4, .instantiable "KindJudge$Reader" 3, .instantiable "KindJudge$Code" 3, .instantiable "KindJudge$Flow" 12, .instantiable "KindJudgeModel" 37, .arrayClass .int, .arrayClass .boolean, .arrayClass .byte, .arrayClass .long, .initialized "java/lang/Throwable"]
set_option maxRecDepth 100000 in
set_option maxHeartbeats 4000000 in
theorem kx_Iok : kx_I.all (mv_has lw_tbl) = true := by decide +kernel
theorem kx_in (k : Nat) {w : Jvm.Cond} (h : kx_I[k]? = some w) : w ∈ kjTs := kt_all kx_Iok w (List.mem_of_getElem? h)
set_option maxRecDepth 100000 in
set_option maxHeartbeats 4000000 in
theorem kx_any : [kt_LU, kt_LV, Jvm.Cond.stringRef "KindJudge" 41 "what was put together has a fault", Jvm.Cond.stringRef "KindJudge" 100 "no such instruction, or nothing such of it"].all (fun a => lw_tbl.any (fun x => decide (x = a))) = true := by decide +kernel
theorem kx_mem (k : Nat) {w : Jvm.Cond} (h : ([kt_LU, kt_LV, Jvm.Cond.stringRef "KindJudge" 41 "what was put together has a fault", Jvm.Cond.stringRef "KindJudge" 100 "no such instruction, or nothing such of it"] : List Jvm.Cond)[k]? = some w) : w ∈ lw_tbl := mv_any_in (List.all_eq_true.mp kx_any w (List.mem_of_getElem? h))
theorem kx_inst {k : Nat} {q : vw_C} (h : kjCl[k]? = some q) : Jvm.Cond.instantiable q.1 q.2.2 ∈ kjTs := by
  match k, h with
  | 0, h => cases h; exact kx_in 0 rfl
  | 1, h => cases h; exact kx_in 1 rfl
  | 2, h => cases h; exact kx_in 2 rfl
  | 3, h => cases h; exact kx_in 3 rfl
  | 4, h => cases h; exact kx_in 4 rfl
  | 5, h => cases h; exact kx_in 5 rfl
  | 6, h => cases h; exact kx_in 6 rfl
  | 7, h => cases h; exact kx_in 7 rfl
  | 8, h => cases h; exact kx_in 8 rfl
  | 9, h => cases h; exact kx_in 9 rfl
  | n + 10, h => cases h
theorem kx_arr {s : State} {args : Array Value} {ty : FieldType} (h : (Jvm.Cond.arrayClass ty).before args s = true) : ∃ cA : ClassId, ArrOfT s cA ty ∧ s.vm.findClass ("[" ++ ty.toString) = some cA := by
  obtain ⟨c, k, comp, h1, h2, h3⟩ := Cond.arrayClass_spec h
  exact ⟨c, fun n z => ⟨fun k h => (by cases h), k, h2, comp, h3⟩, h1⟩
theorem kx_ex {s : State} {args : Array Value} (hts : ∀ w ∈ lw_tbl, w.before args s = true) (hU : kt_U.before args s = true) (hV : kt_V.before args s = true) {is : Nat} {text : String} (hr : (Jvm.Cond.stringRef "KindJudge" is text).before args s = true) (he : (Jvm.Cond.exactly (.string "KindJudge" is) "java/lang/String").before args s = true) : ∃ (text : String) (sa : Nat), mv_Ex kt_F "KindJudge" is text sa (kw_A s) s := by
  obtain ⟨a, _, _, _, ha, -⟩ := Cond.exactly_spec he
  have hA : ∀ q : Nat, q < s.heap.size → ¬ kw_A s q := fun q hq h => absurd h (Nat.not_le.mpr hq)
  have hin : (Jvm.Cond.initialized "java/lang/Throwable").before args s = true := hts _ (List.mem_filter.mp (kx_in 14 rfl)).1
  have hLU : kt_LU.before args s = true := hts _ (kx_mem 0 rfl)
  have hLV : kt_LV.before args s = true := hts _ (kx_mem 1 rfl)
  exact ⟨text, a, fun w hw => va_Nw.of (mv_Fo_tab kt_Fo hw) (hts w (mv_any_in (List.all_eq_true.mp kt_Fin w hw))), vk_R.of hr ha, va_Zqof hLU hin hU hA, va_Zqof hLV hin hV hA, mv_Ls.of hLU hA, mv_Ls.of hLV hA⟩
set_option maxHeartbeats 4000000 in
/-- from the entry, for every script of at most 4 ints, the law comes to its end with true -/
theorem whole_start {p : Program} {e : Env} {s : State} {m : MethodId} {below : List Frame} {meth : Method} {c : Code} (l : Launch) (hfl : l.flags.contains noTraceFlag = true) {b L : Nat} {xs : Nat → Int32} (hL : L ≤ 4) (C0 : lw_At p s m meth c b L xs) : W p l e room_1 s m #[Value.ref b] below meth c s.heap [] 0 0 (lw_Z below #[Value.ref b] s) (entryFrame m ([Value.ref b] : List Value).toArray 7) := by
  obtain ⟨hx, hb, hr, hml, hown, hts, hX, hbl, hlocks, hgv, hnm⟩ := id C0
  have htk : ∀ w ∈ kjTs, w.before #[Value.ref b] s = true := fun w hw => hts w (List.mem_filter.mp hw).1
  have hch : ∀ k : Nat, ∃ q : ClassId × (Nat → Nat), ∀ c : vw_C, kjCl[k]? = some c → u_Kn s c.1 c.2.1 c.2.2 q.1 q.2 := by
    intro k
    cases hk : kjCl[k]? with
    | none => exact ⟨(0, fun _ => 0), fun c hc => by cases hc⟩
    | some q =>
      obtain ⟨cC, iS, h⟩ := u_known (C := q.1) (T := q.2.1) (N := q.2.2) (n := q.2.2) htk (kjCl_ok k q.1 q.2.1 q.2.2 hk).1 (htk _ (kx_inst hk))
      exact ⟨(cC, iS), fun c hc => by cases hc; exact h⟩
  obtain ⟨f, hf⟩ := Classical.axiomOfChoice hch
  obtain ⟨a0, g0, f0⟩ := kx_arr (htk _ (kx_in 10 rfl))
  obtain ⟨a1, g1, f1⟩ := kx_arr (htk _ (kx_in 11 rfl))
  obtain ⟨a2, g2, f2⟩ := kx_arr (htk _ (kx_in 12 rfl))
  obtain ⟨a3, g3, f3⟩ := kx_arr (htk _ (kx_in 13 rfl))
  have hK : va_K (fun k => (f k).1, fun k => (f k).2) kjCl (mv_tys (fun k => match k with
    | 0 => a0
    | 1 => a1
    | 2 => a2
    | _ => a3)) s := by
    refine ⟨fun k q hq => hf k q hq, fun k q hk => ?_⟩
    match k, hk with
    | 0, hk => cases hk; exact ⟨g0, f0⟩
    | 1, hk => cases hk; exact ⟨g1, f1⟩
    | 2, hk => cases hk; exact ⟨g2, f2⟩
    | 3, hk => cases hk; exact ⟨g3, f3⟩
    | n + 4, hk => cases hk
  have hs := flat_of_before _ hgv
  have hU : kt_U.before #[Value.ref b] s = true := hs _ (by decide +kernel)
  have hV : kt_V.before #[Value.ref b] s = true := hs _ (by decide +kernel)
  have hx1 := kx_ex hts hU hV (hts _ (kx_mem 2 rfl)) (hs _ (by decide +kernel))
  have hx2 := kx_ex hts hU hV (hts _ (kx_mem 3 rfl)) (hs _ (by decide +kernel))
  have C : kw_C p s m meth c b L xs (fun k => (f k).1, fun k => (f k).2) (fun k => match k with
    | 0 => a0
    | 1 => a1
    | 2 => a2
    | _ => a3) (fun k => if k < 100000 then s.heap.size + k else b) :=
    ⟨⟨hx, hb, hml, hown, htk, fun w hw => by
      have h1 := List.mem_filter.mp hw
      rcases mv_nest_all w hw with ⟨_, _, _, _, _, _, rfl⟩ | ⟨_, _, _, _, rfl⟩
      · exact va_Nw.of rfl (hts _ h1.1)
      · exact va_Nw.of rfl (hts _ h1.1), hK, fun q hq => hq, hlocks, hr, hnm, fun t q hq => by cases hq⟩, hX, hbl, rfl⟩
  have K := kw_start (l := l) (e := e) (below := below) C hL hfl hx1 hx2
  have hl := lv_entry ([Value.ref b]) (n := 7) (Nat.le_of_ble_eq_true rfl)
  rw [lg_entry_eq]
  refine K s.heap [] _ ⟨fun k q h => (by cases h), ⟨fun i j p q h => (by cases h), fun k q h => (by cases h)⟩, va_S.rf, rfl, fun k _ h2 => ?_⟩ ⟨⟨hl.1, hl.2.1, fun q hq => (by cases hq)⟩, rfl, fun j v hj => ?_⟩ ⟨Nat.zero_le _, Nat.zero_le _⟩
  · show (if k < 100000 then s.heap.size + k else b) + 0 = s.heap.size + k
    rw [if_pos h2]
    rfl
  · match j, hj with
    | 0, hj => cases hj; exact hl.2.2 (0, .ref b) (List.Mem.head _)
    | 1, hj => cases hj
    | 2, hj => cases hj
    | 3, hj => cases hj
    | 4, hj => cases hj
    | 5, hj => cases hj
    | 6, hj => cases hj
    | j + 7, hj => cases hj
set_option maxHeartbeats 4000000 in
theorem lw_walk (l : Launch) (hfl : l.flags.contains noTraceFlag = true) (b : Addr) (xs : List Int32) : MetFree l x (headSpec (Jvm.Cond.code x code maxLocals ret :: tables_1) room_1) (lw_P b xs) (fun _ _ _ _ _ => True) lw_Q := by
  refine MetFree.of_bodyS (code := code) (maxLocals := maxLocals) (ret := ret) (by decide) ?_ ?_
  · intro args s m h hn
    obtain ⟨meth, c, h1, h2, h3, h4, h5, h6, -, -⟩ := Cond.code_spec hn (atoms_spec (ws := Jvm.Cond.code x code maxLocals ret :: tables_1) h _ List.mem_cons_self)
    exact ⟨meth, c, h1, h2, h3, h4, h5, h6⟩
  · intro p e s m args below meth c s₁ B hml0 hP _
    obtain ⟨rfl, hx, hbd, hgv⟩ := hP
    obtain ⟨scr, harrAt, hlist, hof, hsmall⟩ := hx
    obtain ⟨hcb, hkn, -, -⟩ := State.arrayAt?_spec harrAt
    have hown : s.vm.findClass R_law = some m.cls := findClass_of_methodNamed B.named
    have hts0 : ∀ c ∈ (Jvm.Cond.code x code maxLocals ret :: tables_1), c.before #[Value.ref b] s = true := atoms_spec (ws := Jvm.Cond.code x code maxLocals ret :: tables_1) B.pre
    have hts : ∀ w ∈ lw_tbl, w.before #[Value.ref b] s = true := k2_hts_sels lw_privs (fun w hw => hts0 w (List.mem_cons_of_mem _ hw)) lw_privs_ok
    have hml : c.maxLocals = 7 := B.maxLocals_eq (hts0 _ List.mem_cons_self)
    have X₀ : Stand p l e room_1 s m #[Value.ref b] below meth c s₁ [] 0 0 := Stand.of_body B
    have hh0 : s₁.heap = s.heap := by rw [B.state]; rfl
    have hsz : scr.slots.size = xs.length := by rw [← Array.length_toList, hlist, List.length_map]
    have hval : ∀ j : Nat, j < xs.length → scr.slots[j]? = some (.int (xs.getD j 0)) := fun j hj => by
      rw [← Array.getElem?_toList, hlist]
      simp [hj]
    have hbl : b < s.heap.size := (Array.getElem?_eq_some_iff.mp hcb).1
    have hX : va_X b xs.length (fun j => xs.getD j 0) s s.heap := ⟨scr, hcb, hof, hkn, hsz, hval⟩
    have K : W p l e room_1 s m #[Value.ref b] below meth c s₁.heap [] 0 0 (lw_Z below #[Value.ref b] s) (entryFrame m ([Value.ref b] : List Value).toArray 7) := by
      rw [hh0]
      exact whole_start l hfl hbd ⟨B.exec, B.bytes, B.returns, hml, hown, hts, hX, hbl, B.notSynchronized, hgv, (name_of_methodNamed B.named B.method).1⟩
    obtain ⟨t, a1, o, b1, b2, b3⟩ := K s₁ rfl X₀
    exact ⟨t, o, a1, b1, b2, b3⟩
theorem lw_pre_spec {args : Array Value} {s : State} (h : (Jvm.Cond.and given_1 narrow_1).before args s = true) (hr : rest_1_c.before args s = true) : ∃ (b : Addr) (xs : List Int32), lw_P b xs args s := by
  have hs := flat_of_before _ h
  have hq := flat_of_before _ hr
  have hc : (Cond.count 1).before args s = true := hs _ (by decide +kernel)
  have harr : (Cond.arrayOf (.arg 0) .int).before args s = true := hs _ (by decide +kernel)
  have hle : (Cond.le (.length (.arg 0)) (.int 4)).before args s = true := hs _ (by decide +kernel)
  have hlen : (Cond.isInt (.length (.arg 0))).before args s = true := hq _ (by decide +kernel)
  have hall : (Cond.all (.arg 0) (.isInt (.elem (.arg 0) (.index 0)))).before args s = true := hq _ (by decide +kernel)
  obtain ⟨b, xs, hb, hx⟩ := State.ints_of_pre rfl harr hlen hall
  have hsm : xs.length < 2 ^ 31 := hx.choose_spec.2.2.2
  have hev : (Term.length (.arg 0)).eval args s none [] s = some (.int xs.length.toInt32) := hx.length_eval hb
  have hv := Cond.le_ints hev (show (Term.int 4).eval args s none [] s = some (.int 4) from rfl)
  have hd : xs.length.toInt32 ≤ 4 := by
    simpa [Cond.before, Cond.holds, hv] using hle
  have hN : xs.length ≤ 4 := (Int32.ofNat_le_ofNat hsm (by decide)).mp (show Int32.ofNat xs.length ≤ Int32.ofNat 4 from hd)
  exact ⟨b, xs, Cond.one_arg hc (show args[0]? = some (.ref b) from hb), hx, hN, h⟩
theorem lw_comes (l : Launch) (hfl : l.flags.contains noTraceFlag = true) : Comes l x (Jvm.Cond.code x code maxLocals ret :: tables_1) room_1 (fun tb e args s => Calls_1 tb e args s ∧ rest_1 tb e args s ∧ Pre_1 tb e args s)
    (fun _ _ args s o t => lw_Q args s o t) := by
  intro p e ha hc hk s m args below hf hfit hheap happ hpre
  obtain ⟨b, xs, hP⟩ := lw_pre_spec hpre.2.2 hpre.2.1
  obtain ⟨k, o, h1, h2, h3, hQ⟩ := lw_walk l hfl b xs p e ha hc hk s m args below hf ((Spec.applies_iff_loose hf).mp happ).1 hP trivial
  exact ⟨k, o, h1, h2, h3, hQ⟩
theorem lw_frame {s t : State} {o : Outcome} {args : Array Value} (h : Framed s o t [] 86 54544) :
    Framed s o t (fieldLocs frame_1_writes args s ++ arrayLocs frame_1_arrays args s ++ staticLocs frame_1_statics s) 86 54544 := h
theorem lw_limb (L : Cond) (hL : ∀ (args : Array Value) (s t : State), L.after args s (.returned (some (.int 1))) t = true) :
    ArmFor flags0 classFile x code maxLocals ret World_1 tables_1 room_1 Calls_1 rest_1 Pre_1
      (fun tb e a s o t => postC L tb e a s o t ∧ Framed s o t (fieldLocs frame_1_writes a s ++ arrayLocs frame_1_arrays a s ++ staticLocs frame_1_statics s) 86 54544) := by
  intro l hf0 _ _ p e ha hc hk s m args below hf hfit hheap happ hpre
  obtain ⟨k, o, h1, h2, h3, rfl, hF⟩ := lw_comes l (by rw [hf0]; decide) p e ha hc hk s m args below hf hfit hheap happ hpre
  exact ⟨k, _, h1, h2, h3, hL args s _, lw_frame hF⟩
theorem i_vc : Claimed_1_1 ∧ Claimed_1_2 := ⟨lw_limb limb_1_1 (fun args s t => by simp [limb_1_1, Cond.after, Cond.holds, Cond.value]), lw_limb limb_1_2 (fun args s t => Cond.after_iff.mpr (by
  first | (rw [show limb_1_2 = Cond.eq .result (.int 1) from rfl, Cond.eq_ints (x := 1) (y := 1) rfl rfl]; simp; done) | (simp [limb_1_2, Cond.value, Term.eval]; done)))⟩
end
