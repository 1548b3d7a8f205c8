section
-- ===== PART A: goes FIRST, ahead of the names: the tables' words, and 'selects' of the private methods out of them =====
/-- a private method of a class that the tables say can be made, by its rows of tables_1 -/
def lw_okq (q : MethodName × Nat) : Prop := (q.1.cls ≠ "java/lang/invoke/MethodHandle" ∧ q.1.cls ≠ "java/lang/invoke/VarHandle") ∧ Cond.instantiable q.1.cls q.2 ∈ tables_1 ∧ Cond.privateMethod q.1 ∈ tables_1 ∧ Cond.instanceMethod q.1 ∈ tables_1
theorem lw_p0 : lw_okq (⟨"KindJudge$Flow", "frameAhead", "(II)J"⟩, 12) := ⟨⟨by decide +kernel, by decide +kernel⟩, List.mem_of_getElem? (i := 170) (by decide +kernel), List.mem_of_getElem? (i := 291) (by decide +kernel), List.mem_of_getElem? (i := 292) (by decide +kernel)⟩
theorem lw_p1 : lw_okq (⟨"KindJudge", "mayBeComeTo", "(II)Z"⟩, 6) := ⟨⟨by decide +kernel, by decide +kernel⟩, List.mem_of_getElem? (i := 18) (by decide +kernel), List.mem_of_getElem? (i := 303) (by decide +kernel), List.mem_of_getElem? (i := 304) (by decide +kernel)⟩
theorem lw_p2 : lw_okq (⟨"KindJudge", "highestBehind", "(I)I"⟩, 6) := ⟨⟨by decide +kernel, by decide +kernel⟩, List.mem_of_getElem? (i := 18) (by decide +kernel), List.mem_of_getElem? (i := 349) (by decide +kernel), List.mem_of_getElem? (i := 350) (by decide +kernel)⟩
theorem lw_p3 : lw_okq (⟨"KindJudge$Flow", "open", "(II)V"⟩, 12) := ⟨⟨by decide +kernel, by decide +kernel⟩, List.mem_of_getElem? (i := 170) (by decide +kernel), List.mem_of_getElem? (i := 357) (by decide +kernel), List.mem_of_getElem? (i := 358) (by decide +kernel)⟩
theorem lw_p4 : lw_okq (⟨"KindJudge", "instructions", "(IZ)I"⟩, 6) := ⟨⟨by decide +kernel, by decide +kernel⟩, List.mem_of_getElem? (i := 18) (by decide +kernel), List.mem_of_getElem? (i := 388) (by decide +kernel), List.mem_of_getElem? (i := 389) (by decide +kernel)⟩
theorem lw_p5 : lw_okq (⟨"KindJudge", "findFault", "()V"⟩, 6) := ⟨⟨by decide +kernel, by decide +kernel⟩, List.mem_of_getElem? (i := 18) (by decide +kernel), List.mem_of_getElem? (i := 467) (by decide +kernel), List.mem_of_getElem? (i := 468) (by decide +kernel)⟩
theorem lw_p6 : lw_okq (⟨"KindJudge", "keepFault", "(III)V"⟩, 6) := ⟨⟨by decide +kernel, by decide +kernel⟩, List.mem_of_getElem? (i := 18) (by decide +kernel), List.mem_of_getElem? (i := 471) (by decide +kernel), List.mem_of_getElem? (i := 472) (by decide +kernel)⟩
theorem lw_p7 : lw_okq (⟨"KindJudge$Classes", "readOne", "(LKindJudge$Reader;I)V"⟩, 5) := ⟨⟨by decide +kernel, by decide +kernel⟩, List.mem_of_getElem? (i := 54) (by decide +kernel), List.mem_of_getElem? (i := 504) (by decide +kernel), List.mem_of_getElem? (i := 505) (by decide +kernel)⟩
theorem lw_p8 : lw_okq (⟨"KindJudge$Layout", "readMethod", "(I)V"⟩, 9) := ⟨⟨by decide +kernel, by decide +kernel⟩, List.mem_of_getElem? (i := 48) (by decide +kernel), List.mem_of_getElem? (i := 524) (by decide +kernel), List.mem_of_getElem? (i := 525) (by decide +kernel)⟩
theorem lw_p9 : lw_okq (⟨"KindJudge$Layout", "readTableOf", "(I)V"⟩, 9) := ⟨⟨by decide +kernel, by decide +kernel⟩, List.mem_of_getElem? (i := 48) (by decide +kernel), List.mem_of_getElem? (i := 538) (by decide +kernel), List.mem_of_getElem? (i := 539) (by decide +kernel)⟩
theorem lw_p10 : lw_okq (⟨"KindJudge$Layout", "isGoodFor", "(III)Z"⟩, 9) := ⟨⟨by decide +kernel, by decide +kernel⟩, List.mem_of_getElem? (i := 48) (by decide +kernel), List.mem_of_getElem? (i := 544) (by decide +kernel), List.mem_of_getElem? (i := 545) (by decide +kernel)⟩
theorem lw_p11 : lw_okq (⟨"KindJudge$Code", "markBeginnings", "(I)V"⟩, 3) := ⟨⟨by decide +kernel, by decide +kernel⟩, List.mem_of_getElem? (i := 153) (by decide +kernel), List.mem_of_getElem? (i := 568) (by decide +kernel), List.mem_of_getElem? (i := 569) (by decide +kernel)⟩
theorem lw_p12 : lw_okq (⟨"KindJudge$Code", "isFaulty", "(II)Z"⟩, 3) := ⟨⟨by decide +kernel, by decide +kernel⟩, List.mem_of_getElem? (i := 153) (by decide +kernel), List.mem_of_getElem? (i := 573) (by decide +kernel), List.mem_of_getElem? (i := 574) (by decide +kernel)⟩
theorem lw_p13 : lw_okq (⟨"KindJudge$Code", "namesNothing", "(II)Z"⟩, 3) := ⟨⟨by decide +kernel, by decide +kernel⟩, List.mem_of_getElem? (i := 153) (by decide +kernel), List.mem_of_getElem? (i := 577) (by decide +kernel), List.mem_of_getElem? (i := 578) (by decide +kernel)⟩
theorem lw_p14 : lw_okq (⟨"KindJudge$Flow", "forget", "(II)V"⟩, 12) := ⟨⟨by decide +kernel, by decide +kernel⟩, List.mem_of_getElem? (i := 170) (by decide +kernel), List.mem_of_getElem? (i := 591) (by decide +kernel), List.mem_of_getElem? (i := 592) (by decide +kernel)⟩
theorem lw_p15 : lw_okq (⟨"KindJudge$Flow", "firstFrame", "(I)J"⟩, 12) := ⟨⟨by decide +kernel, by decide +kernel⟩, List.mem_of_getElem? (i := 170) (by decide +kernel), List.mem_of_getElem? (i := 595) (by decide +kernel), List.mem_of_getElem? (i := 596) (by decide +kernel)⟩
def lw_privs_1 : List (MethodName × Nat) := [(⟨"KindJudge$Flow", "frameAhead", "(II)J"⟩, 12), (⟨"KindJudge", "mayBeComeTo", "(II)Z"⟩, 6), (⟨"KindJudge", "highestBehind", "(I)I"⟩, 6), (⟨"KindJudge$Flow", "open", "(II)V"⟩, 12), (⟨"KindJudge", "instructions", "(IZ)I"⟩, 6), (⟨"KindJudge", "findFault", "()V"⟩, 6), (⟨"KindJudge", "keepFault", "(III)V"⟩, 6), (⟨"KindJudge$Classes", "readOne", "(LKindJudge$Reader;I)V"⟩, 5), (⟨"KindJudge$Layout", "readMethod", "(I)V"⟩, 9), (⟨"KindJudge$Layout", "readTableOf", "(I)V"⟩, 9), (⟨"KindJudge$Layout", "isGoodFor", "(III)Z"⟩, 9), (⟨"KindJudge$Code", "markBeginnings", "(I)V"⟩, 3), (⟨"KindJudge$Code", "isFaulty", "(II)Z"⟩, 3), (⟨"KindJudge$Code", "namesNothing", "(II)Z"⟩, 3), (⟨"KindJudge$Flow", "forget", "(II)V"⟩, 12), (⟨"KindJudge$Flow", "firstFrame", "(I)J"⟩, 12)]
theorem lw_r1 : ∀ q ∈ lw_privs_1, lw_okq q := List.forall_mem_cons.mpr ⟨lw_p0, List.forall_mem_cons.mpr ⟨lw_p1, List.forall_mem_cons.mpr ⟨lw_p2, List.forall_mem_cons.mpr ⟨lw_p3, List.forall_mem_cons.mpr ⟨lw_p4, List.forall_mem_cons.mpr ⟨lw_p5, List.forall_mem_cons.mpr ⟨lw_p6, List.forall_mem_cons.mpr ⟨lw_p7, List.forall_mem_cons.mpr ⟨lw_p8, List.forall_mem_cons.mpr ⟨lw_p9, List.forall_mem_cons.mpr ⟨lw_p10, List.forall_mem_cons.mpr ⟨lw_p11, List.forall_mem_cons.mpr ⟨lw_p12, List.forall_mem_cons.mpr ⟨lw_p13, List.forall_mem_cons.mpr ⟨lw_p14, List.forall_mem_cons.mpr ⟨lw_p15, fun _ h => absurd h List.not_mem_nil⟩⟩⟩⟩⟩⟩⟩⟩⟩⟩⟩⟩⟩⟩⟩⟩
theorem lw_p16 : lw_okq (⟨"KindJudge$Flow", "arrive", "(IIIJ)V"⟩, 12) := ⟨⟨by decide +kernel, by decide +kernel⟩, List.mem_of_getElem? (i := 170) (by decide +kernel), List.mem_of_getElem? (i := 606) (by decide +kernel), List.mem_of_getElem? (i := 607) (by decide +kernel)⟩
theorem lw_p17 : lw_okq (⟨"KindJudge$Flow", "bothFrames", "(JJ)J"⟩, 12) := ⟨⟨by decide +kernel, by decide +kernel⟩, List.mem_of_getElem? (i := 170) (by decide +kernel), List.mem_of_getElem? (i := 610) (by decide +kernel), List.mem_of_getElem? (i := 611) (by decide +kernel)⟩
theorem lw_p18 : lw_okq (⟨"KindJudge$Flow", "spread", "(II)V"⟩, 12) := ⟨⟨by decide +kernel, by decide +kernel⟩, List.mem_of_getElem? (i := 170) (by decide +kernel), List.mem_of_getElem? (i := 616) (by decide +kernel), List.mem_of_getElem? (i := 617) (by decide +kernel)⟩
theorem lw_p19 : lw_okq (⟨"KindJudge$Flow", "frameBehind", "()J"⟩, 12) := ⟨⟨by decide +kernel, by decide +kernel⟩, List.mem_of_getElem? (i := 170) (by decide +kernel), List.mem_of_getElem? (i := 620) (by decide +kernel), List.mem_of_getElem? (i := 621) (by decide +kernel)⟩
theorem lw_p20 : lw_okq (⟨"KindJudge$Flow", "taken", "(I)I"⟩, 12) := ⟨⟨by decide +kernel, by decide +kernel⟩, List.mem_of_getElem? (i := 170) (by decide +kernel), List.mem_of_getElem? (i := 624) (by decide +kernel), List.mem_of_getElem? (i := 625) (by decide +kernel)⟩
theorem lw_p21 : lw_okq (⟨"KindJudge$Flow", "kindPut", "()I"⟩, 12) := ⟨⟨by decide +kernel, by decide +kernel⟩, List.mem_of_getElem? (i := 170) (by decide +kernel), List.mem_of_getElem? (i := 628) (by decide +kernel), List.mem_of_getElem? (i := 629) (by decide +kernel)⟩
theorem lw_p22 : lw_okq (⟨"KindJudge$Flow", "takesWhatIsFit", "(I)Z"⟩, 12) := ⟨⟨by decide +kernel, by decide +kernel⟩, List.mem_of_getElem? (i := 170) (by decide +kernel), List.mem_of_getElem? (i := 642) (by decide +kernel), List.mem_of_getElem? (i := 643) (by decide +kernel)⟩
theorem lw_p23 : lw_okq (⟨"KindJudge$Flow", "areInts", "(I)Z"⟩, 12) := ⟨⟨by decide +kernel, by decide +kernel⟩, List.mem_of_getElem? (i := 170) (by decide +kernel), List.mem_of_getElem? (i := 646) (by decide +kernel), List.mem_of_getElem? (i := 647) (by decide +kernel)⟩
theorem lw_p24 : lw_okq (⟨"KindJudge$Flow", "fitsItsTypes", "(III)Z"⟩, 12) := ⟨⟨by decide +kernel, by decide +kernel⟩, List.mem_of_getElem? (i := 170) (by decide +kernel), List.mem_of_getElem? (i := 653) (by decide +kernel), List.mem_of_getElem? (i := 654) (by decide +kernel)⟩
theorem lw_p25 : lw_okq (⟨"KindJudge$Flow", "areParameters", "(LKindJudge$Signatures;I)Z"⟩, 12) := ⟨⟨by decide +kernel, by decide +kernel⟩, List.mem_of_getElem? (i := 170) (by decide +kernel), List.mem_of_getElem? (i := 658) (by decide +kernel), List.mem_of_getElem? (i := 659) (by decide +kernel)⟩
theorem lw_p26 : lw_okq (⟨"java/lang/Throwable", "fillInStackTrace", "(I)Ljava/lang/Throwable;"⟩, 6) := ⟨⟨by decide +kernel, by decide +kernel⟩, List.mem_of_getElem? (i := 704) (by decide +kernel), List.mem_of_getElem? (i := 702) (by decide +kernel), List.mem_of_getElem? (i := 703) (by decide +kernel)⟩
theorem lw_p27 : lw_okq (⟨"KindJudgeModel", "isFine", "()Z"⟩, 37) := ⟨⟨by decide +kernel, by decide +kernel⟩, List.mem_of_getElem? (i := 761) (by decide +kernel), List.mem_of_getElem? (i := 892) (by decide +kernel), List.mem_of_getElem? (i := 893) (by decide +kernel)⟩
theorem lw_p28 : lw_okq (⟨"KindJudgeModel", "takeApart", "()Z"⟩, 37) := ⟨⟨by decide +kernel, by decide +kernel⟩, List.mem_of_getElem? (i := 761) (by decide +kernel), List.mem_of_getElem? (i := 896) (by decide +kernel), List.mem_of_getElem? (i := 897) (by decide +kernel)⟩
theorem lw_p29 : lw_okq (⟨"KindJudgeModel", "next", "(II)I"⟩, 37) := ⟨⟨by decide +kernel, by decide +kernel⟩, List.mem_of_getElem? (i := 761) (by decide +kernel), List.mem_of_getElem? (i := 900) (by decide +kernel), List.mem_of_getElem? (i := 901) (by decide +kernel)⟩
theorem lw_p30 : lw_okq (⟨"KindJudgeModel", "readClass", "(I)V"⟩, 37) := ⟨⟨by decide +kernel, by decide +kernel⟩, List.mem_of_getElem? (i := 761) (by decide +kernel), List.mem_of_getElem? (i := 907) (by decide +kernel), List.mem_of_getElem? (i := 908) (by decide +kernel)⟩
theorem lw_p31 : lw_okq (⟨"KindJudgeModel", "readType", "(Z)I"⟩, 37) := ⟨⟨by decide +kernel, by decide +kernel⟩, List.mem_of_getElem? (i := 761) (by decide +kernel), List.mem_of_getElem? (i := 911) (by decide +kernel), List.mem_of_getElem? (i := 912) (by decide +kernel)⟩
def lw_privs_2 : List (MethodName × Nat) := [(⟨"KindJudge$Flow", "arrive", "(IIIJ)V"⟩, 12), (⟨"KindJudge$Flow", "bothFrames", "(JJ)J"⟩, 12), (⟨"KindJudge$Flow", "spread", "(II)V"⟩, 12), (⟨"KindJudge$Flow", "frameBehind", "()J"⟩, 12), (⟨"KindJudge$Flow", "taken", "(I)I"⟩, 12), (⟨"KindJudge$Flow", "kindPut", "()I"⟩, 12), (⟨"KindJudge$Flow", "takesWhatIsFit", "(I)Z"⟩, 12), (⟨"KindJudge$Flow", "areInts", "(I)Z"⟩, 12), (⟨"KindJudge$Flow", "fitsItsTypes", "(III)Z"⟩, 12), (⟨"KindJudge$Flow", "areParameters", "(LKindJudge$Signatures;I)Z"⟩, 12), (⟨"java/lang/Throwable", "fillInStackTrace", "(I)Ljava/lang/Throwable;"⟩, 6), (⟨"KindJudgeModel", "isFine", "()Z"⟩, 37), (⟨"KindJudgeModel", "takeApart", "()Z"⟩, 37), (⟨"KindJudgeModel", "next", "(II)I"⟩, 37), (⟨"KindJudgeModel", "readClass", "(I)V"⟩, 37), (⟨"KindJudgeModel", "readType", "(Z)I"⟩, 37)]
theorem lw_r2 : ∀ q ∈ lw_privs_2, lw_okq q := List.forall_mem_cons.mpr ⟨lw_p16, List.forall_mem_cons.mpr ⟨lw_p17, List.forall_mem_cons.mpr ⟨lw_p18, List.forall_mem_cons.mpr ⟨lw_p19, List.forall_mem_cons.mpr ⟨lw_p20, List.forall_mem_cons.mpr ⟨lw_p21, List.forall_mem_cons.mpr ⟨lw_p22, List.forall_mem_cons.mpr ⟨lw_p23, List.forall_mem_cons.mpr ⟨lw_p24, List.forall_mem_cons.mpr ⟨lw_p25, List.forall_mem_cons.mpr ⟨lw_p26, List.forall_mem_cons.mpr ⟨lw_p27, List.forall_mem_cons.mpr ⟨lw_p28, List.forall_mem_cons.mpr ⟨lw_p29, List.forall_mem_cons.mpr ⟨lw_p30, List.forall_mem_cons.mpr ⟨lw_p31, fun _ h => absurd h List.not_mem_nil⟩⟩⟩⟩⟩⟩⟩⟩⟩⟩⟩⟩⟩⟩⟩⟩
theorem lw_p32 : lw_okq (⟨"KindJudgeModel", "readSelector", "(I)V"⟩, 37) := ⟨⟨by decide +kernel, by decide +kernel⟩, List.mem_of_getElem? (i := 761) (by decide +kernel), List.mem_of_getElem? (i := 915) (by decide +kernel), List.mem_of_getElem? (i := 916) (by decide +kernel)⟩
theorem lw_p33 : lw_okq (⟨"KindJudgeModel", "readMethod", "(I)V"⟩, 37) := ⟨⟨by decide +kernel, by decide +kernel⟩, List.mem_of_getElem? (i := 761) (by decide +kernel), List.mem_of_getElem? (i := 919) (by decide +kernel), List.mem_of_getElem? (i := 920) (by decide +kernel)⟩
theorem lw_p34 : lw_okq (⟨"KindJudgeModel", "readTable", "(II)V"⟩, 37) := ⟨⟨by decide +kernel, by decide +kernel⟩, List.mem_of_getElem? (i := 761) (by decide +kernel), List.mem_of_getElem? (i := 923) (by decide +kernel), List.mem_of_getElem? (i := 924) (by decide +kernel)⟩
theorem lw_p35 : lw_okq (⟨"KindJudgeModel", "mayStand", "(III)Z"⟩, 37) := ⟨⟨by decide +kernel, by decide +kernel⟩, List.mem_of_getElem? (i := 761) (by decide +kernel), List.mem_of_getElem? (i := 927) (by decide +kernel), List.mem_of_getElem? (i := 928) (by decide +kernel)⟩
theorem lw_p36 : lw_okq (⟨"KindJudgeModel", "isOf", "(II)Z"⟩, 37) := ⟨⟨by decide +kernel, by decide +kernel⟩, List.mem_of_getElem? (i := 761) (by decide +kernel), List.mem_of_getElem? (i := 931) (by decide +kernel), List.mem_of_getElem? (i := 932) (by decide +kernel)⟩
theorem lw_p37 : lw_okq (⟨"KindJudgeModel", "isBelow", "(II)Z"⟩, 37) := ⟨⟨by decide +kernel, by decide +kernel⟩, List.mem_of_getElem? (i := 761) (by decide +kernel), List.mem_of_getElem? (i := 935) (by decide +kernel), List.mem_of_getElem? (i := 936) (by decide +kernel)⟩
theorem lw_p38 : lw_okq (⟨"KindJudgeModel", "findFault", "(III)Z"⟩, 37) := ⟨⟨by decide +kernel, by decide +kernel⟩, List.mem_of_getElem? (i := 761) (by decide +kernel), List.mem_of_getElem? (i := 939) (by decide +kernel), List.mem_of_getElem? (i := 940) (by decide +kernel)⟩
theorem lw_p39 : lw_okq (⟨"KindJudgeModel", "findBegins", "(I)V"⟩, 37) := ⟨⟨by decide +kernel, by decide +kernel⟩, List.mem_of_getElem? (i := 761) (by decide +kernel), List.mem_of_getElem? (i := 943) (by decide +kernel), List.mem_of_getElem? (i := 944) (by decide +kernel)⟩
theorem lw_p40 : lw_okq (⟨"KindJudgeModel", "longOf", "(II)I"⟩, 37) := ⟨⟨by decide +kernel, by decide +kernel⟩, List.mem_of_getElem? (i := 761) (by decide +kernel), List.mem_of_getElem? (i := 947) (by decide +kernel), List.mem_of_getElem? (i := 948) (by decide +kernel)⟩
theorem lw_p41 : lw_okq (⟨"KindJudgeModel", "byteAt", "(II)I"⟩, 37) := ⟨⟨by decide +kernel, by decide +kernel⟩, List.mem_of_getElem? (i := 761) (by decide +kernel), List.mem_of_getElem? (i := 951) (by decide +kernel), List.mem_of_getElem? (i := 952) (by decide +kernel)⟩
theorem lw_p42 : lw_okq (⟨"KindJudgeModel", "isGood", "(II)Z"⟩, 37) := ⟨⟨by decide +kernel, by decide +kernel⟩, List.mem_of_getElem? (i := 761) (by decide +kernel), List.mem_of_getElem? (i := 958) (by decide +kernel), List.mem_of_getElem? (i := 959) (by decide +kernel)⟩
theorem lw_p43 : lw_okq (⟨"KindJudgeModel", "isPlace", "(II)Z"⟩, 37) := ⟨⟨by decide +kernel, by decide +kernel⟩, List.mem_of_getElem? (i := 761) (by decide +kernel), List.mem_of_getElem? (i := 962) (by decide +kernel), List.mem_of_getElem? (i := 963) (by decide +kernel)⟩
theorem lw_p44 : lw_okq (⟨"KindJudgeModel", "flow", "(I)V"⟩, 37) := ⟨⟨by decide +kernel, by decide +kernel⟩, List.mem_of_getElem? (i := 761) (by decide +kernel), List.mem_of_getElem? (i := 966) (by decide +kernel), List.mem_of_getElem? (i := 967) (by decide +kernel)⟩
theorem lw_p45 : lw_okq (⟨"KindJudgeModel", "merge", "(IIZ)Z"⟩, 37) := ⟨⟨by decide +kernel, by decide +kernel⟩, List.mem_of_getElem? (i := 761) (by decide +kernel), List.mem_of_getElem? (i := 970) (by decide +kernel), List.mem_of_getElem? (i := 971) (by decide +kernel)⟩
theorem lw_p46 : lw_okq (⟨"KindJudgeModel", "joined", "(II)I"⟩, 37) := ⟨⟨by decide +kernel, by decide +kernel⟩, List.mem_of_getElem? (i := 761) (by decide +kernel), List.mem_of_getElem? (i := 974) (by decide +kernel), List.mem_of_getElem? (i := 975) (by decide +kernel)⟩
theorem lw_p47 : lw_okq (⟨"KindJudgeModel", "goOn", "(II)Z"⟩, 37) := ⟨⟨by decide +kernel, by decide +kernel⟩, List.mem_of_getElem? (i := 761) (by decide +kernel), List.mem_of_getElem? (i := 978) (by decide +kernel), List.mem_of_getElem? (i := 979) (by decide +kernel)⟩
def lw_privs_3 : List (MethodName × Nat) := [(⟨"KindJudgeModel", "readSelector", "(I)V"⟩, 37), (⟨"KindJudgeModel", "readMethod", "(I)V"⟩, 37), (⟨"KindJudgeModel", "readTable", "(II)V"⟩, 37), (⟨"KindJudgeModel", "mayStand", "(III)Z"⟩, 37), (⟨"KindJudgeModel", "isOf", "(II)Z"⟩, 37), (⟨"KindJudgeModel", "isBelow", "(II)Z"⟩, 37), (⟨"KindJudgeModel", "findFault", "(III)Z"⟩, 37), (⟨"KindJudgeModel", "findBegins", "(I)V"⟩, 37), (⟨"KindJudgeModel", "longOf", "(II)I"⟩, 37), (⟨"KindJudgeModel", "byteAt", "(II)I"⟩, 37), (⟨"KindJudgeModel", "isGood", "(II)Z"⟩, 37), (⟨"KindJudgeModel", "isPlace", "(II)Z"⟩, 37), (⟨"KindJudgeModel", "flow", "(I)V"⟩, 37), (⟨"KindJudgeModel", "merge", "(IIZ)Z"⟩, 37), (⟨"KindJudgeModel", "joined", "(II)I"⟩, 37), (⟨"KindJudgeModel", "goOn", "(II)Z"⟩, 37)]
theorem lw_r3 : ∀ q ∈ lw_privs_3, lw_okq q := List.forall_mem_cons.mpr ⟨lw_p32, List.forall_mem_cons.mpr ⟨lw_p33, List.forall_mem_cons.mpr ⟨lw_p34, List.forall_mem_cons.mpr ⟨lw_p35, List.forall_mem_cons.mpr ⟨lw_p36, List.forall_mem_cons.mpr ⟨lw_p37, List.forall_mem_cons.mpr ⟨lw_p38, List.forall_mem_cons.mpr ⟨lw_p39, List.forall_mem_cons.mpr ⟨lw_p40, List.forall_mem_cons.mpr ⟨lw_p41, List.forall_mem_cons.mpr ⟨lw_p42, List.forall_mem_cons.mpr ⟨lw_p43, List.forall_mem_cons.mpr ⟨lw_p44, List.forall_mem_cons.mpr ⟨lw_p45, List.forall_mem_cons.mpr ⟨lw_p46, List.forall_mem_cons.mpr ⟨lw_p47, fun _ h => absurd h List.not_mem_nil⟩⟩⟩⟩⟩⟩⟩⟩⟩⟩⟩⟩⟩⟩⟩⟩
theorem lw_p48 : lw_okq (⟨"KindJudgeModel", "behind", "(II)V"⟩, 37) := ⟨⟨by decide +kernel, by decide +kernel⟩, List.mem_of_getElem? (i := 761) (by decide +kernel), List.mem_of_getElem? (i := 982) (by decide +kernel), List.mem_of_getElem? (i := 983) (by decide +kernel)⟩
theorem lw_p49 : lw_okq (⟨"KindJudgeModel", "takes", "(II)I"⟩, 37) := ⟨⟨by decide +kernel, by decide +kernel⟩, List.mem_of_getElem? (i := 761) (by decide +kernel), List.mem_of_getElem? (i := 986) (by decide +kernel), List.mem_of_getElem? (i := 987) (by decide +kernel)⟩
theorem lw_p50 : lw_okq (⟨"KindJudgeModel", "drop", "(I)V"⟩, 37) := ⟨⟨by decide +kernel, by decide +kernel⟩, List.mem_of_getElem? (i := 761) (by decide +kernel), List.mem_of_getElem? (i := 990) (by decide +kernel), List.mem_of_getElem? (i := 991) (by decide +kernel)⟩
theorem lw_p51 : lw_okq (⟨"KindJudgeModel", "popKind", "()I"⟩, 37) := ⟨⟨by decide +kernel, by decide +kernel⟩, List.mem_of_getElem? (i := 761) (by decide +kernel), List.mem_of_getElem? (i := 994) (by decide +kernel), List.mem_of_getElem? (i := 995) (by decide +kernel)⟩
theorem lw_p52 : lw_okq (⟨"KindJudgeModel", "pushKind", "(I)V"⟩, 37) := ⟨⟨by decide +kernel, by decide +kernel⟩, List.mem_of_getElem? (i := 761) (by decide +kernel), List.mem_of_getElem? (i := 998) (by decide +kernel), List.mem_of_getElem? (i := 999) (by decide +kernel)⟩
theorem lw_p53 : lw_okq (⟨"KindJudgeModel", "isWrong", "(II)Z"⟩, 37) := ⟨⟨by decide +kernel, by decide +kernel⟩, List.mem_of_getElem? (i := 761) (by decide +kernel), List.mem_of_getElem? (i := 1002) (by decide +kernel), List.mem_of_getElem? (i := 1003) (by decide +kernel)⟩
theorem lw_p54 : lw_okq (⟨"KindJudgeModel", "isFit", "(II)Z"⟩, 37) := ⟨⟨by decide +kernel, by decide +kernel⟩, List.mem_of_getElem? (i := 761) (by decide +kernel), List.mem_of_getElem? (i := 1009) (by decide +kernel), List.mem_of_getElem? (i := 1010) (by decide +kernel)⟩
theorem lw_p55 : lw_okq (⟨"KindJudgeModel", "resolve", "(II)I"⟩, 37) := ⟨⟨by decide +kernel, by decide +kernel⟩, List.mem_of_getElem? (i := 761) (by decide +kernel), List.mem_of_getElem? (i := 1013) (by decide +kernel), List.mem_of_getElem? (i := 1014) (by decide +kernel)⟩
theorem lw_p56 : lw_okq (⟨"KindJudgeModel", "again", "()V"⟩, 37) := ⟨⟨by decide +kernel, by decide +kernel⟩, List.mem_of_getElem? (i := 761) (by decide +kernel), List.mem_of_getElem? (i := 1017) (by decide +kernel), List.mem_of_getElem? (i := 1018) (by decide +kernel)⟩
theorem lw_p57 : lw_okq (⟨"KindJudgeModel", "raise", "(I)I"⟩, 37) := ⟨⟨by decide +kernel, by decide +kernel⟩, List.mem_of_getElem? (i := 761) (by decide +kernel), List.mem_of_getElem? (i := 1021) (by decide +kernel), List.mem_of_getElem? (i := 1022) (by decide +kernel)⟩
theorem lw_p58 : lw_okq (⟨"KindJudgeModel", "isBegun", "(II)Z"⟩, 37) := ⟨⟨by decide +kernel, by decide +kernel⟩, List.mem_of_getElem? (i := 761) (by decide +kernel), List.mem_of_getElem? (i := 1037) (by decide +kernel), List.mem_of_getElem? (i := 1038) (by decide +kernel)⟩
theorem lw_p59 : lw_okq (⟨"KindJudgeModel", "isMethod", "(I)Z"⟩, 37) := ⟨⟨by decide +kernel, by decide +kernel⟩, List.mem_of_getElem? (i := 761) (by decide +kernel), List.mem_of_getElem? (i := 1041) (by decide +kernel), List.mem_of_getElem? (i := 1042) (by decide +kernel)⟩
theorem lw_p60 : lw_okq (⟨"KindJudgeModel", "puts", "(II)I"⟩, 37) := ⟨⟨by decide +kernel, by decide +kernel⟩, List.mem_of_getElem? (i := 761) (by decide +kernel), List.mem_of_getElem? (i := 1045) (by decide +kernel), List.mem_of_getElem? (i := 1046) (by decide +kernel)⟩
theorem lw_p61 : lw_okq (⟨"KindJudgeModel", "isReached", "(II)Z"⟩, 37) := ⟨⟨by decide +kernel, by decide +kernel⟩, List.mem_of_getElem? (i := 761) (by decide +kernel), List.mem_of_getElem? (i := 1049) (by decide +kernel), List.mem_of_getElem? (i := 1050) (by decide +kernel)⟩
theorem lw_p62 : lw_okq (⟨"KindJudgeModel", "goesTo", "(III)Z"⟩, 37) := ⟨⟨by decide +kernel, by decide +kernel⟩, List.mem_of_getElem? (i := 761) (by decide +kernel), List.mem_of_getElem? (i := 1057) (by decide +kernel), List.mem_of_getElem? (i := 1058) (by decide +kernel)⟩
theorem lw_p63 : lw_okq (⟨"KindJudgeModel", "isKind", "(I)Z"⟩, 37) := ⟨⟨by decide +kernel, by decide +kernel⟩, List.mem_of_getElem? (i := 761) (by decide +kernel), List.mem_of_getElem? (i := 1069) (by decide +kernel), List.mem_of_getElem? (i := 1070) (by decide +kernel)⟩
def lw_privs_4 : List (MethodName × Nat) := [(⟨"KindJudgeModel", "behind", "(II)V"⟩, 37), (⟨"KindJudgeModel", "takes", "(II)I"⟩, 37), (⟨"KindJudgeModel", "drop", "(I)V"⟩, 37), (⟨"KindJudgeModel", "popKind", "()I"⟩, 37), (⟨"KindJudgeModel", "pushKind", "(I)V"⟩, 37), (⟨"KindJudgeModel", "isWrong", "(II)Z"⟩, 37), (⟨"KindJudgeModel", "isFit", "(II)Z"⟩, 37), (⟨"KindJudgeModel", "resolve", "(II)I"⟩, 37), (⟨"KindJudgeModel", "again", "()V"⟩, 37), (⟨"KindJudgeModel", "raise", "(I)I"⟩, 37), (⟨"KindJudgeModel", "isBegun", "(II)Z"⟩, 37), (⟨"KindJudgeModel", "isMethod", "(I)Z"⟩, 37), (⟨"KindJudgeModel", "puts", "(II)I"⟩, 37), (⟨"KindJudgeModel", "isReached", "(II)Z"⟩, 37), (⟨"KindJudgeModel", "goesTo", "(III)Z"⟩, 37), (⟨"KindJudgeModel", "isKind", "(I)Z"⟩, 37)]
theorem lw_r4 : ∀ q ∈ lw_privs_4, lw_okq q := List.forall_mem_cons.mpr ⟨lw_p48, List.forall_mem_cons.mpr ⟨lw_p49, List.forall_mem_cons.mpr ⟨lw_p50, List.forall_mem_cons.mpr ⟨lw_p51, List.forall_mem_cons.mpr ⟨lw_p52, List.forall_mem_cons.mpr ⟨lw_p53, List.forall_mem_cons.mpr ⟨lw_p54, List.forall_mem_cons.mpr ⟨lw_p55, List.forall_mem_cons.mpr ⟨lw_p56, List.forall_mem_cons.mpr ⟨lw_p57, List.forall_mem_cons.mpr ⟨lw_p58, List.forall_mem_cons.mpr ⟨lw_p59, List.forall_mem_cons.mpr ⟨lw_p60, List.forall_mem_cons.mpr ⟨lw_p61, List.forall_mem_cons.mpr ⟨lw_p62, List.forall_mem_cons.mpr ⟨lw_p63, fun _ h => absurd h List.not_mem_nil⟩⟩⟩⟩⟩⟩⟩⟩⟩⟩⟩⟩⟩⟩⟩⟩
def lw_privs : List (MethodName × Nat) := lw_privs_1 ++ (lw_privs_2 ++ (lw_privs_3 ++ (lw_privs_4)))
def lw_tbl : List Cond := k2_sels lw_privs ++ tables_1
theorem lw_privs_ok : ∀ q ∈ lw_privs, lw_okq q := by
  show ∀ q ∈ lw_privs_1 ++ (lw_privs_2 ++ (lw_privs_3 ++ (lw_privs_4))), lw_okq q
  exact List.forall_mem_append.mpr ⟨lw_r1, List.forall_mem_append.mpr ⟨lw_r2, List.forall_mem_append.mpr ⟨lw_r3, lw_r4⟩⟩⟩
end
section
/-! THE SMALL MACHINE. A store: shapes of cells (inl (type, length): an array; inr c: an object of class number c), ints, longs, references by (cell, slot). References are numbers of cells; from 100000 on: static tables. -/
abbrev mv_Sh : Type := (Nat × Nat) ⊕ Nat
abbrev mv_S : Type := List mv_Sh × (Nat → Nat → Int32) × (Nat → Nat → Int64) × (Nat → Nat → Option Nat)
abbrev mv_L : Type := List (Option Value)
/-- a row of a method's table: its place, the instruction, its length, four numbers -/
abbrev mv_E : Type := Nat × ClassFile.Instr × Nat × Nat × Nat × Nat × Nat
/-- a frame: place, locals, stack, cells and slots made, store -/
abbrev mv_F : Type := Nat × mv_L × List Value × Nat × Nat × mv_S
/-- a method: name, bytes, locals, answer, owner, table, the cells that it makes, the slots at most, its room: frames and words of locals -/
abbrev mv_Me : Type := MethodName × ByteArray × Nat × Option FieldType × String × List mv_E × Nat × Nat × Nat × Nat
abbrev mv_cc (M : mv_Me) : ByteArray := M.2.1
abbrev mv_ml (M : mv_Me) : Nat := M.2.2.1
abbrev mv_rt (M : mv_Me) : Option FieldType := M.2.2.2.1
abbrev mv_ow (M : mv_Me) : String := M.2.2.2.2.1
abbrev mv_tb (M : mv_Me) : List mv_E := M.2.2.2.2.2.1
abbrev mv_mc (M : mv_Me) : Nat := M.2.2.2.2.2.2.1
abbrev mv_ms (M : mv_Me) : Nat := M.2.2.2.2.2.2.2.1
abbrev mv_fr (M : mv_Me) : Nat := M.2.2.2.2.2.2.2.2.1
abbrev mv_lo (M : mv_Me) : Nat := M.2.2.2.2.2.2.2.2.2
def mv_at : List mv_E → Nat → Option (ClassFile.Instr × Nat × Nat × Nat × Nat × Nat)
  | [], _ => none
  | e :: r, pc => bif Nat.beq e.1 pc then some e.2 else mv_at r pc
def mv_len (i : ClassFile.Instr) : Nat := match i with
  | .bipush _ | .iload _ | .lload _ | .aload _ | .istore _ | .lstore _ | .astore _ | .ldc _ | .newarray _ => 2
  | .sipush _ | .ldc_w _ | .ldc2_w _ | .iinc _ _ | .getfield _ | .putfield _ | .getstatic _ | .new _ | .invokevirtual _ | .invokespecial _ | .invokestatic _ | .ifCond _ _ | .if_icmp _ _ | .goto _ => 3
  | _ => 1
def mv_up {α : Type} (f : Nat → Nat → α) (k j : Nat) (x : α) : Nat → Nat → α := fun a b => if a = k then (if b = j then x else f a b) else f a b
def mv_clr {α : Type} (f : Nat → Nat → α) (k : Nat) (x : α) : Nat → Nat → α := fun a b => if a = k then x else f a b
/-- instructions on the stack alone -/
def mv_ii (f : Int32 → Int32 → Int32) (st : List Value) : Option (List Value) := match st with
  | .int y :: .int x :: r => some (.int (f x y) :: r)
  | _ => none
def mv_i1 (f : Int32 → Value) (st : List Value) : Option (List Value) := match st with
  | .int x :: r => some (f x :: r)
  | _ => none
def mv_ll (f : Int64 → Int64 → Value) (st : List Value) : Option (List Value) := match st with
  | .long y :: .long x :: r => some (f x y :: r)
  | _ => none
def mv_li (f : Int64 → Int32 → Int64) (st : List Value) : Option (List Value) := match st with
  | .int y :: .long x :: r => some (.long (f x y) :: r)
  | _ => none
def mv_l1 (f : Int64 → Value) (st : List Value) : Option (List Value) := match st with
  | .long x :: r => some (f x :: r)
  | _ => none
def mv_c1 (v : Value) : Bool := Nat.beq v.category 1
def mv_pure (i : ClassFile.Instr) (st : List Value) : Option (List Value) := match i with
  | .iconst n => some (.int (Int32.ofInt n) :: st)
  | .bipush n => some (.int (Int8.ofInt n).toInt32 :: st)
  | .sipush n => some (.int (Int16.ofInt n).toInt32 :: st)
  | .lconst n => some (.long (Int64.ofNat (n : Nat)) :: st)
  | .aconst_null => some (.null :: st)
  | .iadd => mv_ii (fun x y => x + y) st
  | .isub => mv_ii (fun x y => x - y) st
  | .imul => mv_ii (fun x y => x * y) st
  | .iand => mv_ii (fun x y => x &&& y) st
  | .ior => mv_ii (fun x y => x ||| y) st
  | .ixor => mv_ii (fun x y => x ^^^ y) st
  | .ishl => mv_ii (fun x y => x <<< (y &&& 31)) st
  | .ishr => mv_ii (fun x y => x >>> (y &&& 31)) st
  | .iushr => mv_ii (fun x y => (x.toUInt32 >>> (y.toUInt32 &&& Int32.toUInt32 31)).toInt32) st
  | .ineg => mv_i1 (fun x => .int (-x)) st
  | .ladd => mv_ll (fun x y => .long (x + y)) st
  | .lsub => mv_ll (fun x y => .long (x - y)) st
  | .land => mv_ll (fun x y => .long (x &&& y)) st
  | .lor => mv_ll (fun x y => .long (x ||| y)) st
  | .lxor => mv_ll (fun x y => .long (x ^^^ y)) st
  | .lcmp => mv_ll (fun x y => .int (lg_cmp x y)) st
  | .lshl => mv_li (fun x y => x <<< (y.toInt64 &&& 63)) st
  | .lshr => mv_li (fun x y => x >>> (y.toInt64 &&& 63)) st
  | .lushr => mv_li (fun x y => (x.toUInt64 >>> (y.toInt64.toUInt64 &&& Int64.toUInt64 63)).toInt64) st
  | .i2l => mv_i1 (fun x => .long x.toInt64) st
  | .l2i => mv_l1 (fun x => .int x.toInt32) st
  | .i2b => mv_i1 (fun x => .int x.toInt8.toInt32) st
  | .dup => match st with
    | v :: r => bif mv_c1 v then some (v :: v :: r) else none
    | _ => none
  | .pop => match st with
    | v :: r => bif mv_c1 v then some r else none
    | _ => none
  | .dup_x1 => match st with
    | v :: w :: r => bif mv_c1 v && mv_c1 w then some (v :: w :: v :: r) else none
    | _ => none
  | .dup_x2 => match st with
    | v :: w :: x :: r => bif mv_c1 v && (mv_c1 w && mv_c1 x) then some (v :: w :: x :: v :: r) else none
    | _ => none
  | .dup2 => match st with
    | v :: w :: r => bif mv_c1 v && mv_c1 w then some (v :: w :: v :: w :: r) else none
    | _ => none
  | _ => none
/-- instructions on locals -/
def mv_ldi (lc : mv_L) (n : Nat) (st : List Value) : Option (mv_L × List Value) := match lc[n]? with
  | some (some (.int x)) => some (lc, .int x :: st)
  | _ => none
def mv_ldl (lc : mv_L) (n : Nat) (st : List Value) : Option (mv_L × List Value) := match lc[n]? with
  | some (some (.long x)) => some (lc, .long x :: st)
  | _ => none
def mv_lda (lc : mv_L) (n : Nat) (st : List Value) : Option (mv_L × List Value) := match lc[n]? with
  | some (some (.ref x)) => some (lc, .ref x :: st)
  | _ => none
/-- nothing of two slots stands right ahead of it -/
def mv_ok1 (lc : mv_L) (n : Nat) : Bool := match n with
  | 0 => true
  | k + 1 => match lc[k]? with
    | some (some v) => mv_c1 v
    | _ => true
def mv_sti (lc : mv_L) (n : Nat) (st : List Value) : Option (mv_L × List Value) := match st with
  | .int x :: r => bif mv_ok1 lc n && Nat.blt n lc.length then some (lc.set n (some (.int x)), r) else none
  | _ => none
def mv_stl (lc : mv_L) (n : Nat) (st : List Value) : Option (mv_L × List Value) := match st with
  | .long x :: r => bif mv_ok1 lc n && Nat.blt (n + 1) lc.length then some ((lc.set n (some (.long x))).set (n + 1) none, r) else none
  | _ => none
def mv_sta (lc : mv_L) (n : Nat) (st : List Value) : Option (mv_L × List Value) := match st with
  | .ref x :: r => bif mv_ok1 lc n && Nat.blt n lc.length then some (lc.set n (some (.ref x)), r) else none
  | _ => none
def mv_inc (lc : mv_L) (n : Nat) (z : Int) (st : List Value) : Option (mv_L × List Value) := match lc[n]? with
  | some (some (.int x)) => bif mv_ok1 lc n && Nat.blt n lc.length then some (lc.set n (some (.int (x + Int32.ofInt z))), st) else none
  | _ => none
def mv_loc (i : ClassFile.Instr) (lc : mv_L) (st : List Value) : Option (mv_L × List Value) := match i with
  | .iload n => mv_ldi lc n st
  | .iload_n k => mv_ldi lc k.val st
  | .lload n => mv_ldl lc n st
  | .lload_n k => mv_ldl lc k.val st
  | .aload n => mv_lda lc n st
  | .aload_n k => mv_lda lc k.val st
  | .istore n => mv_sti lc n st
  | .istore_n k => mv_sti lc k.val st
  | .lstore n => mv_stl lc n st
  | .lstore_n k => mv_stl lc k.val st
  | .astore n => mv_sta lc n st
  | .astore_n k => mv_sta lc k.val st
  | .iinc n z => mv_inc lc n z st
  | _ => none
/-- a field's value by its kind: 3 a long, 4 a reference, else an int -/
def mv_fval (c : Nat) (S : mv_S) (k j : Nat) : Value := bif Nat.beq c 3 then .long (S.2.2.1 k j) else bif Nat.beq c 4 then (match S.2.2.2 k j with
  | none => .null
  | some q => .ref q) else .int (S.2.1 k j)
def mv_put (c : Nat) (v : Value) (S : mv_S) (k j : Nat) : Option mv_S := match c, v with
  | 0, .int x => some (S.1, mv_up S.2.1 k j x, S.2.2.1, S.2.2.2)
  | 1, .int x => bif x == 0 || x == 1 then some (S.1, mv_up S.2.1 k j x, S.2.2.1, S.2.2.2) else none
  | 3, .long x => some (S.1, S.2.1, mv_up S.2.2.1 k j x, S.2.2.2)
  | 4, .ref q => some (S.1, S.2.1, S.2.2.1, mv_up S.2.2.2 k j (some q))
  | _, _ => none
def mv_new (S : mv_S) (sh : mv_Sh) : mv_S := (S.1 ++ [sh], mv_clr S.2.1 S.1.length 0, mv_clr S.2.2.1 S.1.length 0, mv_clr S.2.2.2 S.1.length none)
def mv_ty (t : Nat) : FieldType := match t with
  | 1 => .boolean
  | 2 => .byte
  | 3 => .long
  | _ => .int
/-- the numbers a b c of a row: of a field its class, its place, its kind; of new the class and how many fields; of newarray c the type; of a constant a the number; of getstatic a the table; of a call a the method, b how many arguments, c the kind of call -/
def mv_heap (sta : Nat → List Int32) (mc ms : Nat) (i : ClassFile.Instr) (a b c : Nat) (st : List Value) (vc vs : Nat) (S : mv_S) : Option (List Value × Nat × Nat × mv_S) := match i with
  | .getfield _ => match st with
    | .ref k :: r => match S.1[k]? with
      | some (.inr ci) => bif Nat.beq ci a then some (mv_fval c S k b :: r, vc, vs, S) else none
      | _ => none
    | _ => none
  | .putfield _ => match st with
    | v :: .ref k :: r => match S.1[k]? with
      | some (.inr ci) => bif Nat.beq ci a then (match mv_put c v S k b with
        | some S' => some (r, vc, vs, S')
        | none => none) else none
      | _ => none
    | _ => none
  | .arraylength => match st with
    | .ref k :: r => match S.1[k]? with
      | some (.inl (t, n)) => bif Nat.ble t 3 then some (.int (Int32.ofNat n) :: r, vc, vs, S) else none
      | _ => none
    | _ => none
  | .new _ => bif Nat.ble (vc + 1) mc && (Nat.ble (vs + b) ms && Nat.blt S.1.length 100000) then some (.ref S.1.length :: st, vc + 1, vs + b, mv_new S (.inr a)) else none
  | .newarray _ => match st with
    | .int x :: r => bif Nat.ble (vc + 1) mc && (Nat.ble (vs + x.toNatClampNeg) ms && (Nat.blt S.1.length 100000 && (Nat.ble x.toNatClampNeg 1000000 && decide (¬ x < 0)))) then some (.ref S.1.length :: r, vc + 1, vs + x.toNatClampNeg, mv_new S (.inl (c, x.toNatClampNeg))) else none
    | _ => none
  | .ldc _ => some (.int (Int32.ofNat a) :: st, vc, vs, S)
  | .ldc_w _ => some (.int (Int32.ofNat a) :: st, vc, vs, S)
  | .ldc2_w _ => some (.long (Int64.ofNat a) :: st, vc, vs, S)
  | .getstatic _ => some (.ref (100000 + a) :: st, vc, vs, S)
  | .invokespecial _ => match c with
    | 3 => match st with
      | .ref _ :: r => bif Nat.ble ((r.map fun v => v.category).sum) 8 then some (r, vc, vs, S) else none
      | _ => none
    | _ => none
  | .invokestatic _ => match c, st with
    | 4, .int y :: .int x :: r => bif Nat.ble ((r.map fun v => v.category).sum) 8 then some (.int (if x < y then y else x) :: r, vc, vs, S) else none
    | 5, .int y :: .int x :: r => bif Nat.ble ((r.map fun v => v.category).sum) 8 then some (.int (if y < x then y else x) :: r, vc, vs, S) else none
    | _, _ => none
  | _ => none
/-- one step, where it is a function -/
def mv_one (sta : Nat → List Int32) (M : mv_Me) (F : mv_F) : Option mv_F := match F with
  | (pc, lc, st, vc, vs, S) => match mv_at (mv_tb M) pc with
    | none => none
    | some (i, _, a, b, c, _) => match mv_pure i st with
      | some st' => some (pc + mv_len i, lc, st', vc, vs, S)
      | none => match mv_loc i lc st with
        | some (lc', st') => some (pc + mv_len i, lc', st', vc, vs, S)
        | none => match mv_heap sta (mv_mc M) (mv_ms M) i a b c st vc vs S with
          | some (st', vc', vs', S') => some (pc + mv_len i, lc, st', vc', vs', S')
          | none => match i with
            | .goto off => match (pc : Int) + off with
              | .ofNat t => some (t, lc, st, vc, vs, S)
              | .negSucc _ => none
            | _ => none
def mv_run (sta : Nat → List Int32) (M : mv_Me) : Nat → mv_F → Option mv_F
  | 0, F => some F
  | n + 1, F => match mv_one sta M F with
    | none => none
    | some F' => mv_run sta M n F'
/-- branches: what is asked, how far, what stays on the stack -/
def mv_cond (i : ClassFile.Instr) (st : List Value) : Option (Prop × Int × List Value) := match i with
  | .ifCond cd off => match st with
    | .int x :: r => match cd with
      | .eq => some (x = 0, off, r)
      | .ne => some (¬ x = 0, off, r)
      | .lt => some (x < 0, off, r)
      | .ge => some (0 ≤ x, off, r)
      | .gt => some (0 < x, off, r)
      | .le => some (x ≤ 0, off, r)
    | _ => none
  | .if_icmp cd off => match st with
    | .int y :: .int x :: r => match cd with
      | .eq => some (x = y, off, r)
      | .ne => some (¬ x = y, off, r)
      | .lt => some (x < y, off, r)
      | .ge => some (y ≤ x, off, r)
      | .gt => some (y < x, off, r)
      | .le => some (x ≤ y, off, r)
    | _ => none
  | _ => none
/-- how far a switch goes -/
def mv_sw (i : ClassFile.Instr) (x : Int32) : Option Int := match i with
  | .lookupswitch d ps => bif (ps.toList.zip (ps.toList.drop 1)).all (fun q => decide (q.1.1 < q.2.1)) then some (Op.lookupswitch.offset ps.toList d x.toInt) else none
  | .tableswitch d lo hi offs => if x.toInt < lo ∨ hi < x.toInt then some d else offs[(x.toInt - lo).toNat]?
  | _ => none
/-- an array is read: its length, the value -/
def mv_ald (sta : Nat → List Int32) (i : ClassFile.Instr) (S : mv_S) (k : Nat) (x : Int32) : Option (Nat × Value) := match S.1[k]? with
  | some (.inl (t, n)) => match i, t with
    | .iaload, 0 => some (n, .int (S.2.1 k x.toNatClampNeg))
    | .baload, 1 => some (n, .int (S.2.1 k x.toNatClampNeg))
    | .baload, 2 => some (n, .int (S.2.1 k x.toNatClampNeg))
    | .laload, 3 => some (n, .long (S.2.2.1 k x.toNatClampNeg))
    | _, _ => none
  | some (.inr _) => none
  | none => match i with
    | .iaload => bif Nat.ble 100000 k then some ((sta (k - 100000)).length, .int ((sta (k - 100000)).getD x.toNatClampNeg 0)) else none
    | _ => none
/-- an array is written: its length, the store -/
def mv_ast (i : ClassFile.Instr) (S : mv_S) (k : Nat) (x : Int32) (v : Value) : Option (Nat × mv_S) := match S.1[k]? with
  | some (.inl (t, n)) => match i, t, v with
    | .iastore, 0, .int y => some (n, (S.1, mv_up S.2.1 k x.toNatClampNeg y, S.2.2.1, S.2.2.2))
    | .bastore, 1, .int y => some (n, (S.1, mv_up S.2.1 k x.toNatClampNeg (y &&& 1), S.2.2.1, S.2.2.2))
    | .bastore, 2, .int y => some (n, (S.1, mv_up S.2.1 k x.toNatClampNeg y.toInt8.toInt32, S.2.2.1, S.2.2.2))
    | .lastore, 3, .long y => some (n, (S.1, S.2.1, mv_up S.2.2.1 k x.toNatClampNeg y, S.2.2.2))
    | _, _, _ => none
  | _ => none
/-- an answer: what, and what it must keep to -/
def mv_ret (ret : Option FieldType) (i : ClassFile.Instr) (st : List Value) : Option (Option Value × Prop) := match ret, i, st with
  | none, .return_, [] => some (none, True)
  | some .int, .ireturn, [.int v] => some (some (.int v), True)
  | some .boolean, .ireturn, [.int v] => some (some (.int v), v = 0 ∨ v = 1)
  | some .long, .lreturn, [.long v] => some (some (.long v), True)
  | _, _, _ => none
/-- divisions -/
def mv_div (i : ClassFile.Instr) (x y : Int32) : Option Int32 := match i with
  | .idiv => some (x / y)
  | .irem => some (x - x / y * y)
  | _ => none
/-- is it a call of the kind c (0 virtual, on an object of class number d; 1 static; 2 a constructor) with these arguments -/
def mv_isCall (i : ClassFile.Instr) (c d : Nat) (S : mv_S) (as : List Value) : Bool := match i, c with
  | .invokevirtual _, 0 => match as with
    | .ref k :: _ => match S.1[k]? with
      | some (.inr ci) => Nat.beq ci d
      | _ => false
    | _ => false
  | .invokestatic _, 1 => true
  | .invokespecial _, 2 => match as with
    | .ref _ :: _ => true
    | _ => false
  | _, _ => false
/-- fewer locals are known -/
def mv_le : mv_L → mv_L → Prop
  | [], [] => True
  | none :: a, _ :: b => mv_le a b
  | some v :: a, w :: b => w = some v ∧ mv_le a b
  | _, _ => False
/-- what comes next is enough -/
def mv_Rule (prog : List mv_Me) (sta : Nat → List Int32) (cal : Nat → List Value → mv_S → (Option Value → mv_S → Prop) → Prop) (M : mv_Me) (Q : Option Value → mv_S → Prop) (P : mv_F → Prop) (F : mv_F) : Prop :=
  (∃ F', mv_one sta M F = some F' ∧ P F') ∨ (∃ lc' : mv_L, mv_le lc' F.2.1 ∧ P (F.1, lc', F.2.2)) ∨
  ∃ (pc : Nat) (lc : mv_L) (st : List Value) (vc vs : Nat) (S : mv_S) (i : ClassFile.Instr) (n a b c d : Nat), F = (pc, lc, st, vc, vs, S) ∧ mv_at (mv_tb M) pc = some (i, n, a, b, c, d) ∧
    ((∃ (cn : Prop) (off : Int) (r : List Value) (tgt : Nat), mv_cond i st = some (cn, off, r) ∧ (pc : Int) + off = (tgt : Int) ∧ (cn → P (tgt, lc, r, vc, vs, S)) ∧ (¬ cn → P (pc + 3, lc, r, vc, vs, S))) ∨
     (∃ (x : Int32) (r : List Value) (off : Int) (tgt : Nat), st = .int x :: r ∧ mv_sw i x = some off ∧ (pc : Int) + off = (tgt : Int) ∧ P (tgt, lc, r, vc, vs, S)) ∨
     (∃ (x : Int32) (k : Nat) (r : List Value) (N : Nat) (v : Value), st = .int x :: .ref k :: r ∧ mv_ald sta i S k x = some (N, v) ∧ vp_in x N ∧ P (pc + 1, lc, v :: r, vc, vs, S)) ∨
     (∃ (v : Value) (x : Int32) (k : Nat) (r : List Value) (N : Nat) (S' : mv_S), st = v :: .int x :: .ref k :: r ∧ mv_ast i S k x v = some (N, S') ∧ vp_in x N ∧ P (pc + 1, lc, r, vc, vs, S')) ∨
     (∃ (Mj : mv_Me) (as r : List Value) (Q' : Option Value → mv_S → Prop), prog[a]? = some Mj ∧ st = as.reverse ++ r ∧ as.length = b ∧ mv_isCall i c d S as = true ∧ (r.map fun v => v.category).sum ≤ 8 ∧ vc + (mv_mc Mj) ≤ (mv_mc M) ∧ vs + (mv_ms Mj) ≤ (mv_ms M) ∧ cal a as S Q' ∧ ∀ (v : Option Value) (S' : mv_S), Q' v S' → P (pc + 3, lc, v.toList ++ r, vc + (mv_mc Mj), vs + (mv_ms Mj), S')) ∨
     (∃ (v : Option Value) (ok : Prop), mv_ret (mv_rt M) i st = some (v, ok) ∧ vc = (mv_mc M) ∧ vs ≤ (mv_ms M) ∧ ok ∧ Q v S) ∨
     (∃ (x y : Int32) (r : List Value) (v : Int32), st = .int y :: .int x :: r ∧ ¬ y = 0 ∧ mv_div i x y = some v ∧ P (pc + 1, lc, .int v :: r, vc, vs, S)))
/-- from this frame the method comes to an answer with Q -/
def mv_G (prog : List mv_Me) (sta : Nat → List Int32) (cal : Nat → List Value → mv_S → (Option Value → mv_S → Prop) → Prop) (M : mv_Me) (Q : Option Value → mv_S → Prop) (F : mv_F) : Prop :=
  ∀ P : mv_F → Prop, (∀ F, mv_Rule prog sta cal M Q P F → P F) → P F
/-- the locals at a method's entry -/
def mv_ent (n : Nat) (as : List Value) : mv_L := match as with
  | [] => List.replicate n none
  | v :: r => bif mv_c1 v then some v :: mv_ent (n - 1) r else some v :: none :: mv_ent (n - 2) r
/-- method i, called with these arguments in this store, with at most d frames, ends with Q -/
def mv_C (prog : List mv_Me) (sta : Nat → List Int32) : Nat → Nat → List Value → mv_S → (Option Value → mv_S → Prop) → Prop
  | 0 => fun _ _ _ _ => False
  | d + 1 => fun i as S Q => ∃ M, prog[i]? = some M ∧ (mv_ent (mv_ml M) as).length = (mv_ml M) ∧ mv_G prog sta (mv_C prog sta d) M Q (0, mv_ent (mv_ml M) as, [], 0, 0, S)
end
section
section MVR
variable {prog : List mv_Me} {sta : Nat → List Int32} {cal : Nat → List Value → mv_S → (Option Value → mv_S → Prop) → Prop} {M : mv_Me} {Q : Option Value → mv_S → Prop}
theorem mv_Rule_mono {P P' : mv_F → Prop} (hp : ∀ F, P F → P' F) {F : mv_F} (h : mv_Rule prog sta cal M Q P F) : mv_Rule prog sta cal M Q P' F := by
  rcases h with ⟨F', h1, h2⟩ | ⟨lc', h1, h2⟩ | ⟨pc, lc, st, vc, vs, S, i, n, a, b, c, d, e, h0, h⟩
  · exact Or.inl ⟨F', h1, hp _ h2⟩
  · exact Or.inr (Or.inl ⟨lc', h1, hp _ h2⟩)
  · refine Or.inr (Or.inr ⟨pc, lc, st, vc, vs, S, i, n, a, b, c, d, e, h0, ?_⟩)
    rcases h with ⟨cn, off, r, tgt, h1, h2, h3, h4⟩ | ⟨x, r, off, tgt, h1, h2, h3, h4⟩ | ⟨x, k, r, N, v, h1, h2, h3, h4⟩ | ⟨v, x, k, r, N, S', h1, h2, h3, h4⟩ | ⟨Mj, as, r, Q', h1, h2, h3, h4, h5, h6, h7, h8, h9⟩ | h | ⟨x, y, r, v, h1, h2, h3, h4⟩
    · exact Or.inl ⟨cn, off, r, tgt, h1, h2, fun z => hp _ (h3 z), fun z => hp _ (h4 z)⟩
    · exact Or.inr (Or.inl ⟨x, r, off, tgt, h1, h2, h3, hp _ h4⟩)
    · exact Or.inr (Or.inr (Or.inl ⟨x, k, r, N, v, h1, h2, h3, hp _ h4⟩))
    · exact Or.inr (Or.inr (Or.inr (Or.inl ⟨v, x, k, r, N, S', h1, h2, h3, hp _ h4⟩)))
    · exact Or.inr (Or.inr (Or.inr (Or.inr (Or.inl ⟨Mj, as, r, Q', h1, h2, h3, h4, h5, h6, h7, h8, fun v S' z => hp _ (h9 v S' z)⟩))))
    · exact Or.inr (Or.inr (Or.inr (Or.inr (Or.inr (Or.inl h)))))
    · exact Or.inr (Or.inr (Or.inr (Or.inr (Or.inr (Or.inr ⟨x, y, r, v, h1, h2, h3, hp _ h4⟩)))))
theorem mv_G_rule {F : mv_F} (h : mv_Rule prog sta cal M Q (mv_G prog sta cal M Q) F) : mv_G prog sta cal M Q F := fun P hP => hP F (mv_Rule_mono (fun _ k => k P hP) h)
/-- n steps that are functions -/
theorem mv_G_run (n : Nat) {F F' : mv_F} (h : mv_run sta M n F = some F') (k : mv_G prog sta cal M Q F') : mv_G prog sta cal M Q F := by
  induction n generalizing F with
  | zero =>
    have e : F = F' := Option.some.inj h
    rw [e]
    exact k
  | succ n ih =>
    unfold mv_run at h
    cases h1 : mv_one sta M F with
    | none => rw [h1] at h; cases h
    | some F1 =>
      rw [h1] at h
      exact mv_G_rule (Or.inl ⟨F1, h1, ih h⟩)
/-- fewer locals -/
theorem mv_G_fg {pc : Nat} {lc lc' : mv_L} {R : List Value × Nat × Nat × mv_S} (h : mv_le lc' lc) (k : mv_G prog sta cal M Q (pc, lc', R)) : mv_G prog sta cal M Q (pc, lc, R) := mv_G_rule (Or.inr (Or.inl ⟨lc', h, k⟩))
variable {pc : Nat} {lc : mv_L} {st r : List Value} {vc vs : Nat} {S : mv_S} {i : ClassFile.Instr} {n a b c d : Nat}
theorem mv_G_br {cn : Prop} {off : Int} {tgt : Nat} (h0 : mv_at (mv_tb M) pc = some (i, n, a, b, c, d)) (h1 : mv_cond i st = some (cn, off, r)) (h2 : (pc : Int) + off = (tgt : Int)) (h3 : cn → mv_G prog sta cal M Q (tgt, lc, r, vc, vs, S)) (h4 : ¬ cn → mv_G prog sta cal M Q (pc + 3, lc, r, vc, vs, S)) : mv_G prog sta cal M Q (pc, lc, st, vc, vs, S) :=
  mv_G_rule (Or.inr (Or.inr ⟨pc, lc, st, vc, vs, S, i, n, a, b, c, d, rfl, h0, Or.inl ⟨cn, off, r, tgt, h1, h2, h3, h4⟩⟩))
theorem mv_G_sw {x : Int32} {off : Int} {tgt : Nat} (h0 : mv_at (mv_tb M) pc = some (i, n, a, b, c, d)) (h1 : mv_sw i x = some off) (h2 : (pc : Int) + off = (tgt : Int)) (h3 : mv_G prog sta cal M Q (tgt, lc, r, vc, vs, S)) : mv_G prog sta cal M Q (pc, lc, .int x :: r, vc, vs, S) :=
  mv_G_rule (Or.inr (Or.inr ⟨pc, lc, _, vc, vs, S, i, n, a, b, c, d, rfl, h0, Or.inr (Or.inl ⟨x, r, off, tgt, rfl, h1, h2, h3⟩)⟩))
theorem mv_G_ald {x : Int32} {k N : Nat} {v : Value} (h0 : mv_at (mv_tb M) pc = some (i, n, a, b, c, d)) (h1 : mv_ald sta i S k x = some (N, v)) (h2 : vp_in x N) (h3 : mv_G prog sta cal M Q (pc + 1, lc, v :: r, vc, vs, S)) : mv_G prog sta cal M Q (pc, lc, .int x :: .ref k :: r, vc, vs, S) :=
  mv_G_rule (Or.inr (Or.inr ⟨pc, lc, _, vc, vs, S, i, n, a, b, c, d, rfl, h0, Or.inr (Or.inr (Or.inl ⟨x, k, r, N, v, rfl, h1, h2, h3⟩))⟩))
theorem mv_G_ast {x : Int32} {k N : Nat} {v : Value} {S' : mv_S} (h0 : mv_at (mv_tb M) pc = some (i, n, a, b, c, d)) (h1 : mv_ast i S k x v = some (N, S')) (h2 : vp_in x N) (h3 : mv_G prog sta cal M Q (pc + 1, lc, r, vc, vs, S')) : mv_G prog sta cal M Q (pc, lc, v :: .int x :: .ref k :: r, vc, vs, S) :=
  mv_G_rule (Or.inr (Or.inr ⟨pc, lc, _, vc, vs, S, i, n, a, b, c, d, rfl, h0, Or.inr (Or.inr (Or.inr (Or.inl ⟨v, x, k, r, N, S', rfl, h1, h2, h3⟩)))⟩))
theorem mv_G_call {Mj : mv_Me} {as : List Value} {Q' : Option Value → mv_S → Prop} (hc : cal a as S Q') (h0 : mv_at (mv_tb M) pc = some (i, n, a, b, c, d)) (h1 : prog[a]? = some Mj) (h2 : st = as.reverse ++ r) (h3 : as.length = b) (h4 : mv_isCall i c d S as = true) (h5 : (r.map fun v => v.category).sum ≤ 8) (h6 : vc + (mv_mc Mj) ≤ (mv_mc M)) (h7 : vs + (mv_ms Mj) ≤ (mv_ms M))
    (h9 : ∀ (v : Option Value) (S' : mv_S), Q' v S' → mv_G prog sta cal M Q (pc + 3, lc, v.toList ++ r, vc + (mv_mc Mj), vs + (mv_ms Mj), S')) : mv_G prog sta cal M Q (pc, lc, st, vc, vs, S) :=
  mv_G_rule (Or.inr (Or.inr ⟨pc, lc, st, vc, vs, S, i, n, a, b, c, d, rfl, h0, Or.inr (Or.inr (Or.inr (Or.inr (Or.inl ⟨Mj, as, r, Q', h1, h2, h3, h4, h5, h6, h7, hc, h9⟩))))⟩))
theorem mv_G_ret {v : Option Value} {ok : Prop} (h0 : mv_at (mv_tb M) pc = some (i, n, a, b, c, d)) (h1 : mv_ret (mv_rt M) i st = some (v, ok)) (h4 : vc = (mv_mc M)) (h5 : vs ≤ (mv_ms M)) (h2 : ok) (h3 : Q v S) : mv_G prog sta cal M Q (pc, lc, st, vc, vs, S) :=
  mv_G_rule (Or.inr (Or.inr ⟨pc, lc, st, vc, vs, S, i, n, a, b, c, d, rfl, h0, Or.inr (Or.inr (Or.inr (Or.inr (Or.inr (Or.inl ⟨v, ok, h1, h4, h5, h2, h3⟩)))))⟩))
theorem mv_G_div {x y v : Int32} (h0 : mv_at (mv_tb M) pc = some (i, n, a, b, c, d)) (h1 : mv_div i x y = some v) (h2 : ¬ y = 0) (h3 : mv_G prog sta cal M Q (pc + 1, lc, .int v :: r, vc, vs, S)) : mv_G prog sta cal M Q (pc, lc, .int y :: .int x :: r, vc, vs, S) :=
  mv_G_rule (Or.inr (Or.inr ⟨pc, lc, _, vc, vs, S, i, n, a, b, c, d, rfl, h0, Or.inr (Or.inr (Or.inr (Or.inr (Or.inr (Or.inr ⟨x, y, r, v, rfl, h2, h1, h3⟩)))))⟩))
theorem mv_G_mono {Q' : Option Value → mv_S → Prop} (hq : ∀ v S, Q v S → Q' v S) {F : mv_F} (h : mv_G prog sta cal M Q F) : mv_G prog sta cal M Q' F := by
  refine h _ (fun F k => mv_G_rule ?_)
  rcases k with h | h | ⟨pc, lc, st, vc, vs, S, i, n, a, b, c, d, e, h0, k⟩
  · exact Or.inl h
  · exact Or.inr (Or.inl h)
  · refine Or.inr (Or.inr ⟨pc, lc, st, vc, vs, S, i, n, a, b, c, d, e, h0, ?_⟩)
    rcases k with k | k | k | k | k | ⟨v, ok, k1, k4, k5, k2, k3⟩ | k
    · exact Or.inl k
    · exact Or.inr (Or.inl k)
    · exact Or.inr (Or.inr (Or.inl k))
    · exact Or.inr (Or.inr (Or.inr (Or.inl k)))
    · exact Or.inr (Or.inr (Or.inr (Or.inr (Or.inl k))))
    · exact Or.inr (Or.inr (Or.inr (Or.inr (Or.inr (Or.inl ⟨v, ok, k1, k4, k5, k2, hq _ _ k3⟩)))))
    · exact Or.inr (Or.inr (Or.inr (Or.inr (Or.inr (Or.inr k)))))
end MVR
theorem mv_C_mono {prog : List mv_Me} {sta : Nat → List Int32} {d i : Nat} {as : List Value} {S : mv_S} {Q Q' : Option Value → mv_S → Prop} (hq : ∀ v S, Q v S → Q' v S) (h : mv_C prog sta d i as S Q) : mv_C prog sta d i as S Q' := by
  cases d with
  | zero => exact h
  | succ d =>
    obtain ⟨M, h1, h2, h3⟩ := h
    exact ⟨M, h1, h2, mv_G_mono hq h3⟩
/-- more frames do no harm -/
theorem mv_C_up {prog : List mv_Me} {sta : Nat → List Int32} : ∀ (d i : Nat) (as : List Value) (S : mv_S) (Q : Option Value → mv_S → Prop), mv_C prog sta d i as S Q → mv_C prog sta (d + 1) i as S Q
  | 0, _, _, _, _, h => h.elim
  | d + 1, i, as, S, Q, h => by
    obtain ⟨M, h1, h2, h3⟩ := h
    refine ⟨M, h1, h2, h3 _ (fun F k => mv_G_rule ?_)⟩
    rcases k with h | h | ⟨pc, lc, st, vc, vs, S, i, n, a, b, c, d, e, h0, k⟩
    · exact Or.inl h
    · exact Or.inr (Or.inl h)
    · refine Or.inr (Or.inr ⟨pc, lc, st, vc, vs, S, i, n, a, b, c, d, e, h0, ?_⟩)
      rcases k with k | k | k | k | ⟨Mj, as, r, Q', k1, k2, k3, k4, k5, k6, k7, k8, k9⟩ | k
      · exact Or.inl k
      · exact Or.inr (Or.inl k)
      · exact Or.inr (Or.inr (Or.inl k))
      · exact Or.inr (Or.inr (Or.inr (Or.inl k)))
      · exact Or.inr (Or.inr (Or.inr (Or.inr (Or.inl ⟨Mj, as, r, Q', k1, k2, k3, k4, k5, k6, k7, mv_C_up _ _ _ _ _ k8, k9⟩))))
      · exact Or.inr (Or.inr (Or.inr (Or.inr (Or.inr k))))
end
section
/-! The small machine's values and locals over the great one's; the instructions that touch no cell. -/
def mv_tr (ad : Nat → Nat) (v : Value) : Value := match v with
  | .ref k => .ref (ad k)
  | v => v
theorem mv_tr_cat (ad : Nat → Nat) (v : Value) : (mv_tr ad v).category = v.category := by cases v <;> rfl
theorem mv_c1_cat {v : Value} (h : mv_c1 v = true) : v.category = 1 := Nat.eq_of_beq_eq_true h
theorem mv_tr_c1 (ad : Nat → Nat) {v : Value} (h : mv_c1 v = true) : (mv_tr ad v).category = 1 := (mv_tr_cat ad v).trans (mv_c1_cat h)
theorem mv_tr_sum (ad : Nat → Nat) (r : List Value) : ((r.map (mv_tr ad)).map fun v => v.category).sum = (r.map fun v => v.category).sum := by
  rw [List.map_map]
  congr 1
  exact List.map_congr_left (fun v _ => mv_tr_cat ad v)
theorem mv_ii_inv {f : Int32 → Int32 → Int32} {st st' : List Value} (h : mv_ii f st = some st') : ∃ (x y : Int32) (r : List Value), st = .int y :: .int x :: r ∧ st' = .int (f x y) :: r := by
  unfold mv_ii at h
  split at h
  · exact ⟨_, _, _, rfl, (Option.some.inj h).symm⟩
  · cases h
theorem mv_i1_inv {f : Int32 → Value} {st st' : List Value} (h : mv_i1 f st = some st') : ∃ (x : Int32) (r : List Value), st = .int x :: r ∧ st' = f x :: r := by
  unfold mv_i1 at h
  split at h
  · exact ⟨_, _, rfl, (Option.some.inj h).symm⟩
  · cases h
theorem mv_ll_inv {f : Int64 → Int64 → Value} {st st' : List Value} (h : mv_ll f st = some st') : ∃ (x y : Int64) (r : List Value), st = .long y :: .long x :: r ∧ st' = f x y :: r := by
  unfold mv_ll at h
  split at h
  · exact ⟨_, _, _, rfl, (Option.some.inj h).symm⟩
  · cases h
theorem mv_li_inv {f : Int64 → Int32 → Int64} {st st' : List Value} (h : mv_li f st = some st') : ∃ (x : Int64) (y : Int32) (r : List Value), st = .int y :: .long x :: r ∧ st' = .long (f x y) :: r := by
  unfold mv_li at h
  split at h
  · exact ⟨_, _, _, rfl, (Option.some.inj h).symm⟩
  · cases h
theorem mv_l1_inv {f : Int64 → Value} {st st' : List Value} (h : mv_l1 f st = some st') : ∃ (x : Int64) (r : List Value), st = .long x :: r ∧ st' = f x :: r := by
  unfold mv_l1 at h
  split at h
  · exact ⟨_, _, rfl, (Option.some.inj h).symm⟩
  · cases h
theorem mv_bif {α : Type} {b : Bool} {x y : α} (h : (bif b then some x else none) = some y) : b = true ∧ x = y := by
  cases b with
  | true => exact ⟨rfl, Option.some.inj h⟩
  | false => cases h
section MVP
variable {p : Program} {l : Launch} {e : Env} {R : Room} {s : State} {m : MethodId} {args : Array Value} {below : List Frame} {meth : Method} {cod : Code} {H : Heap} {locs : List Loc} {cells slots : Nat} {Qz : State → Prop}
variable {cc : ByteArray} {pc : Nat} {ls : Array Slot} {ad : Nat → Nat}
set_option maxHeartbeats 4000000 in
theorem mv_pure_ok (hx : p.tables.exec = Jvm.exec) (hb : cod.code = cc) {i : ClassFile.Instr} {st st' : List Value} (hd : decode cc pc = .ok (i, mv_len i)) (h : mv_pure i st = some st')
    (k : W p l e R s m args below meth cod H locs cells slots Qz (F0 m (pc + mv_len i) ls (st'.map (mv_tr ad)))) : W p l e R s m args below meth cod H locs cells slots Qz (F0 m pc ls (st.map (mv_tr ad))) := by
  cases i
  case iconst n => obtain rfl := Option.some.inj h; exact lv_iconst hx hb hd rfl k
  case bipush n => obtain rfl := Option.some.inj h; exact lv_bipush hx hb hd rfl k
  case sipush n => obtain rfl := Option.some.inj h; exact lv_sipush hx hb hd rfl k
  case lconst n => obtain rfl := Option.some.inj h; exact lv_lconst hx hb hd rfl k
  case aconst_null => obtain rfl := Option.some.inj h; exact lv_null hx hb hd k
  case iadd => obtain ⟨x, y, r, rfl, rfl⟩ := mv_ii_inv h; exact lv_iadd hx hb hd k
  case isub => obtain ⟨x, y, r, rfl, rfl⟩ := mv_ii_inv h; exact lv_isub hx hb hd k
  case imul => obtain ⟨x, y, r, rfl, rfl⟩ := mv_ii_inv h; exact lv_imul hx hb hd k
  case iand => obtain ⟨x, y, r, rfl, rfl⟩ := mv_ii_inv h; exact lv_iand hx hb hd k
  case ior => obtain ⟨x, y, r, rfl, rfl⟩ := mv_ii_inv h; exact lv_ior hx hb hd k
  case ixor => obtain ⟨x, y, r, rfl, rfl⟩ := mv_ii_inv h; exact lv_ixor hx hb hd k
  case ishl => obtain ⟨x, y, r, rfl, rfl⟩ := mv_ii_inv h; exact lv_ishl hx hb hd k
  case ishr => obtain ⟨x, y, r, rfl, rfl⟩ := mv_ii_inv h; exact lv_ishr hx hb hd k
  case iushr => obtain ⟨x, y, r, rfl, rfl⟩ := mv_ii_inv h; exact lv_iushr hx hb hd rfl k
  case ineg => obtain ⟨x, r, rfl, rfl⟩ := mv_i1_inv h; exact lv_ineg hx hb hd k
  case ladd => obtain ⟨x, y, r, rfl, rfl⟩ := mv_ll_inv h; exact lv_ladd hx hb hd k
  case lsub => obtain ⟨x, y, r, rfl, rfl⟩ := mv_ll_inv h; exact lv_lsub hx hb hd k
  case land => obtain ⟨x, y, r, rfl, rfl⟩ := mv_ll_inv h; exact lv_land hx hb hd k
  case lor => obtain ⟨x, y, r, rfl, rfl⟩ := mv_ll_inv h; exact lv_lor hx hb hd k
  case lxor => obtain ⟨x, y, r, rfl, rfl⟩ := mv_ll_inv h; exact lv_lxor hx hb hd k
  case lcmp => obtain ⟨x, y, r, rfl, rfl⟩ := mv_ll_inv h; exact W.lcmp hx hb hd k
  case lshl => obtain ⟨x, y, r, rfl, rfl⟩ := mv_li_inv h; exact lv_lshl hx hb hd rfl k
  case lshr => obtain ⟨x, y, r, rfl, rfl⟩ := mv_li_inv h; exact lv_lshr hx hb hd rfl k
  case lushr => obtain ⟨x, y, r, rfl, rfl⟩ := mv_li_inv h; exact lv_lushr hx hb hd rfl k
  case i2l => obtain ⟨x, r, rfl, rfl⟩ := mv_i1_inv h; exact lv_i2l hx hb hd rfl k
  case l2i => obtain ⟨x, r, rfl, rfl⟩ := mv_l1_inv h; exact lv_l2i hx hb hd rfl k
  case i2b => obtain ⟨x, r, rfl, rfl⟩ := mv_i1_inv h; exact lv_i2b hx hb hd rfl k
  case dup =>
    rcases st with _ | ⟨v, r⟩
    · exact absurd h (by simp [mv_pure])
    · obtain ⟨h1, rfl⟩ := mv_bif h
      exact lv_dup hx hb hd (mv_tr_c1 ad h1) k
  case pop =>
    rcases st with _ | ⟨v, r⟩
    · exact absurd h (by simp [mv_pure])
    · obtain ⟨h1, rfl⟩ := mv_bif h
      exact lv_pop hx hb hd (mv_tr_c1 ad h1) k
  case dup_x1 =>
    rcases st with _ | ⟨v, _ | ⟨w, r⟩⟩
    · exact absurd h (by simp [mv_pure])
    · exact absurd h (by simp [mv_pure])
    · obtain ⟨h1, rfl⟩ := mv_bif h
      rw [Bool.and_eq_true] at h1
      exact lv_dup_x1 hx hb hd (mv_tr_c1 ad h1.1) (mv_tr_c1 ad h1.2) k
  case dup_x2 =>
    rcases st with _ | ⟨v, _ | ⟨w, _ | ⟨x, r⟩⟩⟩
    · exact absurd h (by simp [mv_pure])
    · exact absurd h (by simp [mv_pure])
    · exact absurd h (by simp [mv_pure])
    · obtain ⟨h1, rfl⟩ := mv_bif h
      rw [Bool.and_eq_true, Bool.and_eq_true] at h1
      exact lv_dup_x2 hx hb hd (mv_tr_c1 ad h1.1) (mv_tr_c1 ad h1.2.1) (mv_tr_c1 ad h1.2.2) k
  case dup2 =>
    rcases st with _ | ⟨v, _ | ⟨w, r⟩⟩
    · exact absurd h (by simp [mv_pure])
    · exact absurd h (by simp [mv_pure])
    · obtain ⟨h1, rfl⟩ := mv_bif h
      rw [Bool.and_eq_true] at h1
      exact lv_dup2_11 hx hb hd (mv_tr_c1 ad h1.1) (mv_tr_c1 ad h1.2) k
  all_goals (exact absurd h (by simp [mv_pure]))
/-- locals: those that the small machine knows are held -/
def mv_Lc (ad : Nat → Nat) (ls : Array Slot) (nL : Nat) (lc : mv_L) : Prop := lv_has ls nL [] ∧ lc.length = nL ∧ ∀ (j : Nat) (v : Value), lc[j]? = some (some v) → ls[j]? = some (.val (mv_tr ad v))
def mv_lst (ad : Nat → Nat) (lc : mv_L) : List (Nat × Value) := (List.range lc.length).filterMap (fun j => match lc[j]? with
  | some (some v) => some (j, mv_tr ad v)
  | _ => none)
theorem mv_lst_in {ad : Nat → Nat} {lc : mv_L} {j : Nat} {v : Value} (h : lc[j]? = some (some v)) : (j, mv_tr ad v) ∈ mv_lst ad lc := by
  refine List.mem_filterMap.mpr ⟨j, List.mem_range.mpr (List.getElem?_eq_some_iff.mp h).1, ?_⟩
  rw [h]
theorem mv_lst_of {ad : Nat → Nat} {lc : mv_L} {q : Nat × Value} (h : q ∈ mv_lst ad lc) : ∃ v, lc[q.1]? = some (some v) ∧ q.2 = mv_tr ad v := by
  obtain ⟨j, -, hj⟩ := List.mem_filterMap.mp h
  split at hj
  · rename_i v hv
    cases hj
    exact ⟨v, hv, rfl⟩
  · cases hj
theorem mv_Lc_has {nL : Nat} {lc : mv_L} (h : mv_Lc ad ls nL lc) : lv_has ls nL (mv_lst ad lc) := ⟨h.1.1, h.1.2.1, fun q hq => by
  obtain ⟨v, h1, h2⟩ := mv_lst_of hq
  rw [h2]
  exact h.2.2 _ _ h1⟩
theorem mv_ok1_of {lc : mv_L} {n j : Nat} {w : Value} (h : mv_ok1 lc n = true) (hj : lc[j]? = some (some w)) (e : j + 1 = n) : w.category = 1 := by
  subst e
  unfold mv_ok1 at h
  simp only [hj] at h
  exact mv_c1_cat h
theorem mv_Lc_st1 {nL n : Nat} {lc : mv_L} {v : Value} {ls' : Array Slot} (h : mv_Lc ad ls nL lc) (hok : mv_ok1 lc n = true) (h' : lv_has ls' nL ((n, mv_tr ad v) :: (mv_lst ad lc).filter (fun q => !(q.1 == n) && !(q.1 + 1 == n && q.2.category == 2)))) : mv_Lc ad ls' nL (lc.set n (some v)) := by
  refine ⟨⟨h'.1, h'.2.1, fun q hq => by cases hq⟩, by rw [List.length_set]; exact h.2.1, fun j w hj => ?_⟩
  by_cases e : n = j
  · subst e
    rw [List.getElem?_set] at hj
    rw [if_pos rfl] at hj
    split at hj
    · cases hj
      exact h'.2.2 _ List.mem_cons_self
    · cases hj
  · rw [List.getElem?_set_ne e] at hj
    refine h'.2.2 (j, mv_tr ad w) (List.mem_cons_of_mem _ (List.mem_filter.mpr ⟨mv_lst_in hj, ?_⟩))
    have h1 : (j == n) = false := by simp; exact fun q => e q.symm
    have h2 : (j + 1 == n && (mv_tr ad w).category == 2) = false := by
      by_cases e2 : j + 1 = n
      · rw [mv_tr_cat, mv_ok1_of hok hj e2]; simp
      · have : (j + 1 == n) = false := by simp; exact e2
        rw [this]; rfl
    simp only [h1, h2]; rfl
theorem mv_Lc_st2 {nL n : Nat} {lc : mv_L} {x : Int64} {ls' : Array Slot} (h : mv_Lc ad ls nL lc) (hok : mv_ok1 lc n = true) (h' : lv_has ls' nL ((n, Value.long x) :: (mv_lst ad lc).filter (fun q => !(q.1 == n) && (!(q.1 == n + 1) && !(q.1 + 1 == n && q.2.category == 2))))) : mv_Lc ad ls' nL ((lc.set n (some (.long x))).set (n + 1) none) := by
  refine ⟨⟨h'.1, h'.2.1, fun q hq => by cases hq⟩, by rw [List.length_set, List.length_set]; exact h.2.1, fun j w hj => ?_⟩
  by_cases e3 : n + 1 = j
  · subst e3
    rw [List.getElem?_set] at hj
    rw [if_pos rfl] at hj
    split at hj
    · cases hj
    · cases hj
  rw [List.getElem?_set_ne e3] at hj
  by_cases e : n = j
  · subst e
    rw [List.getElem?_set] at hj
    rw [if_pos rfl] at hj
    split at hj
    · cases hj
      exact h'.2.2 _ List.mem_cons_self
    · cases hj
  · rw [List.getElem?_set_ne e] at hj
    refine h'.2.2 (j, mv_tr ad w) (List.mem_cons_of_mem _ (List.mem_filter.mpr ⟨mv_lst_in hj, ?_⟩))
    have h1 : (j == n) = false := by simp; exact fun q => e q.symm
    have h3 : (j == n + 1) = false := by simp; exact fun q => e3 q.symm
    have h2 : (j + 1 == n && (mv_tr ad w).category == 2) = false := by
      by_cases e2 : j + 1 = n
      · rw [mv_tr_cat, mv_ok1_of hok hj e2]; simp
      · have : (j + 1 == n) = false := by simp; exact e2
        rw [this]; rfl
    simp only [h1, h2, h3]; rfl
theorem mv_sti_inv {lc lc' : mv_L} {n : Nat} {st st' : List Value} (h : mv_sti lc n st = some (lc', st')) : ∃ x, st = .int x :: st' ∧ lc' = lc.set n (some (.int x)) ∧ mv_ok1 lc n = true ∧ n < lc.length := by
  unfold mv_sti at h
  split at h
  · obtain ⟨h1, h2⟩ := mv_bif h
    rw [Bool.and_eq_true] at h1
    cases h2
    exact ⟨_, rfl, rfl, h1.1, Nat.le_of_ble_eq_true h1.2⟩
  · cases h
theorem mv_sta_inv {lc lc' : mv_L} {n : Nat} {st st' : List Value} (h : mv_sta lc n st = some (lc', st')) : ∃ x, st = .ref x :: st' ∧ lc' = lc.set n (some (.ref x)) ∧ mv_ok1 lc n = true ∧ n < lc.length := by
  unfold mv_sta at h
  split at h
  · obtain ⟨h1, h2⟩ := mv_bif h
    rw [Bool.and_eq_true] at h1
    cases h2
    exact ⟨_, rfl, rfl, h1.1, Nat.le_of_ble_eq_true h1.2⟩
  · cases h
theorem mv_stl_inv {lc lc' : mv_L} {n : Nat} {st st' : List Value} (h : mv_stl lc n st = some (lc', st')) : ∃ x, st = .long x :: st' ∧ lc' = (lc.set n (some (.long x))).set (n + 1) none ∧ mv_ok1 lc n = true ∧ n + 1 < lc.length := by
  unfold mv_stl at h
  split at h
  · obtain ⟨h1, h2⟩ := mv_bif h
    rw [Bool.and_eq_true] at h1
    cases h2
    exact ⟨_, rfl, rfl, h1.1, Nat.le_of_ble_eq_true h1.2⟩
  · cases h
theorem mv_inc_inv {lc lc' : mv_L} {n : Nat} {z : Int} {st st' : List Value} (h : mv_inc lc n z st = some (lc', st')) : ∃ x, lc[n]? = some (some (.int x)) ∧ st' = st ∧ lc' = lc.set n (some (.int (x + Int32.ofInt z))) ∧ mv_ok1 lc n = true ∧ n < lc.length := by
  unfold mv_inc at h
  split at h
  · rename_i x hx
    obtain ⟨h1, h2⟩ := mv_bif h
    rw [Bool.and_eq_true] at h1
    cases h2
    exact ⟨x, hx, rfl, rfl, h1.1, Nat.le_of_ble_eq_true h1.2⟩
  · cases h
theorem mv_ldi_inv {lc lc' : mv_L} {n : Nat} {st st' : List Value} (h : mv_ldi lc n st = some (lc', st')) : ∃ x, lc[n]? = some (some (.int x)) ∧ lc' = lc ∧ st' = .int x :: st := by
  unfold mv_ldi at h
  split at h
  · rename_i x hx
    cases h
    exact ⟨x, hx, rfl, rfl⟩
  · cases h
theorem mv_ldl_inv {lc lc' : mv_L} {n : Nat} {st st' : List Value} (h : mv_ldl lc n st = some (lc', st')) : ∃ x, lc[n]? = some (some (.long x)) ∧ lc' = lc ∧ st' = .long x :: st := by
  unfold mv_ldl at h
  split at h
  · rename_i x hx
    cases h
    exact ⟨x, hx, rfl, rfl⟩
  · cases h
theorem mv_lda_inv {lc lc' : mv_L} {n : Nat} {st st' : List Value} (h : mv_lda lc n st = some (lc', st')) : ∃ x, lc[n]? = some (some (.ref x)) ∧ lc' = lc ∧ st' = .ref x :: st := by
  unfold mv_lda at h
  split at h
  · rename_i x hx
    cases h
    exact ⟨x, hx, rfl, rfl⟩
  · cases h
set_option maxHeartbeats 4000000 in
theorem mv_loc_ok (hx : p.tables.exec = Jvm.exec) (hb : cod.code = cc) {i : ClassFile.Instr} {nL : Nat} {lc lc' : mv_L} {st st' : List Value} (hd : decode cc pc = .ok (i, mv_len i)) (h : mv_loc i lc st = some (lc', st')) (hl : mv_Lc ad ls nL lc)
    (k : ∀ ls', mv_Lc ad ls' nL lc' → W p l e R s m args below meth cod H locs cells slots Qz (F0 m (pc + mv_len i) ls' (st'.map (mv_tr ad)))) : W p l e R s m args below meth cod H locs cells slots Qz (F0 m pc ls (st.map (mv_tr ad))) := by
  have hh := mv_Lc_has hl
  cases i
  case iload n => obtain ⟨x, h1, rfl, rfl⟩ := mv_ldi_inv h; exact lv_iload hx hb hd (hl.2.2 _ _ h1) (k _ hl)
  case iload_n n => obtain ⟨x, h1, rfl, rfl⟩ := mv_ldi_inv h; exact lv_iload_n hx hb hd rfl (hl.2.2 _ _ h1) (k _ hl)
  case lload n => obtain ⟨x, h1, rfl, rfl⟩ := mv_ldl_inv h; exact lv_lload hx hb hd (hl.2.2 _ _ h1) (k _ hl)
  case lload_n n => obtain ⟨x, h1, rfl, rfl⟩ := mv_ldl_inv h; exact lv_lload_n hx hb hd rfl (hl.2.2 _ _ h1) (k _ hl)
  case aload n => obtain ⟨x, h1, rfl, rfl⟩ := mv_lda_inv h; exact lv_aload hx hb hd (hl.2.2 _ _ h1) (k _ hl)
  case aload_n n => obtain ⟨x, h1, rfl, rfl⟩ := mv_lda_inv h; exact lv_aload_n hx hb hd rfl (hl.2.2 _ _ h1) (k _ hl)
  case istore n => obtain ⟨x, rfl, rfl, h1, h2⟩ := mv_sti_inv h; exact lv_istore hx hb hd hh (by rw [← hl.2.1]; exact h2) rfl (fun ls' h' => k ls' (mv_Lc_st1 hl h1 h'))
  case istore_n n => obtain ⟨x, rfl, rfl, h1, h2⟩ := mv_sti_inv h; exact lv_istore_n hx hb hd rfl hh (by rw [← hl.2.1]; exact h2) rfl (fun ls' h' => k ls' (mv_Lc_st1 hl h1 h'))
  case lstore n => obtain ⟨x, rfl, rfl, h1, h2⟩ := mv_stl_inv h; exact lv_lstore hx hb hd hh (by rw [← hl.2.1]; exact h2) rfl (fun ls' h' => k ls' (mv_Lc_st2 hl h1 h'))
  case lstore_n n => obtain ⟨x, rfl, rfl, h1, h2⟩ := mv_stl_inv h; exact lv_lstore_n hx hb hd rfl hh (by rw [← hl.2.1]; exact h2) rfl (fun ls' h' => k ls' (mv_Lc_st2 hl h1 h'))
  case astore n => obtain ⟨x, rfl, rfl, h1, h2⟩ := mv_sta_inv h; exact lv_astore hx hb hd hh (by rw [← hl.2.1]; exact h2) rfl (fun ls' h' => k ls' (mv_Lc_st1 (v := .ref x) hl h1 h'))
  case astore_n n => obtain ⟨x, rfl, rfl, h1, h2⟩ := mv_sta_inv h; exact lv_astore_n hx hb hd rfl hh (by rw [← hl.2.1]; exact h2) rfl (fun ls' h' => k ls' (mv_Lc_st1 (v := .ref x) hl h1 h'))
  case iinc n z =>
    obtain ⟨x, h0, rfl, rfl, h1, h2⟩ := mv_inc_inv h
    obtain ⟨q, hq⟩ := List.getElem?_of_mem (mv_lst_in (ad := ad) h0)
    exact lv_iinc hx hb hd hh hq rfl (by rw [← hl.2.1]; exact h2) rfl (fun ls' h' => k ls' (mv_Lc_st1 (v := .int (x + Int32.ofInt z)) hl h1 h'))
  all_goals (exact absurd h (by simp [mv_loc]))
theorem mv_cond_ok (hx : p.tables.exec = Jvm.exec) (hb : cod.code = cc) {i : ClassFile.Instr} {st r : List Value} {cn : Prop} {off : Int} {tgt : Nat} (hd : decode cc pc = .ok (i, mv_len i)) (h : mv_cond i st = some (cn, off, r)) (ht : (pc : Int) + off = (tgt : Int))
    (kt : cn → W p l e R s m args below meth cod H locs cells slots Qz (F0 m tgt ls (r.map (mv_tr ad)))) (kf : ¬ cn → W p l e R s m args below meth cod H locs cells slots Qz (F0 m (pc + 3) ls (r.map (mv_tr ad)))) : W p l e R s m args below meth cod H locs cells slots Qz (F0 m pc ls (st.map (mv_tr ad))) := by
  unfold mv_cond at h
  split at h
  · split at h
    · split at h
      · cases h; exact lv_if_eq hx hb hd ht kt kf
      · cases h; exact lv_if_ne hx hb hd ht kt (fun z => kf (fun g => g z))
      · cases h; exact lv_if_lt hx hb hd ht kt kf
      · cases h; exact lv_if_ge hx hb hd ht kt kf
      · cases h; exact lv_if_gt hx hb hd ht kt kf
      · cases h; exact lv_if_le hx hb hd ht kt kf
    · cases h
  · split at h
    · split at h
      · cases h; exact lv_icmp_eq hx hb hd ht kt kf
      · cases h; exact lv_icmp_ne hx hb hd ht kt (fun z => kf (fun g => g z))
      · cases h; exact lv_icmp_lt hx hb hd ht kt kf
      · cases h; exact lv_icmp_ge hx hb hd ht kt kf
      · cases h; exact lv_icmp_gt hx hb hd ht kt kf
      · cases h; exact lv_icmp_le hx hb hd ht kt kf
    · cases h
  · cases h
theorem mv_sw_ok (hx : p.tables.exec = Jvm.exec) (hb : cod.code = cc) {i : ClassFile.Instr} {n : Nat} {x : Int32} {r : List Value} {off : Int} {tgt : Nat} (hd : decode cc pc = .ok (i, n)) (h : mv_sw i x = some off) (ht : (pc : Int) + off = (tgt : Int))
    (k : W p l e R s m args below meth cod H locs cells slots Qz (F0 m tgt ls (r.map (mv_tr ad)))) : W p l e R s m args below meth cod H locs cells slots Qz (F0 m pc ls ((Value.int x :: r).map (mv_tr ad))) := by
  unfold mv_sw at h
  split at h
  · obtain ⟨h1, rfl⟩ := mv_bif h
    exact lv_lookup hx hb hd h1 rfl ht k
  · split at h
    · rename_i hc
      cases h
      exact lv_tableOut hx hb hd hc ht k
    · rename_i hc
      exact lv_tableIn hx hb hd (fun z => hc (Or.inl z)) (fun z => hc (Or.inr z)) h ht k
  · cases h
end MVP
end
section
/-! The small machine's cells over the great one's; the instructions that touch cells. -/
def mv_tys (cA : Nat → ClassId) : List (ClassId × FieldType) := [(cA 0, .int), (cA 1, .boolean), (cA 2, .byte), (cA 3, .long)]
def mv_cell (kd : List (List Nat)) (cA : Nat → ClassId) (ad : Nat → Nat) (S : mv_S) (k : Nat) (sh : mv_Sh) : va_E := match sh with
  | .inl q => .inl (cA q.1, q.2, bif Nat.beq q.1 3 then .inr (.inl (S.2.2.1 k)) else .inl (S.2.1 k))
  | .inr c => .inr (c, (kd.getD c []).mapIdx (fun j q => mv_tr ad (mv_fval q S k j)))
def mv_ws (kd : List (List Nat)) (cA : Nat → ClassId) (ad : Nat → Nat) (S : mv_S) : va_W := S.1.mapIdx (fun k sh => (ad k, mv_cell kd cA ad S k sh))
theorem mv_ws_get {kd : List (List Nat)} {cA : Nat → ClassId} {ad : Nat → Nat} {S : mv_S} {k : Nat} {sh : mv_Sh} (h : S.1[k]? = some sh) : (mv_ws kd cA ad S)[k]? = some (ad k, mv_cell kd cA ad S k sh) := by
  unfold mv_ws
  rw [List.getElem?_mapIdx, h]
  rfl
theorem mv_cell_far {kd : List (List Nat)} {cA : Nat → ClassId} {ad : Nat → Nat} {S S' : mv_S} {k : Nat} (h1 : S'.2.1 k = S.2.1 k) (h2 : S'.2.2.1 k = S.2.2.1 k) (h3 : S'.2.2.2 k = S.2.2.2 k) (sh : mv_Sh) : mv_cell kd cA ad S' k sh = mv_cell kd cA ad S k sh := by
  cases sh with
  | inl q => simp only [mv_cell, h1, h2]
  | inr c => simp only [mv_cell, mv_fval, h1, h2, h3]
theorem mv_ws_set {kd : List (List Nat)} {cA : Nat → ClassId} {ad : Nat → Nat} {S S' : mv_S} {k : Nat} {sh : mv_Sh} (h0 : S'.1 = S.1) (h : ∀ a, a ≠ k → S'.2.1 a = S.2.1 a ∧ S'.2.2.1 a = S.2.2.1 a ∧ S'.2.2.2 a = S.2.2.2 a) (hk : S.1[k]? = some sh) : mv_ws kd cA ad S' = (mv_ws kd cA ad S).set k (ad k, mv_cell kd cA ad S' k sh) := by
  refine List.ext_getElem? (fun j => ?_)
  by_cases e : k = j
  · subst e
    have hl : k < (mv_ws kd cA ad S).length := by
      unfold mv_ws
      rw [List.length_mapIdx]
      exact (List.getElem?_eq_some_iff.mp hk).1
    rw [List.getElem?_set_self hl, mv_ws_get (S := S') (by rw [h0]; exact hk)]
  · rw [List.getElem?_set_ne e]
    unfold mv_ws
    rw [List.getElem?_mapIdx, List.getElem?_mapIdx, h0]
    cases hj : S.1[j]? with
    | none => rfl
    | some x =>
      obtain ⟨a1, a2, a3⟩ := h j (fun q => e q.symm)
      simp only [Option.map_some, mv_cell_far a1 a2 a3]
theorem mv_up_far {α : Type} {f : Nat → Nat → α} {k j a : Nat} {x : α} (h : a ≠ k) : mv_up f k j x a = f a := by
  funext b
  simp [mv_up, h]
theorem mv_up_near {α : Type} {f : Nat → Nat → α} {k j b : Nat} {x : α} (h : b ≠ j) : mv_up f k j x k b = f k b := by
  simp [mv_up, h]
theorem mv_up_at {α : Type} {f : Nat → Nat → α} {k j : Nat} {x : α} : mv_up f k j x k j = x := by
  simp [mv_up]
theorem mv_flds_set {L : List Nat} {g g' : Nat → Nat → Value} {j c : Nat} (hj : L[j]? = some c) (h : ∀ b q, b ≠ j → g' b q = g b q) : L.mapIdx g' = (L.mapIdx g).set j (g' j c) := by
  refine List.ext_getElem? (fun b => ?_)
  by_cases e : j = b
  · subst e
    have hl : j < (L.mapIdx g).length := by
      rw [List.length_mapIdx]
      exact (List.getElem?_eq_some_iff.mp hj).1
    rw [List.getElem?_set_self hl, List.getElem?_mapIdx, hj]
    rfl
  · rw [List.getElem?_set_ne e, List.getElem?_mapIdx, List.getElem?_mapIdx]
    cases hb : L[b]? with
    | none => rfl
    | some x => simp only [Option.map_some, h b x (fun q => e q.symm)]
theorem mv_S_self {A : Nat → Prop} {H0 H : Heap} {locs : List Loc} (h : va_S A H0 H locs) : va_S A H H locs := ⟨Nat.le_refl _, fun _ _ _ => rfl, h.2.2⟩
theorem mv_S_trans {A : Nat → Prop} {H0 H H1 : Heap} {locs locs1 : List Loc} (h : va_S A H0 H locs) (k : va_S A H H1 locs1) : va_S A H0 H1 locs1 :=
  ⟨Nat.le_trans h.1 k.1, fun q h1 h2 => (k.2.1 q (Nat.lt_of_lt_of_le h1 h.1) h2).trans (h.2.1 q h1 h2), k.2.2⟩
/-- the kinds of a class's fields and their types -/
def mv_Kt (kc : Nat) (t : FieldType) : Prop := match kc with
  | 0 => t = .int
  | 1 => t = .boolean
  | 3 => t = .long
  | 4 => (∃ n, t = .object n) ∨ ∃ u, t = .array u
  | _ => False
def mv_Cl (cl : List vw_C) (kd : List (List Nat)) (Ts : List Jvm.Cond) : Prop := ∀ (ci : Nat) (C : String) (T : u_T) (N : Nat), cl[ci]? = some (C, T, N) → (∀ w ∈ u_ws C T N, w ∈ Ts) ∧ (kd.getD ci []).length = N ∧ (∃ ty : Nat → FieldType, ∀ k, k < N → parseFieldDescriptor (T k).2.2.1 = some (ty k) ∧ ∀ kc, (kd.getD ci [])[k]? = some kc → mv_Kt kc (ty k)) ∧ ∀ a, a < N → ∀ b, b < N → a ≠ b → (T a).2.1 ≠ (T b).2.1
/-- what stands while a method runs -/
def mv_Sts (A : Nat → Prop) (ad : Nat → Nat) (sta : Nat → List Int32) (stn : List (String × String × String)) (U : State) : Prop := ∀ (t : Nat) (q : String × String × String), stn[t]? = some q → va_Z q.1 q.2.1 q.2.2 (.ref (ad (100000 + t))) A U U.heap ∧ va_T .int (ad (100000 + t)) (sta t).length (fun j => .int ((sta t).getD j 0)) A U U.heap
def mv_Cx (p : Program) (s : State) (m : MethodId) (args : Array Value) (meth : Method) (cod : Code) (A : Nat → Prop) (D : va_G) (cl : List vw_C) (cA : Nat → ClassId) (ad : Nat → Nat) (Ts Nw : List Jvm.Cond) (sta : Nat → List Int32) (stn : List (String × String × String)) (M : mv_Me) : Prop :=
  p.tables.exec = Jvm.exec ∧ cod.code = (mv_cc M) ∧ cod.maxLocals = (mv_ml M) ∧ s.vm.findClass (mv_ow M) = some m.cls ∧ (∀ w ∈ Ts, w.before args s = true) ∧ (∀ w ∈ Nw, va_Nw w s) ∧ va_K D cl (mv_tys cA) s ∧ (∀ q, s.heap.size ≤ q → A q) ∧ meth.locks = false ∧ meth.sig.returnType = (mv_rt M) ∧ meth.name = M.1.name ∧ mv_Sts A ad sta stn s
/-- the cells at hand -/
def mv_Hc (A : Nat → Prop) (D : va_G) (cl : List vw_C) (kd : List (List Nat)) (cA : Nat → ClassId) (ad : Nat → Nat) (s : State) (S : mv_S) (vc : Nat) (H : Heap) (locs : List Loc) : Prop :=
  va_P D cl (mv_ws kd cA ad S) H ∧ va_D A (mv_ws kd cA ad S) ∧ va_S A s.heap H locs ∧ H.size = s.heap.size + vc ∧ ∀ k, S.1.length ≤ k → k < 100000 → ad k + S.1.length = H.size + k
def mv_lnk (Ts Nw : List Jvm.Cond) (own : String) (idx : Nat) (r n d : String) : Prop := Jvm.Cond.fieldLink own idx r n d ∈ Ts ∨ ∃ h, Jvm.Cond.fieldLinkNest own idx r n d h ∈ Nw
theorem mv_nb {x : Int32} (h : (x == 0 || x == 1) = true) : narrow .boolean (.int x) = .int x := by
  simp only [Bool.or_eq_true, beq_iff_eq] at h
  rcases h with rfl | rfl
  · rfl
  · rfl
section MVH
variable {p : Program} {l : Launch} {e : Env} {R : Room} {s : State} {m : MethodId} {args : Array Value} {below : List Frame} {meth : Method} {cod : Code} {H : Heap} {locs : List Loc} {cells slots : Nat} {Qz : State → Prop}
variable {pc : Nat} {ls : Array Slot} {ad : Nat → Nat} {A : Nat → Prop} {D : va_G} {cl : List vw_C} {kd : List (List Nat)} {cA : Nat → ClassId} {Ts Nw : List Jvm.Cond} {sta : Nat → List Int32} {stn : List (String × String × String)} {M : mv_Me} {S S' : mv_S} {st r : List Value}
theorem mv_Wsz {g : JFrame} (h : H.size ≤ s.heap.size + cells → W p l e R s m args below meth cod H locs cells slots Qz g) : W p l e R s m args below meth cod H locs cells slots Qz g := fun T hT X => h (by rw [← hT]; exact X.same.2.2.1) T hT X
theorem mv_get_ok (X : mv_Cx p s m args meth cod A D cl cA ad Ts Nw sta stn M) (hC : mv_Cl cl kd Ts) (hH : mv_Hc A D cl kd cA ad s S cells H locs) {idx a b c k : Nat} {C : String} {T : u_T} {N : Nat} (hd : decode (mv_cc M) pc = .ok (.getfield idx, 3)) (h1 : cl[a]? = some (C, T, N)) (h2 : (kd.getD a [])[b]? = some c) (h3 : mv_lnk Ts Nw (mv_ow M) idx (T b).1 (T b).2.1 (T b).2.2.1) (hk : S.1[k]? = some (.inr a))
    (kk : W p l e R s m args below meth cod H locs cells slots Qz (F0 m (pc + 3) ls ((mv_fval c S k b :: r).map (mv_tr ad)))) : W p l e R s m args below meth cod H locs cells slots Qz (F0 m pc ls ((Value.ref k :: r).map (mv_tr ad))) := by
  obtain ⟨hx, hb, -, hown, hts, hnw, hK, -⟩ := X
  obtain ⟨c1, c2, -, -⟩ := hC a C T N h1
  have hbN : b < N := by rw [← c2]; exact (List.getElem?_eq_some_iff.mp h2).1
  have hv : ((kd.getD a []).mapIdx (fun j q => mv_tr ad (mv_fval q S k j)))[b]? = some (mv_tr ad (mv_fval c S k b)) := by
    rw [List.getElem?_mapIdx, h2]; rfl
  rcases h3 with h3 | ⟨h, h3⟩
  · exact va_get hx hb hts c1 hown hK hH.1 k (mv_ws_get hk) h1 b hbN (hts _ h3) (fun _ h9 => h9) hv hd kk
  · exact va_getN hx hb hts c1 hown hK hH.1 k (mv_ws_get hk) h1 b hbN (va_Nw.use rfl (hnw _ h3)) (fun _ h9 => h9) hv hd kk
theorem mv_put_inv {c : Nat} {v : Value} {k j : Nat} {t : FieldType} (h : mv_put c v S k j = some S') (ht : mv_Kt c t) : S'.1 = S.1 ∧ (∀ a, a ≠ k → S'.2.1 a = S.2.1 a ∧ S'.2.2.1 a = S.2.2.1 a ∧ S'.2.2.2 a = S.2.2.2 a) ∧ (∀ b q, b ≠ j → mv_fval q S' k b = mv_fval q S k b) ∧ mv_fval c S' k j = v ∧ narrow t (mv_tr ad v) = mv_tr ad v ∧ fits t (mv_tr ad v) = true := by
  unfold mv_put at h
  split at h
  · cases h
    have ht : t = .int := ht
    subst ht
    exact ⟨rfl, fun a q => ⟨mv_up_far q, rfl, rfl⟩, fun b q hb => by simp only [mv_fval, mv_up_near hb], by show Value.int (mv_up S.2.1 k j _ k j) = _; rw [mv_up_at], rfl, rfl⟩
  · obtain ⟨h1, h2⟩ := mv_bif h
    cases h2
    have ht : t = .boolean := ht
    subst ht
    exact ⟨rfl, fun a q => ⟨mv_up_far q, rfl, rfl⟩, fun b q hb => by simp only [mv_fval, mv_up_near hb], by show Value.int (mv_up S.2.1 k j _ k j) = _; rw [mv_up_at], mv_nb h1, h1⟩
  · cases h
    have ht : t = .long := ht
    subst ht
    exact ⟨rfl, fun a q => ⟨rfl, mv_up_far q, rfl⟩, fun b q hb => by simp only [mv_fval, mv_up_near hb], by show Value.long (mv_up S.2.2.1 k j _ k j) = _; rw [mv_up_at], rfl, rfl⟩
  · cases h
    have ht : (∃ n, t = .object n) ∨ ∃ u, t = .array u := ht
    refine ⟨rfl, fun a q => ⟨rfl, rfl, mv_up_far q⟩, fun b q hb => by simp only [mv_fval, mv_up_near hb], by show (match mv_up S.2.2.2 k j (some _) k j with | none => Value.null | some q => .ref q) = _; rw [mv_up_at], ?_⟩
    rcases ht with ⟨n, rfl⟩ | ⟨u, rfl⟩
    · exact ⟨rfl, rfl⟩
    · exact ⟨rfl, rfl⟩
  · cases h
theorem mv_put_ok (X : mv_Cx p s m args meth cod A D cl cA ad Ts Nw sta stn M) (hC : mv_Cl cl kd Ts) (hH : mv_Hc A D cl kd cA ad s S cells H locs) {idx a b c k : Nat} {C : String} {T : u_T} {N : Nat} {v : Value} (hd : decode (mv_cc M) pc = .ok (.putfield idx, 3)) (h1 : cl[a]? = some (C, T, N)) (h2 : (kd.getD a [])[b]? = some c)
    (h3 : ((T b).2.2.2 = false ∧ mv_lnk Ts Nw (mv_ow M) idx (T b).1 (T b).2.1 (T b).2.2.1) ∨ ((T b).2.2.2 = true ∧ M.1.name = "<init>" ∧ (T b).1 = (mv_ow M) ∧ Jvm.Cond.fieldLink (mv_ow M) idx (T b).1 (T b).2.1 (T b).2.2.1 ∈ Ts)) (hk : S.1[k]? = some (.inr a)) (hp : mv_put c v S k b = some S')
    (kk : ∀ (H1 : Heap) (locs1 : List Loc), mv_Hc A D cl kd cA ad s S' cells H1 locs1 → W p l e R s m args below meth cod H1 locs1 cells slots Qz (F0 m (pc + 3) ls (r.map (mv_tr ad)))) : W p l e R s m args below meth cod H locs cells slots Qz (F0 m pc ls ((v :: Value.ref k :: r).map (mv_tr ad))) := by
  obtain ⟨hx, hb, -, hown, hts, hnw, hK, -, -, -, hnm, -⟩ := X
  obtain ⟨c1, c2, ⟨ty, c3⟩, c4⟩ := hC a C T N h1
  have hbN : b < N := by rw [← c2]; exact (List.getElem?_eq_some_iff.mp h2).1
  obtain ⟨hH1, hH2, hH3, hH4, hH5⟩ := hH
  obtain ⟨p0, p1, p2, p3, p4, p5⟩ := mv_put_inv (ad := ad) hp ((c3 b hbN).2 c h2)
  have hws : mv_ws kd cA ad S' = (mv_ws kd cA ad S).set k (ad k, .inr (a, ((kd.getD a []).mapIdx (fun j q => mv_tr ad (mv_fval q S k j))).set b (mv_tr ad v))) := by
    have hf := mv_flds_set (L := kd.getD a []) (g := fun j q => mv_tr ad (mv_fval q S k j)) (g' := fun j q => mv_tr ad (mv_fval q S' k j)) h2 (fun b' q hb' => by simp only [p2 b' q hb'])
    simp only [p3] at hf
    have hcell : mv_cell kd cA ad S' k (.inr a) = .inr (a, ((kd.getD a []).mapIdx (fun j q => mv_tr ad (mv_fval q S k j))).set b (mv_tr ad v)) := by
      show (Sum.inr (a, (kd.getD a []).mapIdx (fun j q => mv_tr ad (mv_fval q S' k j))) : va_E) = _
      rw [hf]
    rw [mv_ws_set p0 p1 hk, hcell]
  have hl : b < ((kd.getD a []).mapIdx (fun j q => mv_tr ad (mv_fval q S k j))).length := by
    rw [List.length_mapIdx, c2]; exact hbN
  have fin : ∀ (H1 : Heap) (locs1 : List Loc), va_P D cl ((mv_ws kd cA ad S).set k (ad k, .inr (a, ((kd.getD a []).mapIdx (fun j q => mv_tr ad (mv_fval q S k j))).set b (mv_tr ad v)))) H1 → va_D A ((mv_ws kd cA ad S).set k (ad k, .inr (a, ((kd.getD a []).mapIdx (fun j q => mv_tr ad (mv_fval q S k j))).set b (mv_tr ad v)))) → va_S A H H1 locs1 → W p l e R s m args below meth cod H1 locs1 cells slots Qz (F0 m (pc + 3) ls (r.map (mv_tr ad))) := by
    intro H1 locs1 q1 q2 q3
    refine mv_Wsz (fun hz => ?_)
    have hsz : H1.size = H.size := by have := q3.1; omega
    exact kk H1 locs1 ⟨by rw [hws]; exact q1, by rw [hws]; exact q2, mv_S_trans hH3 q3, by rw [hsz]; exact hH4, by rw [p0, hsz]; exact hH5⟩
  rcases h3 with ⟨f1, f2⟩ | ⟨f1, f2, f3, f4⟩
  · rcases f2 with f2 | ⟨h, f2⟩
    · exact va_put hx hb hts c1 ty (fun k hk => (c3 k hk).1) c4 hown hK hH1 hH2 (mv_S_self hH3) k (mv_ws_get hk) h1 b hbN (hts _ f2) (fun _ h9 => h9) f1 (c3 b hbN).1 p4 p5 hl hd fin
    · exact va_putN hx hb hts c1 ty (fun k hk => (c3 k hk).1) c4 hown hK hH1 hH2 (mv_S_self hH3) k (mv_ws_get hk) h1 b hbN (va_Nw.use rfl (hnw _ f2)) (fun _ h9 => h9) f1 (c3 b hbN).1 p4 p5 hl hd fin
  · exact va_putF hx hb hts c1 ty (fun k hk => (c3 k hk).1) c4 hown hK hH1 hH2 (mv_S_self hH3) k (mv_ws_get hk) h1 b hbN (hts _ f4) (fun _ h9 => h9) f1 (hnm.trans f2) f3 (c3 b hbN).1 p4 p5 hl hd fin
theorem mv_alen_ok (X : mv_Cx p s m args meth cod A D cl cA ad Ts Nw sta stn M) (hH : mv_Hc A D cl kd cA ad s S cells H locs) {k t n : Nat} (hd : decode (mv_cc M) pc = .ok (.arraylength, 1)) (ht : t ≤ 3) (hk : S.1[k]? = some (.inl (t, n)))
    (kk : W p l e R s m args below meth cod H locs cells slots Qz (F0 m (pc + 1) ls ((Value.int (Int32.ofNat n) :: r).map (mv_tr ad)))) : W p l e R s m args below meth cod H locs cells slots Qz (F0 m pc ls ((Value.ref k :: r).map (mv_tr ad))) := by
  obtain ⟨hx, hb, -, hown, hts, hnw, hK, -⟩ := X
  have hg := mv_ws_get (kd := kd) (cA := cA) (ad := ad) hk
  have hty : (mv_tys cA)[t]? = some (cA t, mv_ty t) := by
    rcases (show t = 0 ∨ t = 1 ∨ t = 2 ∨ t = 3 by omega) with rfl | rfl | rfl | rfl <;> rfl
  exact va_alen hx hb hK hH.1 k t hg hty rfl hd kk
end MVH
end
section
/-! The small machine: arrays, what is made. -/
section MVA
variable {p : Program} {l : Launch} {e : Env} {R : Room} {s : State} {m : MethodId} {args : Array Value} {below : List Frame} {meth : Method} {cod : Code} {H : Heap} {locs : List Loc} {cells slots : Nat} {Qz : State → Prop}
variable {pc : Nat} {ls : Array Slot} {ad : Nat → Nat} {A : Nat → Prop} {D : va_G} {cl : List vw_C} {kd : List (List Nat)} {cA : Nat → ClassId} {Ts Nw : List Jvm.Cond} {sta : Nat → List Int32} {stn : List (String × String × String)} {M : mv_Me} {S S' : mv_S} {st r : List Value}
theorem mv_ald_ok (X : mv_Cx p s m args meth cod A D cl cA ad Ts Nw sta stn M) (hH : mv_Hc A D cl kd cA ad s S cells H locs) (hst : ∀ k, 100000 ≤ k → (sta (k - 100000)).length = 0 ∨ ∃ q, stn[k - 100000]? = some q) {i : ClassFile.Instr} {x : Int32} {k N n : Nat} {v : Value} (hd : decode (mv_cc M) pc = .ok (i, n)) (hn : n = 1) (h : mv_ald sta i S k x = some (N, v)) (hin : vp_in x N)
    (kk : W p l e R s m args below meth cod H locs cells slots Qz (F0 m (pc + 1) ls ((v :: r).map (mv_tr ad)))) : W p l e R s m args below meth cod H locs cells slots Qz (F0 m pc ls ((Value.int x :: Value.ref k :: r).map (mv_tr ad))) := by
  subst hn
  obtain ⟨hx, hb, -, hown, hts, hnw, hK, -, -, -, -, hsts⟩ := X
  unfold mv_ald at h
  split at h
  · rename_i t n hk
    have hg := mv_ws_get (kd := kd) (cA := cA) (ad := ad) hk
    split at h
    · cases h; exact va_iald hx hb hK hH.1 k 0 hg rfl hin hd kk
    · cases h; exact va_zald hx hb hK hH.1 k 1 hg rfl hin hd kk
    · cases h; exact va_bald hx hb hK hH.1 k 2 hg rfl hin hd kk
    · cases h; exact va_lald hx hb hK hH.1 k 3 hg rfl hin hd kk
    · cases h
  · cases h
  · split at h
    · obtain ⟨h1, h2⟩ := mv_bif h
      cases h2
      have h1 : 100000 ≤ k := Nat.le_of_ble_eq_true h1
      rcases hst k h1 with h3 | ⟨q, h3⟩
      · rw [h3] at hin
        exact (hin (Or.inr (Nat.zero_le _))).elim
      · have hT := (hsts _ _ h3).2
        have ek : 100000 + (k - 100000) = k := by omega
        rw [ek] at hT
        exact va_ti hx hb hT hH.2.2.1 hin rfl hd kk
    · cases h
theorem mv_ast_inv {i : ClassFile.Instr} {k : Nat} {x : Int32} {v : Value} {N : Nat} (h : mv_ast i S k x v = some (N, S')) : S'.1 = S.1 ∧ (∀ a, a ≠ k → S'.2.1 a = S.2.1 a ∧ S'.2.2.1 a = S.2.2.1 a ∧ S'.2.2.2 a = S.2.2.2 a) := by
  unfold mv_ast at h
  split at h
  · split at h
    · cases h; exact ⟨rfl, fun a q => ⟨mv_up_far q, rfl, rfl⟩⟩
    · cases h; exact ⟨rfl, fun a q => ⟨mv_up_far q, rfl, rfl⟩⟩
    · cases h; exact ⟨rfl, fun a q => ⟨mv_up_far q, rfl, rfl⟩⟩
    · cases h; exact ⟨rfl, fun a q => ⟨rfl, mv_up_far q, rfl⟩⟩
    · cases h
  · cases h
theorem mv_up_row (f : Nat → Nat → Int32) (k j : Nat) (x : Int32) : mv_up f k j x k = upd (f k) j x := by
  funext b
  simp [mv_up, upd]
theorem mv_up_rowL (f : Nat → Nat → Int64) (k j : Nat) (x : Int64) : mv_up f k j x k = vp_updL (f k) j x := by
  funext b
  simp [mv_up, vp_updL]
theorem mv_ast_ok (X : mv_Cx p s m args meth cod A D cl cA ad Ts Nw sta stn M) (hH : mv_Hc A D cl kd cA ad s S cells H locs) {i : ClassFile.Instr} {x : Int32} {k N n : Nat} {v : Value} (hd : decode (mv_cc M) pc = .ok (i, n)) (hn : n = 1) (h : mv_ast i S k x v = some (N, S')) (hin : vp_in x N)
    (kk : ∀ (H1 : Heap) (locs1 : List Loc), mv_Hc A D cl kd cA ad s S' cells H1 locs1 → W p l e R s m args below meth cod H1 locs1 cells slots Qz (F0 m (pc + 1) ls (r.map (mv_tr ad)))) : W p l e R s m args below meth cod H locs cells slots Qz (F0 m pc ls ((v :: Value.int x :: Value.ref k :: r).map (mv_tr ad))) := by
  subst hn
  obtain ⟨p0, p1⟩ := mv_ast_inv h
  obtain ⟨hx, hb, -, hown, hts, hnw, hK, -⟩ := X
  obtain ⟨hH1, hH2, hH3, hH4, hH5⟩ := hH
  have fin : ∀ (E : Nat × va_E), mv_ws kd cA ad S' = (mv_ws kd cA ad S).set k E → ∀ (H1 : Heap) (locs1 : List Loc), va_P D cl ((mv_ws kd cA ad S).set k E) H1 → va_D A ((mv_ws kd cA ad S).set k E) → va_S A H H1 locs1 → W p l e R s m args below meth cod H1 locs1 cells slots Qz (F0 m (pc + 1) ls (r.map (mv_tr ad))) := by
    intro E hws H1 locs1 q1 q2 q3
    refine mv_Wsz (fun hz => ?_)
    have hsz : H1.size = H.size := by have := q3.1; omega
    exact kk H1 locs1 ⟨by rw [hws]; exact q1, by rw [hws]; exact q2, mv_S_trans hH3 q3, by rw [hsz]; exact hH4, by rw [p0, hsz]; exact hH5⟩
  unfold mv_ast at h
  split at h
  · rename_i t n hk
    have hg := mv_ws_get (kd := kd) (cA := cA) (ad := ad) hk
    have hw := mv_ws_set (kd := kd) (cA := cA) (ad := ad) p0 p1 hk
    split at h
    · cases h
      exact va_iast hx hb hK hH1 hH2 (mv_S_self hH3) k 0 hg rfl hin hd (fin _ (by rw [hw]; simp only [mv_cell, mv_up_row]; rfl))
    · cases h
      exact va_zast hx hb hK hH1 hH2 (mv_S_self hH3) k 1 hg rfl hin hd (fin _ (by rw [hw]; simp only [mv_cell, mv_up_row]; rfl))
    · cases h
      exact va_bast hx hb hK hH1 hH2 (mv_S_self hH3) k 2 hg rfl hin hd (fin _ (by rw [hw]; simp only [mv_cell, mv_up_row]; rfl))
    · cases h
      exact va_last hx hb hK hH1 hH2 (mv_S_self hH3) k 3 hg rfl hin hd (fin _ (by rw [hw]; simp only [mv_cell, mv_up_rowL]; rfl))
    · cases h
  · cases h
theorem mv_clr_far {α : Type} {f : Nat → Nat → α} {k a : Nat} {x : α} (h : a ≠ k) : mv_clr f k x a = f a := by
  funext b
  simp [mv_clr, h]
theorem mv_clr_at {α : Type} {f : Nat → Nat → α} {k : Nat} {x : α} : mv_clr f k x k = fun _ => x := by
  funext b
  simp [mv_clr]
theorem mv_ws_new (sh : mv_Sh) : mv_ws kd cA ad (mv_new S sh) = mv_ws kd cA ad S ++ [(ad S.1.length, mv_cell kd cA ad (mv_new S sh) S.1.length sh)] := by
  refine List.ext_getElem? (fun j => ?_)
  have hl : (mv_ws kd cA ad S).length = S.1.length := by unfold mv_ws; rw [List.length_mapIdx]
  rcases Nat.lt_trichotomy j S.1.length with h | h | h
  · rw [List.getElem?_append_left (by omega)]
    unfold mv_ws
    rw [List.getElem?_mapIdx, List.getElem?_mapIdx, show (mv_new S sh).1 = S.1 ++ [sh] from rfl, List.getElem?_append_left h]
    have e : j ≠ S.1.length := by omega
    cases hj : S.1[j]? with
    | none => rfl
    | some x => simp only [Option.map_some, mv_cell_far (S' := mv_new S sh) (S := S) (mv_clr_far e) (mv_clr_far e) (mv_clr_far e)]
  · subst h
    rw [List.getElem?_append_right (by omega), hl, Nat.sub_self]
    rw [mv_ws_get (S := mv_new S sh) (sh := sh) (by show (S.1 ++ [sh])[S.1.length]? = some sh; rw [List.getElem?_append_right (Nat.le_refl _), Nat.sub_self]; rfl)]
    rfl
  · rw [List.getElem?_eq_none (by show (mv_ws kd cA ad (mv_new S sh)).length ≤ j; unfold mv_ws; rw [List.length_mapIdx]; show (S.1 ++ [sh]).length ≤ j; rw [List.length_append]; simp; omega), List.getElem?_eq_none (by rw [List.length_append, hl]; simp; omega)]
/-- a new cell at the end of the heap -/
theorem mv_Hc_new {sh : mv_Sh} (hA : ∀ q, s.heap.size ≤ q → A q) (hH : mv_Hc A D cl kd cA ad s S cells H locs) (hn : S.1.length < 100000) {H1 : Heap} (z : H1.size = H.size + 1) (o : ∀ q, q < H.size → H1[q]? = H[q]?) (hc : va_at D cl (H.size, mv_cell kd cA ad (mv_new S sh) S.1.length sh) H1) : mv_Hc A D cl kd cA ad s (mv_new S sh) (cells + 1) H1 locs := by
  obtain ⟨hP, hD, hS, hz, ht⟩ := hH
  have ha : ad S.1.length = H.size := by have := ht S.1.length (Nat.le_refl _) hn; omega
  refine ⟨?_, ?_, ⟨Nat.le_trans hS.1 (by omega), fun x h1 h2 => (o x (Nat.lt_of_lt_of_le h1 hS.1)).trans (hS.2.1 x h1 h2), hS.2.2⟩, by omega, ?_⟩
  · rw [mv_ws_new, ha]
    refine (hP.kept (fun k x hx => o x.1 ((hP k x hx).lt))).app (fun k x hx => ?_)
    have hz : k < 1 := (List.getElem?_eq_some_iff.mp hx).1
    rw [show k = 0 by omega] at hx
    cases hx
    exact hc
  · rw [mv_ws_new, ha]
    exact hD.push hP rfl (hA _ hS.1)
  · intro k h1 h2
    have e : (mv_new S sh).1.length = S.1.length + 1 := by show (S.1 ++ [sh]).length = _; rw [List.length_append]; rfl
    rw [e] at h1 ⊢
    have := ht k (by omega) h2
    omega
theorem mv_new_ok (X : mv_Cx p s m args meth cod A D cl cA ad Ts Nw sta stn M) (hC : mv_Cl cl kd Ts) (hH : mv_Hc A D cl kd cA ad s S cells H locs) {idx a b : Nat} {C : String} {T : u_T} (hd : decode (mv_cc M) pc = .ok (.new idx, 3)) (h1 : cl[a]? = some (C, T, b)) (h2 : Jvm.Cond.classLink (mv_ow M) idx C ∈ Ts) (h3 : Jvm.Cond.instantiable C b ∈ Ts) (h4 : Jvm.Cond.initialized C ∈ Ts) (hn : S.1.length < 100000) (hcells : cells + 1 ≤ R.cells) (hslots : slots + b ≤ R.slots)
    (kk : ∀ (H1 : Heap), mv_Hc A D cl kd cA ad s (mv_new S (.inr a)) (cells + 1) H1 locs → W p l e R s m args below meth cod H1 locs (cells + 1) (slots + b) Qz (F0 m (pc + 3) ls ((Value.ref S.1.length :: r).map (mv_tr ad)))) : W p l e R s m args below meth cod H locs cells slots Qz (F0 m pc ls (r.map (mv_tr ad))) := by
  obtain ⟨hx, hb, -, hown, hts, hnw, hK, hA, -⟩ := X
  obtain ⟨c1, c2, ⟨ty, c3⟩, c4⟩ := hC a C T b h1
  have hKn := hK.1 a _ h1
  have ha : ad S.1.length = H.size := by have := hH.2.2.2.2 S.1.length (Nat.le_refl _) hn; omega
  refine W.newcK hx hb hown (hts _ h2) (hts _ h3) (hts _ h4) rfl hd hcells hslots hKn.2.1 rfl fun H1 kC hkC e1 z1 o1 => ?_
  have := kk H1 (mv_Hc_new hA hH hn z1 o1 ⟨_, h1, (u_born ty hts c1 hKn hkC e1 (fun k hk => (c3 k hk).1)).to (fun j hj => ?_)⟩)
  · rw [← ha]; exact this
  · have hlt : j < (kd.getD a []).length := by rw [c2]; exact hj
    obtain ⟨kc, hkc⟩ : ∃ kc, (kd.getD a [])[j]? = some kc := ⟨_, List.getElem?_eq_getElem hlt⟩
    have hkt := (c3 j hj).2 kc hkc
    have hv : vp_V ((kd.getD a []).mapIdx (fun j q => mv_tr ad (mv_fval q (mv_new S (.inr a)) S.1.length j))) j = mv_tr ad (mv_fval kc (mv_new S (.inr a)) S.1.length j) := by
      unfold vp_V
      rw [List.getD_eq_getElem?_getD, List.getElem?_mapIdx, hkc]
      rfl
    show defaultValue (ty j) = vp_V _ j
    rw [hv]
    have e1 : (mv_new S (.inr a)).2.1 S.1.length = fun _ => 0 := mv_clr_at
    have e2 : (mv_new S (.inr a)).2.2.1 S.1.length = fun _ => 0 := mv_clr_at
    have e3 : (mv_new S (.inr a)).2.2.2 S.1.length = fun _ => none := mv_clr_at
    unfold mv_Kt at hkt
    split at hkt
    · rw [hkt]; simp only [mv_fval, e1]; rfl
    · rw [hkt]; simp only [mv_fval, e1]; rfl
    · rw [hkt]; simp only [mv_fval, e2]; rfl
    · rcases hkt with ⟨n, hkt⟩ | ⟨u, hkt⟩
      · rw [hkt]; simp only [mv_fval, e3]; rfl
      · rw [hkt]; simp only [mv_fval, e3]; rfl
    · exact hkt.elim
theorem mv_newa_ok (X : mv_Cx p s m args meth cod A D cl cA ad Ts Nw sta stn M) (hH : mv_Hc A D cl kd cA ad s S cells H locs) {t : ClassFile.ArrayType} {c : Nat} {x : Int32} (hd : decode (mv_cc M) pc = .ok (.newarray t, 2)) (h1 : c ≤ 3) (h2 : Op.newarray.typeOf t = mv_ty c) (h3 : Jvm.Cond.arrayClass (mv_ty c) ∈ Ts) (hn : S.1.length < 100000) (hx0 : ¬ x < 0) (hx1 : x.toNatClampNeg ≤ 1000000) (hcells : cells + 1 ≤ R.cells) (hslots : slots + x.toNatClampNeg ≤ R.slots)
    (kk : ∀ (H1 : Heap), mv_Hc A D cl kd cA ad s (mv_new S (.inl (c, x.toNatClampNeg))) (cells + 1) H1 locs → W p l e R s m args below meth cod H1 locs (cells + 1) (slots + x.toNatClampNeg) Qz (F0 m (pc + 2) ls ((Value.ref S.1.length :: r).map (mv_tr ad)))) : W p l e R s m args below meth cod H locs cells slots Qz (F0 m pc ls ((Value.int x :: r).map (mv_tr ad))) := by
  obtain ⟨hx, hb, -, hown, hts, hnw, hK, hA, -⟩ := X
  have ha : ad S.1.length = H.size := by have := hH.2.2.2.2 S.1.length (Nat.le_refl _) hn; omega
  have hty : (mv_tys cA)[c]? = some (cA c, mv_ty c) := by
    rcases (show c = 0 ∨ c = 1 ∨ c = 2 ∨ c = 3 by omega) with rfl | rfl | rfl | rfl <;> rfl
  have hRA := (hK.2 c _ hty).2
  have hby : x.toNatClampNeg * componentBytes (Op.newarray.typeOf t) ≤ 536870912 := by
    have : componentBytes (Op.newarray.typeOf t) ≤ 8 := by cases t <;> decide
    calc x.toNatClampNeg * componentBytes (Op.newarray.typeOf t) ≤ 1000000 * 8 := Nat.mul_le_mul hx1 this
      _ ≤ 536870912 := by decide
  refine va_newaK hx hb (by rw [h2]; exact hts _ h3) rfl hd rfl hx0 rfl hby hcells hslots rfl fun H1 cB e1 z1 o1 hAr hNm => ?_
  have hcB : cB = cA c := by
    rw [h2] at hNm
    rcases (show c = 0 ∨ c = 1 ∨ c = 2 ∨ c = 3 by omega) with rfl | rfl | rfl | rfl
    · exact Option.some.inj (hNm.symm.trans hRA)
    · exact Option.some.inj (hNm.symm.trans hRA)
    · exact Option.some.inj (hNm.symm.trans hRA)
    · exact Option.some.inj (hNm.symm.trans hRA)
  have := kk H1 (mv_Hc_new hA hH hn z1 o1 ?_)
  · show W p l e R s m args below meth cod H1 locs (cells + 1) (slots + x.toNatClampNeg) Qz (F0 m (pc + 2) ls (Value.ref H.size :: r.map (mv_tr ad)))
    rw [← ha]; exact this
  · show H1[H.size]? = some (vp_cell _ _)
    rw [e1, h2, hcB]
    have f1 : (mv_new S (.inl (c, x.toNatClampNeg))).2.1 S.1.length = fun _ => 0 := mv_clr_at
    have f2 : (mv_new S (.inl (c, x.toNatClampNeg))).2.2.1 S.1.length = fun _ => 0 := mv_clr_at
    rw [f1, f2]
    rcases (show c = 0 ∨ c = 1 ∨ c = 2 ∨ c = 3 by omega) with rfl | rfl | rfl | rfl <;> rfl
end MVA
end
section
/-! The small machine's answers are the great one's. -/
def mv_mlk (Ts Nw : List Jvm.Cond) (own : String) (idx : Nat) (y : MethodName) : Prop := Jvm.Cond.methodLink own idx y ∈ Ts ∨ ∃ h, Jvm.Cond.methodLinkNest own idx y h ∈ Nw
def mv_np (y : MethodName) (n : Nat) : Prop := (parseMethodDescriptor y.desc).map (fun d => d.parameters.length) = some n
/-- a callee's room in its caller's -/
def mv_rm (M Mj : mv_Me) : Prop := mv_fr Mj + 1 ≤ mv_fr M ∧ 8 + (mv_ml Mj + 11) + mv_lo Mj ≤ mv_lo M
/-- what a row of a method's table must keep to -/
def mv_Rw (cl : List vw_C) (kd : List (List Nat)) (Ts Nw : List Jvm.Cond) (prog : List mv_Me) (stn : List (String × String × String)) (M : mv_Me) (i : ClassFile.Instr) (n a b c d : Nat) : Prop := match i with
  | .getfield idx => n = 3 ∧ ∃ (C : String) (T : u_T) (N : Nat), cl[a]? = some (C, T, N) ∧ (kd.getD a [])[b]? = some c ∧ mv_lnk Ts Nw (mv_ow M) idx (T b).1 (T b).2.1 (T b).2.2.1
  | .putfield idx => n = 3 ∧ ∃ (C : String) (T : u_T) (N : Nat), cl[a]? = some (C, T, N) ∧ (kd.getD a [])[b]? = some c ∧ (((T b).2.2.2 = false ∧ mv_lnk Ts Nw (mv_ow M) idx (T b).1 (T b).2.1 (T b).2.2.1) ∨ ((T b).2.2.2 = true ∧ M.1.name = "<init>" ∧ (T b).1 = (mv_ow M) ∧ Jvm.Cond.fieldLink (mv_ow M) idx (T b).1 (T b).2.1 (T b).2.2.1 ∈ Ts))
  | .new idx => n = 3 ∧ ∃ (C : String) (T : u_T), cl[a]? = some (C, T, b) ∧ Jvm.Cond.classLink (mv_ow M) idx C ∈ Ts ∧ Jvm.Cond.instantiable C b ∈ Ts ∧ Jvm.Cond.initialized C ∈ Ts
  | .newarray t => n = 2 ∧ c ≤ 3 ∧ Op.newarray.typeOf t = mv_ty c ∧ Jvm.Cond.arrayClass (mv_ty c) ∈ Ts
  | .ldc idx => n = 2 ∧ Jvm.Cond.constant (mv_ow M) idx (Int32.ofNat a) ∈ Ts
  | .ldc_w idx => n = 3 ∧ Jvm.Cond.constant (mv_ow M) idx (Int32.ofNat a) ∈ Ts
  | .ldc2_w idx => n = 3 ∧ Jvm.Cond.constantLong (mv_ow M) idx (Int64.ofNat a) ∈ Ts
  | .getstatic idx => n = 3 ∧ ∃ q, stn[a]? = some q ∧ Jvm.Cond.fieldLink (mv_ow M) idx q.1 q.2.1 q.2.2 ∈ Ts
  | .invokespecial idx => n = 3 ∧ (c = 3 → 1 ≤ mv_fr M ∧ 20 ≤ mv_lo M ∧ Jvm.Cond.methodLink (mv_ow M) idx Lib.objectInit ∈ Ts ∧ Jvm.Cond.instanceMethod Lib.objectInit ∈ Ts ∧ Jvm.Cond.code Lib.objectInit ⟨#[0xb1]⟩ 1 none ∈ Ts) ∧ (c = 2 → ∃ (Mj : mv_Me) (np : Nat), prog[a]? = some Mj ∧ mv_rm M Mj ∧ (mv_rt Mj) = none ∧ b = np + 1 ∧ mv_np Mj.1 np ∧ mv_mlk Ts Nw (mv_ow M) idx Mj.1 ∧ Mj.1.name = "<init>" ∧ Jvm.Cond.instanceMethod Mj.1 ∈ Ts)
  | .invokestatic idx => n = 3 ∧ (c = 4 → 1 ≤ mv_fr M ∧ 21 ≤ mv_lo M ∧ Jvm.Cond.methodLink (mv_ow M) idx Lib.Math.max.name ∈ Ts ∧ Jvm.Cond.static Lib.Math.max.name ∈ Ts ∧ Jvm.Cond.initialized "java/lang/Math" ∈ Ts ∧ Jvm.Cond.code Lib.Math.max.name Lib.Math.max.code 2 (some .int) ∈ Ts) ∧ (c = 5 → 1 ≤ mv_fr M ∧ 21 ≤ mv_lo M ∧ Jvm.Cond.methodLink (mv_ow M) idx Lib.Math.min.name ∈ Ts ∧ Jvm.Cond.static Lib.Math.min.name ∈ Ts ∧ Jvm.Cond.initialized "java/lang/Math" ∈ Ts ∧ Jvm.Cond.code Lib.Math.min.name Lib.Math.min.code 2 (some .int) ∈ Ts) ∧ (c = 1 → ∃ (Mj : mv_Me), prog[a]? = some Mj ∧ mv_rm M Mj ∧ mv_np Mj.1 b ∧ mv_mlk Ts Nw (mv_ow M) idx Mj.1 ∧ Jvm.Cond.static Mj.1 ∈ Ts)
  | .invokevirtual idx => n = 3 ∧ (c = 0 → ∃ (Mj : mv_Me) (np : Nat) (T : u_T) (N : Nat), prog[a]? = some Mj ∧ mv_rm M Mj ∧ b = np + 1 ∧ mv_np Mj.1 np ∧ cl[d]? = some (Mj.1.cls, T, N) ∧ mv_mlk Ts Nw (mv_ow M) idx Mj.1 ∧ Jvm.Cond.instanceMethod Mj.1 ∈ Ts ∧ Jvm.Cond.selects Mj.1.cls Mj.1 Mj.1 ∈ Ts)
  | .lookupswitch _ _ => True
  | .tableswitch _ _ _ _ => True
  | i => n = mv_len i
/-- what a method must keep to -/
def mv_Mk (cl : List vw_C) (kd : List (List Nat)) (Ts Nw : List Jvm.Cond) (prog : List mv_Me) (stn : List (String × String × String)) (M : mv_Me) : Prop :=
  Jvm.plainName M.1.cls = true ∧ M.1.cls = (mv_ow M) ∧ Jvm.Cond.code M.1 (mv_cc M) (mv_ml M) (mv_rt M) ∈ Ts ∧ Jvm.Cond.initialized M.1.cls ∈ Ts ∧ M.1.cls ≠ "java/lang/invoke/MethodHandle" ∧ M.1.cls ≠ "java/lang/invoke/VarHandle" ∧ ∀ e ∈ (mv_tb M), decode (mv_cc M) e.1 = .ok (e.2.1, e.2.2.1) ∧ mv_Rw cl kd Ts Nw prog stn M e.2.1 e.2.2.1 e.2.2.2.1 e.2.2.2.2.1 e.2.2.2.2.2.1 e.2.2.2.2.2.2
/-- the system: its classes, words, methods, tables -/
def mv_Sy (cl : List vw_C) (kd : List (List Nat)) (Ts Nw : List Jvm.Cond) (prog : List mv_Me) (sta : Nat → List Int32) (stn : List (String × String × String)) : Prop :=
  mv_Cl cl kd Ts ∧ (∀ w ∈ Ts, (w.onTables && w.keeps) = true ∨ ∃ ty, w = .arrayClass ty) ∧ (∀ w ∈ Nw, (∃ a i b n d h, w = Jvm.Cond.fieldLinkNest a i b n d h) ∨ ∃ a i x h, w = Jvm.Cond.methodLinkNest a i x h) ∧ (∀ (i : Nat) (M : mv_Me), prog[i]? = some M → mv_Mk cl kd Ts Nw prog stn M) ∧ ∀ k, 100000 ≤ k → (sta (k - 100000)).length = 0 ∨ ∃ q, stn[k - 100000]? = some q
theorem mv_at_mem : ∀ {t : List mv_E} {pc : Nat} {x : ClassFile.Instr × Nat × Nat × Nat × Nat × Nat}, mv_at t pc = some x → (pc, x) ∈ t
  | [], _, _, h => by cases h
  | e :: r, pc, x, h => by
    unfold mv_at at h
    cases hb : Nat.beq e.1 pc with
    | true =>
      rw [hb] at h
      have e1 : e.2 = x := Option.some.inj h
      have e2 : e.1 = pc := Nat.eq_of_beq_eq_true hb
      rw [← e1, ← e2]
      exact List.mem_cons_self
    | false =>
      rw [hb] at h
      exact List.mem_cons_of_mem _ (mv_at_mem h)
def mv_Pre (A : Nat → Prop) (D : va_G) (cl : List vw_C) (kd : List (List Nat)) (cA : Nat → ClassId) (ad : Nat → Nat) (Nw : List Jvm.Cond) (sta : Nat → List Int32) (stn : List (String × String × String)) (as : List Value) (S : mv_S) : Array Value → State → Prop :=
  va_Pc (as.map (mv_tr ad)) (fun U => (∀ w ∈ Nw, va_Nw w U) ∧ va_K D cl (mv_tys cA) U ∧ mv_Sts A ad sta stn U ∧ (∀ q, U.heap.size ≤ q → A q) ∧ va_P D cl (mv_ws kd cA ad S) U.heap ∧ va_D A (mv_ws kd cA ad S) ∧ ∀ k, S.1.length ≤ k → k < 100000 → ad k + S.1.length = U.heap.size + k)
def mv_Pst (A : Nat → Prop) (D : va_G) (cl : List vw_C) (kd : List (List Nat)) (cA : Nat → ClassId) (ad : Nat → Nat) (mc : Nat) (Q : Option Value → mv_S → Prop) : Array Value → State → Outcome → State → Prop :=
  fun _ st oc t => ∃ (v : Option Value) (S' : mv_S), Q v S' ∧ oc = .returned (v.map (mv_tr ad)) ∧ va_P D cl (mv_ws kd cA ad S') t.heap ∧ va_D A (mv_ws kd cA ad S') ∧ va_F A st t ∧ t.heap.size = st.heap.size + mc ∧ ∀ k, S'.1.length ≤ k → k < 100000 → ad k + S'.1.length = t.heap.size + k
def mv_Rm (M : mv_Me) : Room := { frames := mv_fr M, cells := mv_mc M, slots := mv_ms M, locals := mv_lo M }
section MVT
variable {p : Program} {l : Launch} {e : Env} {R : Room} {s : State} {m : MethodId} {args : Array Value} {below : List Frame} {meth : Method} {cod : Code} {H : Heap} {locs : List Loc} {cells slots : Nat} {Qz : State → Prop}
variable {pc : Nat} {ls : Array Slot} {ad : Nat → Nat} {A : Nat → Prop} {D : va_G} {cl : List vw_C} {kd : List (List Nat)} {cA : Nat → ClassId} {Ts Nw : List Jvm.Cond} {sta : Nat → List Int32} {stn : List (String × String × String)} {prog : List mv_Me} {M : mv_Me} {S S' : mv_S} {st r : List Value}
theorem mv_callx {mc ms : Nat} {g0 : List Value} {rest : List Value} {Qa : State → Outcome → State → Prop} {free : Addr → Prop} (hr : va_Run p l e R s m args below meth cod H locs cells slots mc ms (F0 m pc ls g0) rest Qa free)
    (kk : ∀ (v : Option Value) (st0 t : State) (H1 : Heap) (L : List Loc), st0.heap = H → t.heap = H1 → Qa st0 (.returned v) t → (∀ q ∈ L, free q.base) → W p l e R s m args below meth cod H1 (locs ++ L) (cells + mc) (slots + ms) Qz (F0 m (pc + 3) ls (v.toList ++ rest))) : W p l e R s m args below meth cod H locs cells slots Qz (F0 m pc ls g0) := by
  intro T hT X
  obtain ⟨v, st0, t, T', L, h0, X', hL, e1, e2, hq, sts⟩ := hr T hT X
  obtain ⟨t2, a1, b1⟩ := kk v st0 t T'.heap L h0 e1.symm hq hL T' rfl X'
  exact ⟨t2, sts t2 a1, b1⟩
theorem mv_Nw_warm (hN : ∀ w ∈ Nw, (∃ a i b n d h, w = Jvm.Cond.fieldLinkNest a i b n d h) ∨ ∃ a i x h, w = Jvm.Cond.methodLinkNest a i x h) {U : State} (hW : s.WarmedH U.vm) (h : ∀ w ∈ Nw, va_Nw w s) : ∀ w ∈ Nw, va_Nw w U := by
  intro w hw
  rcases hN w hw with ⟨a, i, b, n, d, h', rfl⟩ | ⟨a, i, x, h', rfl⟩
  · exact va_Nw.warmF hW (h _ hw)
  · exact va_Nw.warmM hW (h _ hw)
theorem mv_Sts_go {U : State} (hvm : s.vm.Alike U.vm) (hS : va_S A s.heap H locs) (hU : U.heap = H) (h : mv_Sts A ad sta stn s) : mv_Sts A ad sta stn U := by
  intro t q hq
  obtain ⟨h1, h2⟩ := h t q hq
  rw [hU]
  exact ⟨(h1.moved hvm).kept (fun a ha hn => hS.2.1 a ha hn), (h2.moved hvm).kept (fun a ha hn => hS.2.1 a ha hn)⟩
theorem mv_Pre_blind (hN : ∀ w ∈ Nw, (∃ a i b n d h, w = Jvm.Cond.fieldLinkNest a i b n d h) ∨ ∃ a i x h, w = Jvm.Cond.methodLinkNest a i x h) (as : List Value) : FrameBlind (mv_Pre A D cl kd cA ad Nw sta stn as S) := by
  intro a U g mk h
  obtain ⟨h0, h1, h2, h3, h4, h5, h6, h7⟩ := h
  refine ⟨h0, fun w hw => ?_, va_K.moved (u := U) (U := U.calling g mk a) (Vm.Alike.refl U.vm) h2, fun t q hq => ?_, h4, h5, h6, h7⟩
  · rcases hN w hw with ⟨a, i, b, n, d, h', rfl⟩ | ⟨a, i, x, h', rfl⟩
    · exact va_Nw.same rfl rfl (h1 _ hw)
    · exact va_Nw.same rfl rfl (h1 _ hw)
  · obtain ⟨g1, g2⟩ := h3 t q hq
    exact ⟨va_Z.moved (u := U) (U := U.calling g mk a) (Vm.Alike.refl U.vm) g1, va_T.moved (u := U) (U := U.calling g mk a) (Vm.Alike.refl U.vm) g2⟩
/-- a call -/
theorem mv_call_ok (Y : mv_Sy cl kd Ts Nw prog sta stn) (X : mv_Cx p s m args meth cod A D cl cA ad Ts Nw sta stn M) (hH : mv_Hc A D cl kd cA ad s S cells H locs) (hl : ls.size = (mv_ml M)) (hR : R.frames = mv_fr M ∧ R.locals = mv_lo M) {i : ClassFile.Instr} {n a b c d : Nat} {Mj : mv_Me} {as : List Value} {Q' : Option Value → mv_S → Prop}
    (hd : decode (mv_cc M) pc = .ok (i, n)) (hrw : mv_Rw cl kd Ts Nw prog stn M i n a b c d) (hj : prog[a]? = some Mj) (hb : as.length = b) (hc : mv_isCall i c d S as = true) (hcat : (r.map fun v => v.category).sum ≤ 8) (hc1 : cells + (mv_mc Mj) ≤ R.cells) (hc2 : slots + (mv_ms Mj) ≤ R.slots)
    (hM : Met l Mj.1 (Jvm.Cond.code Mj.1 (mv_cc Mj) (mv_ml Mj) (mv_rt Mj) :: Ts) (mv_Rm Mj) (mv_Pre A D cl kd cA ad Nw sta stn as S) (mv_Pst A D cl kd cA ad (mv_mc Mj) Q') (mv_mc Mj) (mv_ms Mj) A)
    (kk : ∀ (v : Option Value) (S' : mv_S) (H1 : Heap) (locs1 : List Loc), Q' v S' → mv_Hc A D cl kd cA ad s S' (cells + (mv_mc Mj)) H1 locs1 → W p l e R s m args below meth cod H1 locs1 (cells + (mv_mc Mj)) (slots + (mv_ms Mj)) Qz (F0 m (pc + 3) ls ((v.toList ++ r).map (mv_tr ad)))) :
    W p l e R s m args below meth cod H locs cells slots Qz (F0 m pc ls ((as.reverse ++ r).map (mv_tr ad))) := by
  obtain ⟨hx, hcb, hml, hown, hts, hnw, hK, hA, -, -, -, hsts⟩ := id X
  obtain ⟨hH1, hH2, hH3, hH4, hH5⟩ := id hH
  obtain ⟨Y1, Y2, Y3, Y4, -⟩ := Y
  obtain ⟨j1, j2, j3, j4, j5, j6, -⟩ := Y4 a Mj hj
  have hG : GoodIn Ts (Jvm.Cond.code Mj.1 (mv_cc Mj) (mv_ml Mj) (mv_rt Mj) :: Ts) := fun w hw => by
    rcases List.mem_cons.mp hw with rfl | hw
    · exact ⟨j3, Y2 _ j3⟩
    · exact ⟨hw, Y2 _ hw⟩
  have hfit : mv_rm M Mj → (mv_Rm Mj).frames + 1 ≤ R.frames ∧ 8 + ((mv_ml Mj) + 11) + (mv_Rm Mj).locals ≤ R.locals := fun h => by
    rw [hR.1, hR.2]
    exact h
  have hpre : ∀ U : State, U.heap = H → s.WarmedH U.vm → mv_Pre A D cl kd cA ad Nw sta stn as S (as.map (mv_tr ad)).toArray U := fun U hU hW =>
    ⟨rfl, mv_Nw_warm Y3 hW hnw, va_K.moved hW.alike hK, mv_Sts_go hW.alike hH3 hU hsts, fun q hq => hA q (Nat.le_trans hH3.1 (by rw [← hU]; exact hq)), by rw [hU]; exact hH1, hH2, by rw [hU]; exact hH5⟩
  have hroom : (((r.map (mv_tr ad))).map fun v => v.category).sum ≤ 8 := by rw [mv_tr_sum]; exact hcat
  have fin : ∀ (v : Option Value) (st0 t : State) (H1 : Heap) (L : List Loc), st0.heap = H → t.heap = H1 → mv_Pst A D cl kd cA ad (mv_mc Mj) Q' (as.map (mv_tr ad)).toArray st0 (.returned v) t → (∀ q ∈ L, A q.base) → W p l e R s m args below meth cod H1 (locs ++ L) (cells + (mv_mc Mj)) (slots + (mv_ms Mj)) Qz (F0 m (pc + 3) ls (v.toList ++ r.map (mv_tr ad))) := by
    intro v st0 t H1 L h0 h1 hq hL
    obtain ⟨v', S', g1, g2, g3, g4, g5, g6, g7⟩ := hq
    cases g2
    rw [h1] at g3 g6 g7
    rw [h0] at g6
    have hF : va_S A H H1 (locs ++ L) := by
      obtain ⟨f1, f2⟩ := g5
      rw [h0, h1] at f1
      refine ⟨f1, fun q q1 q2 => ?_, fun q hq => ?_⟩
      · have := f2 q (by rw [h0]; exact q1) q2
        rw [h0, h1] at this
        exact this
      · rcases List.mem_append.mp hq with h | h
        · exact hH3.2.2 q h
        · exact hL q h
    have key := kk v' S' H1 (locs ++ L) g1 ⟨g3, g4, mv_S_trans hH3 hF, by omega, g7⟩
    have e9 : ((v'.toList ++ r).map (mv_tr ad)) = (v'.map (mv_tr ad)).toList ++ r.map (mv_tr ad) := by
      cases v' <;> simp
    rw [e9] at key
    exact key
  rw [List.map_append, List.map_reverse]
  cases i
  case invokevirtual idx =>
    obtain ⟨rfl, hrw⟩ := hrw
    match c, as, hc with
    | 0, .ref k :: As, hc =>
      obtain ⟨Mk, np, T, N, g1, g9, g2, g3, g4, g5, g6, g7⟩ := hrw rfl
      cases Option.some.inj (g1.symm.trans hj)
      have hk : S.1[k]? = some (.inr d) := by
        unfold mv_isCall at hc
        simp only at hc
        split at hc
        · rename_i ci hci
          rw [hci, Nat.eq_of_beq_eq_true hc]
        · cases hc
      have hn : (As.map (mv_tr ad)).length = np := by
        rw [List.length_map]
        simp only [List.length_cons] at hb
        omega
      have hrec := va_recv hK hH1 g4 (mv_ws_get hk)
      have hst : (F0 m pc ls ((Value.ref k :: As).map (mv_tr ad)).reverse).stack = _ := rfl
      rcases g5 with g5 | ⟨h, g5⟩
      · refine mv_callx (va_runV (As := As.map (mv_tr ad)) (rest := r.map (mv_tr ad)) (b := ad k) ⟨hx, hcb, hml, hown, hts⟩ hM ⟨callB_of np hts hG rfl rfl rfl (hts _ j4) (hts _ g5) ⟨j5, j6, g3⟩ (hfit g9), hts _ g6, hts _ g7⟩ ⟨mv_Pre_blind Y3 _, hrec, hpre⟩ rfl hn hl (by simp [mv_tr]) (lv_room hroom) hd ⟨hc1, hc2⟩) fin
      · refine mv_callx (va_runVN (As := As.map (mv_tr ad)) (rest := r.map (mv_tr ad)) (b := ad k) ⟨hx, hcb, hml, hown, hts⟩ hM ⟨va_cnB np hts hG rfl rfl rfl (hnw _ g5) (hts _ j4) ⟨j5, j6, g3⟩ (hfit g9), hts _ g6, hts _ g7⟩ ⟨mv_Pre_blind Y3 _, hrec, hpre⟩ rfl hn hl (by simp [mv_tr]) (lv_room hroom) hd ⟨hc1, hc2⟩) fin
  case invokestatic idx =>
    obtain ⟨rfl, -, -, hrw⟩ := hrw
    match c, hc with
    | 1, hc =>
      obtain ⟨Mk, g1, g9, g3, g5, g6⟩ := hrw rfl
      cases Option.some.inj (g1.symm.trans hj)
      have hn : (as.map (mv_tr ad)).length = b := by rw [List.length_map]; exact hb
      rcases g5 with g5 | ⟨h, g5⟩
      · exact mv_callx (va_runS (As := as.map (mv_tr ad)) (rest := r.map (mv_tr ad)) ⟨hx, hcb, hml, hown, hts⟩ hM ⟨callB_of b hts hG rfl rfl rfl (hts _ j4) (hts _ g5) ⟨j5, j6, g3⟩ (hfit g9), hts _ g6⟩ ⟨mv_Pre_blind Y3 _, hpre⟩ rfl hn hl rfl (lv_room hroom) hd ⟨hc1, hc2⟩) fin
      · exact mv_callx (va_runSN (As := as.map (mv_tr ad)) (rest := r.map (mv_tr ad)) ⟨hx, hcb, hml, hown, hts⟩ hM ⟨va_cnB b hts hG rfl rfl rfl (hnw _ g5) (hts _ j4) ⟨j5, j6, g3⟩ (hfit g9), hts _ g6, trivial⟩ ⟨mv_Pre_blind Y3 _, hpre⟩ rfl hn hl rfl (lv_room hroom) hd ⟨hc1, hc2⟩) fin
  case invokespecial idx =>
    obtain ⟨rfl, -, hrw⟩ := hrw
    match c, as, hc with
    | 2, .ref k :: As, hc =>
      obtain ⟨Mk, np, g1, g9, g0, g2, g3, g5, g6, g7⟩ := hrw rfl
      cases Option.some.inj (g1.symm.trans hj)
      have hn : (As.map (mv_tr ad)).length = np := by
        rw [List.length_map]
        simp only [List.length_cons] at hb
        omega
      rw [g0] at hM hG
      rcases g5 with g5 | ⟨h, g5⟩
      · exact mv_callx (va_runI (As := As.map (mv_tr ad)) (rest := r.map (mv_tr ad)) (b := ad k) ⟨hx, hcb, hml, hown, hts⟩ hM ⟨callB_of np hts hG rfl rfl rfl (hts _ j4) (hts _ g5) ⟨j5, j6, g3⟩ (hfit g9), g6, hts _ g7⟩ ⟨mv_Pre_blind Y3 _, hpre⟩ rfl hn hl (by simp [mv_tr]) (lv_room hroom) hd ⟨hc1, hc2⟩) fin
      · exact mv_callx (va_runIN (As := As.map (mv_tr ad)) (rest := r.map (mv_tr ad)) (b := ad k) ⟨hx, hcb, hml, hown, hts⟩ hM ⟨va_cnB np hts hG rfl rfl rfl (hnw _ g5) (hts _ j4) ⟨j5, j6, g3⟩ (hfit g9), g6, hts _ g7⟩ ⟨mv_Pre_blind Y3 _, hpre⟩ rfl hn hl (by simp [mv_tr]) (lv_room hroom) hd ⟨hc1, hc2⟩) fin
  all_goals (exact absurd hc (by simp [mv_isCall]))
end MVT
end
section
/-! One step, and a method from its entry to its answer. -/
def mv_W (p : Program) (l : Launch) (e : Env) (R : Room) (s : State) (m : MethodId) (args : Array Value) (below : List Frame) (meth : Method) (cod : Code) (A : Nat → Prop) (D : va_G) (cl : List vw_C) (kd : List (List Nat)) (cA : Nat → ClassId) (ad : Nat → Nat) (nL : Nat) (Qz : State → Prop) (F : mv_F) : Prop :=
  ∀ (H : Heap) (locs : List Loc) (ls : Array Slot), mv_Hc A D cl kd cA ad s F.2.2.2.2.2 F.2.2.2.1 H locs → mv_Lc ad ls nL F.2.1 → F.2.2.2.1 ≤ R.cells ∧ F.2.2.2.2.1 ≤ R.slots → W p l e R s m args below meth cod H locs F.2.2.2.1 F.2.2.2.2.1 Qz (F0 m F.1 ls (F.2.2.1.map (mv_tr ad)))
section MVU
variable {p : Program} {l : Launch} {e : Env} {R : Room} {s : State} {m : MethodId} {args : Array Value} {below : List Frame} {meth : Method} {cod : Code} {H : Heap} {locs : List Loc} {cells slots : Nat} {Qz : State → Prop}
variable {pc : Nat} {ls : Array Slot} {ad : Nat → Nat} {A : Nat → Prop} {D : va_G} {cl : List vw_C} {kd : List (List Nat)} {cA : Nat → ClassId} {Ts Nw : List Jvm.Cond} {sta : Nat → List Int32} {stn : List (String × String × String)} {prog : List mv_Me} {M : mv_Me} {S S' : mv_S} {st st' r : List Value}
set_option maxHeartbeats 4000000 in
theorem mv_pure_len {i : ClassFile.Instr} {n a b c d : Nat} (h : mv_pure i st = some st') (hr : mv_Rw cl kd Ts Nw prog stn M i n a b c d) : n = mv_len i := by
  cases i
  all_goals first
    | exact hr
    | exact absurd h (by simp [mv_pure])
set_option maxHeartbeats 4000000 in
theorem mv_loc_len {i : ClassFile.Instr} {lc lc' : mv_L} {n a b c d : Nat} (h : mv_loc i lc st = some (lc', st')) (hr : mv_Rw cl kd Ts Nw prog stn M i n a b c d) : n = mv_len i := by
  cases i
  all_goals first
    | exact hr
    | exact absurd h (by simp [mv_loc])
set_option maxHeartbeats 4000000 in
theorem mv_heap_ok (Y : mv_Sy cl kd Ts Nw prog sta stn) (X : mv_Cx p s m args meth cod A D cl cA ad Ts Nw sta stn M) (hH : mv_Hc A D cl kd cA ad s S cells H locs) (hl : ls.size = (mv_ml M)) (hR : R.frames = mv_fr M ∧ R.locals = mv_lo M) (hRc : R.cells = (mv_mc M) ∧ R.slots = (mv_ms M)) (hcs : cells ≤ R.cells ∧ slots ≤ R.slots) {i : ClassFile.Instr} {n a b c d : Nat} {vc' vs' : Nat}
    (hd : decode (mv_cc M) pc = .ok (i, n)) (hrw : mv_Rw cl kd Ts Nw prog stn M i n a b c d) (h : mv_heap sta (mv_mc M) (mv_ms M) i a b c st cells slots S = some (st', vc', vs', S'))
    (kk : ∀ (H1 : Heap) (locs1 : List Loc), mv_Hc A D cl kd cA ad s S' vc' H1 locs1 → vc' ≤ R.cells ∧ vs' ≤ R.slots → W p l e R s m args below meth cod H1 locs1 vc' vs' Qz (F0 m (pc + mv_len i) ls (st'.map (mv_tr ad)))) : W p l e R s m args below meth cod H locs cells slots Qz (F0 m pc ls (st.map (mv_tr ad))) := by
  obtain ⟨hx, hb, hml, hown, hts, hnw, hK, hA, -, -, -, hsts⟩ := id X
  obtain ⟨Y1, -⟩ := Y
  cases i
  case getfield idx =>
    obtain ⟨rfl, C, T, N, h1, h2, h3⟩ := hrw
    unfold mv_heap at h
    simp only at h
    split at h
    · split at h
      · rename_i k r ci hk
        obtain ⟨h4, h5⟩ := mv_bif h
        cases h5
        rw [Nat.eq_of_beq_eq_true h4] at hk
        exact mv_get_ok X Y1 hH hd h1 h2 h3 hk (kk H locs hH hcs)
      · cases h
    · cases h
  case putfield idx =>
    obtain ⟨rfl, C, T, N, h1, h2, h3⟩ := hrw
    unfold mv_heap at h
    simp only at h
    split at h
    · split at h
      · rename_i v k r ci hk
        cases hb4 : Nat.beq ci a with
        | false => rw [hb4] at h; cases h
        | true =>
          rw [hb4] at h
          simp only [cond_true] at h
          split at h
          · rename_i S1 hp
            cases h
            rw [Nat.eq_of_beq_eq_true hb4] at hk
            exact mv_put_ok X Y1 hH hd h1 h2 h3 hk hp (fun H1 l1 q => kk H1 l1 q hcs)
          · cases h
      · cases h
    · cases h
  case arraylength =>
    have hn : n = 1 := hrw
    subst hn
    unfold mv_heap at h
    simp only at h
    split at h
    · split at h
      · rename_i k r t q hk
        obtain ⟨h4, h5⟩ := mv_bif h
        cases h5
        exact mv_alen_ok X hH hd (Nat.le_of_ble_eq_true h4) hk (kk H locs hH hcs)
      · cases h
    · cases h
  case new idx =>
    obtain ⟨rfl, C, T, h1, h2, h3, h4⟩ := hrw
    unfold mv_heap at h
    simp only at h
    obtain ⟨h5, h6⟩ := mv_bif h
    cases h6
    simp only [Bool.and_eq_true] at h5
    exact mv_new_ok X Y1 hH hd h1 h2 h3 h4 (Nat.le_of_ble_eq_true h5.2.2) (by rw [hRc.1]; exact Nat.le_of_ble_eq_true h5.1) (by rw [hRc.2]; exact Nat.le_of_ble_eq_true h5.2.1) (fun H1 q => kk H1 locs q ⟨by rw [hRc.1]; exact Nat.le_of_ble_eq_true h5.1, by rw [hRc.2]; exact Nat.le_of_ble_eq_true h5.2.1⟩)
  case newarray t =>
    obtain ⟨rfl, h1, h2, h3⟩ := hrw
    unfold mv_heap at h
    simp only at h
    split at h
    · obtain ⟨h5, h6⟩ := mv_bif h
      cases h6
      simp only [Bool.and_eq_true, decide_eq_true_eq] at h5
      exact mv_newa_ok X hH hd h1 h2 h3 (Nat.le_of_ble_eq_true h5.2.2.1) h5.2.2.2.2 (Nat.le_of_ble_eq_true h5.2.2.2.1) (by rw [hRc.1]; exact Nat.le_of_ble_eq_true h5.1) (by rw [hRc.2]; exact Nat.le_of_ble_eq_true h5.2.1) (fun H1 q => kk H1 locs q ⟨by rw [hRc.1]; exact Nat.le_of_ble_eq_true h5.1, by rw [hRc.2]; exact Nat.le_of_ble_eq_true h5.2.1⟩)
    · cases h
  case ldc idx =>
    obtain ⟨rfl, h1⟩ := hrw
    cases h
    exact lv_ldc hx hb hown (hts _ h1) hd (kk H locs hH hcs)
  case ldc_w idx =>
    obtain ⟨rfl, h1⟩ := hrw
    cases h
    exact lv_ldcw hx hb hown (hts _ h1) hd (kk H locs hH hcs)
  case ldc2_w idx =>
    obtain ⟨rfl, h1⟩ := hrw
    cases h
    exact lv_ldc2 hx hb hown (hts _ h1) hd (kk H locs hH hcs)
  case getstatic idx =>
    obtain ⟨rfl, q, h1, h2⟩ := hrw
    cases h
    exact va_gets hx hb (hsts a q h1).1 hH.2.2.1 hown (hts _ h2) (fun _ h9 => h9) hd (kk H locs hH hcs)
  case invokespecial idx =>
    obtain ⟨rfl, h1, -⟩ := hrw
    unfold mv_heap at h
    simp only at h
    split at h
    · split at h
      · rename_i k r
        obtain ⟨h4, h5⟩ := mv_bif h
        cases h5
        obtain ⟨r1, r2, g1, g2, g3⟩ := h1 rfl
        have h4 : (st'.map fun v => v.category).sum ≤ 8 := Nat.le_of_ble_eq_true h4
        exact W.objInit hx hb hown (hts _ g1) (hts _ g2) (hts _ g3) rfl (by rw [hml]; exact hl) rfl hd (by rw [hR.1]; exact r1) (by show 2 * 0 + ((st'.map (mv_tr ad)).map fun v => v.category).sum + 12 ≤ R.locals; rw [mv_tr_sum, hR.2]; omega) (kk H locs hH hcs)
      · cases h
    · cases h
  case invokestatic idx =>
    obtain ⟨rfl, h1, h2, -⟩ := hrw
    unfold mv_heap at h
    simp only at h
    split at h
    · rename_i y x r
      obtain ⟨h4, h5⟩ := mv_bif h
      cases h5
      obtain ⟨r1, r2, g1, g2, g3, g4⟩ := h1 rfl
      have h4 : (r.map fun v => v.category).sum ≤ 8 := Nat.le_of_ble_eq_true h4
      exact va_mmax hx hb (by rw [hml, hl]) hown (hts _ g1) (hts _ g2) (hts _ g3) (hts _ g4) (by rw [hR.1]; exact r1) (by rw [mv_tr_sum, hR.2]; omega) hcs.1 hcs.2 hd (kk H locs hH hcs)
    · rename_i y x r
      obtain ⟨h4, h5⟩ := mv_bif h
      cases h5
      obtain ⟨r1, r2, g1, g2, g3, g4⟩ := h2 rfl
      have h4 : (r.map fun v => v.category).sum ≤ 8 := Nat.le_of_ble_eq_true h4
      exact va_mmin hx hb (by rw [hml, hl]) hown (hts _ g1) (hts _ g2) (hts _ g3) (hts _ g4) (by rw [hR.1]; exact r1) (by rw [mv_tr_sum, hR.2]; omega) hcs.1 hcs.2 hd (kk H locs hH hcs)
    · cases h
  all_goals (exact absurd h (by simp [mv_heap]))
set_option maxHeartbeats 4000000 in
theorem mv_one_ok (Y : mv_Sy cl kd Ts Nw prog sta stn) (X : mv_Cx p s m args meth cod A D cl cA ad Ts Nw sta stn M) (hMk : mv_Mk cl kd Ts Nw prog stn M) (hR : R.frames = mv_fr M ∧ R.locals = mv_lo M) (hRc : R.cells = (mv_mc M) ∧ R.slots = (mv_ms M)) {F F' : mv_F} (h : mv_one sta M F = some F') (k : mv_W p l e R s m args below meth cod A D cl kd cA ad (mv_ml M) Qz F') : mv_W p l e R s m args below meth cod A D cl kd cA ad (mv_ml M) Qz F := by
  obtain ⟨pc, lc, st, vc, vs, S⟩ := F
  intro H locs ls hH hL hcs
  obtain ⟨hx, hb, hml, -⟩ := id X
  unfold mv_one at h
  simp only at h
  split at h
  · cases h
  · rename_i i n a b c d hat
    obtain ⟨hd, hrw⟩ := hMk.2.2.2.2.2.2 _ (mv_at_mem hat)
    simp only at hd hrw
    split at h
    · rename_i st1 hp
      cases h
      rw [mv_pure_len hp hrw] at hd
      exact mv_pure_ok hx hb hd hp (k H locs ls hH hL hcs)
    · split at h
      · rename_i lc1 st1 hp
        cases h
        rw [mv_loc_len hp hrw] at hd
        exact mv_loc_ok hx hb hd hp hL (fun ls' hL' => k H locs ls' hH hL' hcs)
      · split at h
        · rename_i st1 vc1 vs1 S1 hp
          cases h
          exact mv_heap_ok Y X hH hL.1.1 hR hRc hcs hd hrw hp (fun H1 locs1 q hq => k H1 locs1 ls q hL hq)
        · split at h
          · rename_i off
            have hn : n = 3 := hrw
            subst hn
            split at h
            · rename_i t ht
              cases h
              exact lv_goto hx hb hd ht (k H locs ls hH hL hcs)
            · cases h
          · cases h
set_option maxHeartbeats 4000000 in
theorem mv_len_ald {i : ClassFile.Instr} {x : Int32} {k N : Nat} {v : Value} {n a b c d : Nat} (h : mv_ald sta i S k x = some (N, v)) (hr : mv_Rw cl kd Ts Nw prog stn M i n a b c d) : n = 1 := by
  unfold mv_ald at h
  split at h
  · split at h
    · exact hr
    · exact hr
    · exact hr
    · exact hr
    · cases h
  · cases h
  · split at h
    · exact hr
    · cases h
theorem mv_len_ast {i : ClassFile.Instr} {x : Int32} {k N : Nat} {v : Value} {n a b c d : Nat} (h : mv_ast i S k x v = some (N, S')) (hr : mv_Rw cl kd Ts Nw prog stn M i n a b c d) : n = 1 := by
  unfold mv_ast at h
  split at h
  · split at h
    · exact hr
    · exact hr
    · exact hr
    · exact hr
    · cases h
  · cases h
theorem mv_len_cond {i : ClassFile.Instr} {cn : Prop} {off : Int} {n a b c d : Nat} (h : mv_cond i st = some (cn, off, r)) (hr : mv_Rw cl kd Ts Nw prog stn M i n a b c d) : n = mv_len i := by
  unfold mv_cond at h
  split at h
  · exact hr
  · exact hr
  · cases h
theorem mv_div_ok {cc : ByteArray} (hx : p.tables.exec = Jvm.exec) (hb : cod.code = cc) {i : ClassFile.Instr} {n a b c d : Nat} {x y v : Int32} (hd : decode cc pc = .ok (i, n)) (hrw : mv_Rw cl kd Ts Nw prog stn M i n a b c d) (h : mv_div i x y = some v) (hy : ¬ y = 0)
    (k : W p l e R s m args below meth cod H locs cells slots Qz (F0 m (pc + 1) ls ((Value.int v :: r).map (mv_tr ad)))) : W p l e R s m args below meth cod H locs cells slots Qz (F0 m pc ls ((Value.int y :: Value.int x :: r).map (mv_tr ad))) := by
  unfold mv_div at h
  split at h
  · have hn : n = 1 := hrw
    subst hn
    cases h
    exact lv_idiv hx hb hd hy k
  · have hn : n = 1 := hrw
    subst hn
    cases h
    exact lv_irem hx hb hd hy k
  · cases h
/-- the end -/
theorem mv_ret_ok (X : mv_Cx p s m args meth cod A D cl cA ad Ts Nw sta stn M) (hH : mv_Hc A D cl kd cA ad s S (mv_mc M) H locs) {i : ClassFile.Instr} {n a b c d : Nat} {v : Option Value} {ok : Prop} {Q : Option Value → mv_S → Prop} (hd : decode (mv_cc M) pc = .ok (i, n)) (hrw : mv_Rw cl kd Ts Nw prog stn M i n a b c d) (h : mv_ret (mv_rt M) i st = some (v, ok)) (hok : ok) (hQ : Q v S) :
    W p l e R s m args below meth cod H locs (mv_mc M) (mv_ms M) (MQ below (mv_Pst A D cl kd cA ad (mv_mc M) Q) args s (mv_mc M) (mv_ms M) A) (F0 m pc ls (st.map (mv_tr ad))) := by
  obtain ⟨hx, hb, hml, hown, hts, hnw, hK, hA, hlk, hr, -⟩ := X
  obtain ⟨h1, h2, h3, h4, h5⟩ := hH
  have post : ∀ t : State, t.heap = H → mv_Pst A D cl kd cA ad (mv_mc M) Q args s (.returned (v.map (mv_tr ad))) t := fun t ht => ⟨v, S, hQ, rfl, by rw [ht]; exact h1, h2, va_S.F h3 ht, by rw [ht]; exact h4, by rw [ht]; exact h5⟩
  generalize hret : (mv_rt M) = rt at h hr
  unfold mv_ret at h
  split at h
  · have hn : n = 1 := hrw
    subst hn
    cases h
    exact W.vret hx hb hr (fun t ht _ => post t ht) h3.2.2 hd hlk
  · have hn : n = 1 := hrw
    subst hn
    cases h
    exact W.iret hx hb hr (fun t ht _ => post t ht) h3.2.2 hd hlk
  · have hn : n = 1 := hrw
    subst hn
    rename_i z
    cases h
    have hnar : narrow .boolean (.int z) = .int z := by
      rcases hok with rfl | rfl <;> rfl
    exact W.zret hx hb hr hnar (fun t ht _ => post t ht) h3.2.2 hd hlk
  · have hn : n = 1 := hrw
    subst hn
    cases h
    exact W.lret hx hb hr (fun t ht _ => post t ht) h3.2.2 hd hlk
  · cases h
end MVU
theorem mv_le_get : ∀ {a b : mv_L}, mv_le a b → a.length = b.length ∧ ∀ (j : Nat) (v : Value), a[j]? = some (some v) → b[j]? = some (some v)
  | [], [], _ => ⟨rfl, fun _ _ h => h⟩
  | none :: a, w :: b, h => by
    obtain ⟨h1, h2⟩ := mv_le_get (a := a) (b := b) h
    refine ⟨by simp [h1], fun j v hj => ?_⟩
    cases j with
    | zero => simp at hj
    | succ j => simpa using h2 j v (by simpa using hj)
  | some u :: a, w :: b, h => by
    obtain ⟨h1, h2⟩ := mv_le_get (a := a) (b := b) h.2
    refine ⟨by simp [h1], fun j v hj => ?_⟩
    cases j with
    | zero =>
      rw [h.1]
      exact hj
    | succ j => simpa using h2 j v (by simpa using hj)
  | [], _ :: _, h => h.elim
  | none :: _, [], h => h.elim
  | some _ :: _, [], h => h.elim
theorem mv_le_Lc {ad : Nat → Nat} {ls : Array Slot} {nL : Nat} {a b : mv_L} (h : mv_le a b) (hL : mv_Lc ad ls nL b) : mv_Lc ad ls nL a :=
  ⟨hL.1, (mv_le_get h).1.trans hL.2.1, fun j v hj => hL.2.2 j v ((mv_le_get h).2 j v hj)⟩
theorem mv_c1_not {w : Value} (hc : mv_c1 w = false) : w.category = 2 := by
  rcases lv_cat w with h2 | h2
  · have : mv_c1 w = true := by unfold mv_c1; rw [h2]; rfl
    rw [this] at hc; cases hc
  · exact h2
theorem mv_ent_has : ∀ (as : List Value) (n : Nat) (j : Nat) (v : Value), (mv_ent n as)[j]? = some (some v) → (j, v) ∈ lv_args 0 as := by
  have key : ∀ (as : List Value) (o n j : Nat) (v : Value), (mv_ent n as)[j]? = some (some v) → (o + j, v) ∈ lv_args o as := by
    intro as
    induction as with
    | nil =>
      intro o n j v h
      unfold mv_ent at h
      rw [List.getElem?_replicate] at h
      split at h <;> cases h
    | cons w as ih =>
      intro o n j v h
      unfold mv_ent at h
      unfold lv_args
      cases hc : mv_c1 w with
      | true =>
        rw [hc] at h
        have hcat : ¬ w.category = 2 := by rw [mv_c1_cat hc]; decide
        rw [if_neg hcat]
        cases j with
        | zero =>
          have e : w = v := by simpa using h
          rw [e]
          exact List.mem_cons_self
        | succ j =>
          have h' : (mv_ent (n - 1) as)[j]? = some (some v) := by simpa using h
          have := ih (o + 1) (n - 1) j v h'
          rw [show o + (j + 1) = o + 1 + j by omega]
          exact List.mem_cons_of_mem _ this
      | false =>
        rw [hc] at h
        have hcat : w.category = 2 := mv_c1_not hc
        rw [if_pos hcat]
        match j, h with
        | 0, h =>
          have e : w = v := by simpa using h
          rw [e]
          exact List.mem_cons_self
        | 1, h => simp at h
        | j + 2, h =>
          have h' : (mv_ent (n - 2) as)[j]? = some (some v) := by simpa using h
          have := ih (o + 2) (n - 2) j v h'
          rw [show o + (j + 2) = o + 2 + j by omega]
          exact List.mem_cons_of_mem _ this
  intro as n j v h
  have := key as 0 n j v h
  rwa [Nat.zero_add] at this
theorem mv_args_tr (ad : Nat → Nat) : ∀ (as : List Value) (o : Nat) (j : Nat) (v : Value), (j, v) ∈ lv_args o as → (j, mv_tr ad v) ∈ lv_args o (as.map (mv_tr ad)) := by
  intro as
  induction as with
  | nil => intro o j v h; cases h
  | cons w as ih =>
    intro o j v h
    unfold lv_args at h
    rw [List.map_cons]
    unfold lv_args
    rw [mv_tr_cat]
    rcases List.mem_cons.mp h with h | h
    · cases h
      exact List.mem_cons_self
    · exact List.mem_cons_of_mem _ (ih _ j v h)
theorem mv_sl_len (ad : Nat → Nat) : ∀ (as : List Value) (n : Nat), (lg_sl (as.map (mv_tr ad))).length ≤ (mv_ent n as).length := by
  intro as
  induction as with
  | nil => intro n; simp [lg_sl]
  | cons w as ih =>
    intro n
    have e : lg_sl ((w :: as).map (mv_tr ad)) = (if (mv_tr ad w).category = 2 then [Slot.val (mv_tr ad w), .second] else [.val (mv_tr ad w)]) ++ lg_sl (as.map (mv_tr ad)) := rfl
    rw [e, mv_tr_cat]
    unfold mv_ent
    cases hc : mv_c1 w with
    | true =>
      have hcat : ¬ w.category = 2 := by rw [mv_c1_cat hc]; decide
      rw [if_neg hcat]
      have := ih (n - 1)
      simp only [cond_true, List.length_append, List.length_cons, List.length_nil]
      omega
    | false =>
      rw [if_pos (mv_c1_not hc)]
      have := ih (n - 2)
      simp only [cond_false, List.length_append, List.length_cons, List.length_nil]
      omega
set_option maxHeartbeats 4000000 in
/-- THE SMALL MACHINE IS SOUND: a method that ends with Q there meets its contract -/
theorem mv_sound {cl : List vw_C} {kd : List (List Nat)} {Ts Nw : List Jvm.Cond} {prog : List mv_Me} {sta : Nat → List Int32} {stn : List (String × String × String)} (Y : mv_Sy cl kd Ts Nw prog sta stn) (l : Launch) (A : Nat → Prop) (D : va_G) (cA : Nat → ClassId) (ad : Nat → Nat) :
    ∀ (d i : Nat) (as : List Value) (S : mv_S) (Q : Option Value → mv_S → Prop), mv_C prog sta d i as S Q → ∀ M, prog[i]? = some M → Met l M.1 (Jvm.Cond.code M.1 (mv_cc M) (mv_ml M) (mv_rt M) :: Ts) (mv_Rm M) (mv_Pre A D cl kd cA ad Nw sta stn as S) (mv_Pst A D cl kd cA ad (mv_mc M) Q) (mv_mc M) (mv_ms M) A := by
  intro d
  induction d with
  | zero => intro i as S Q h; exact h.elim
  | succ d ih =>
    intro i as S Q h M hM
    obtain ⟨M', h1, h2, h3⟩ := h
    cases Option.some.inj (hM.symm.trans h1)
    have hMk := Y.2.2.2.1 i M hM
    refine Met.ofW (cc := (mv_cc M)) (maxL := (mv_ml M)) (ret := (mv_rt M)) hMk.1 rfl ?_
    intro p e s m args below meth c s₁ B hml hv
    obtain ⟨rfl, v1, v2, v3, v4, v5, v6, v7⟩ := hv
    have hts : ∀ w ∈ (Jvm.Cond.code M.1 (mv_cc M) (mv_ml M) (mv_rt M) :: Ts), w.before _ s = true := atoms_spec (ws := Jvm.Cond.code M.1 (mv_cc M) (mv_ml M) (mv_rt M) :: Ts) B.pre
    have hown : s.vm.findClass (mv_ow M) = some m.cls := by rw [← hMk.2.1]; exact findClass_of_methodNamed B.named
    have X : mv_Cx p s m (as.map (mv_tr ad)).toArray meth c A D cl cA ad Ts Nw sta stn M := ⟨B.exec, B.bytes, hml, hown, fun w hw => hts w (List.mem_cons_of_mem _ hw), v1, v2, v4, B.notSynchronized, B.returns, (name_of_methodNamed B.named B.method).1, v3⟩
    have hcl : mv_W p l e (mv_Rm M) s m (as.map (mv_tr ad)).toArray below meth c A D cl kd cA ad (mv_ml M) (MQ below (mv_Pst A D cl kd cA ad (mv_mc M) Q) (as.map (mv_tr ad)).toArray s (mv_mc M) (mv_ms M) A) (0, mv_ent (mv_ml M) as, [], 0, 0, S) := by
      refine h3 _ (fun F hF => ?_)
      rcases hF with ⟨F', g1, g2⟩ | ⟨lc', g1, g2⟩ | ⟨pc, lc, st, vc, vs, S, i, n, a, b, c, d', rfl, h0, hF⟩
      · exact mv_one_ok Y X hMk ⟨rfl, rfl⟩ ⟨rfl, rfl⟩ g1 g2
      · intro H locs ls hH hL hcs
        exact g2 H locs ls hH (mv_le_Lc g1 hL) hcs
      · intro H locs ls hH hL hcs
        obtain ⟨hd, hrw⟩ := hMk.2.2.2.2.2.2 _ (mv_at_mem h0)
        simp only at hd hrw
        rcases hF with ⟨cn, off, r, tgt, g1, g2, g3, g4⟩ | ⟨x, r, off, tgt, rfl, g1, g2, g3⟩ | ⟨x, k, r, N, v, rfl, g1, g2, g3⟩ | ⟨v, x, k, r, N, S', rfl, g1, g2, g3⟩ | ⟨Mj, as', r, Q', g1, rfl, g3, g4, g5, g6, g7, g8, g9⟩ | ⟨v, ok, g1, g2, g3, g4, g5⟩ | ⟨x, y, r, v, rfl, g1, g2, g3⟩
        · rw [mv_len_cond g1 hrw] at hd
          exact mv_cond_ok X.1 X.2.1 hd g1 g2 (fun z => g3 z H locs ls hH hL hcs) (fun z => g4 z H locs ls hH hL hcs)
        · exact mv_sw_ok X.1 X.2.1 hd g1 g2 (g3 H locs ls hH hL hcs)
        · exact mv_ald_ok X hH Y.2.2.2.2 hd (mv_len_ald g1 hrw) g1 g2 (g3 H locs ls hH hL hcs)
        · exact mv_ast_ok X hH hd (mv_len_ast g1 hrw) g1 g2 (fun H1 locs1 q => g3 H1 locs1 ls q hL hcs)
        · exact mv_call_ok Y X hH hL.1.1 ⟨rfl, rfl⟩ hd hrw g1 g3 g4 g5 g6 g7 (ih a as' S Q' g8 Mj g1) (fun v S' H1 locs1 q1 q2 => g9 v S' q1 H1 locs1 ls q2 hL ⟨g6, g7⟩)
        · have g2 : vc = (mv_mc M) := g2
          subst g2
          refine W.widen (Nat.le_refl _) g3 ?_
          exact mv_ret_ok X hH hd hrw g1 g4 g5
        · exact mv_div_ok X.1 X.2.1 hd hrw g2 g1 (g3 H locs ls hH hL hcs)
    have hl := lv_entry (as.map (mv_tr ad)) (n := (mv_ml M)) (by have := mv_sl_len ad as (mv_ml M); rw [h2] at this; exact this)
    rw [lg_entry_eq]
    refine hcl s.heap [] _ ⟨v5, v6, va_S.rf, rfl, v7⟩ ⟨⟨hl.1, hl.2.1, fun q hq => by cases hq⟩, h2, fun j v hj => ?_⟩ ⟨Nat.zero_le _, Nat.zero_le _⟩
    exact hl.2.2 _ (mv_args_tr ad as 0 j v (mv_ent_has as (mv_ml M) j v hj))
end
section
/-! A method's table is checked by a program. -/
def mv_nest (w : Jvm.Cond) : Bool := match w with
  | .fieldLinkNest _ _ _ _ _ _ => true
  | .methodLinkNest _ _ _ _ => true
  | _ => false
def mv_has (tb : List Jvm.Cond) (w : Jvm.Cond) : Bool := tb.any (fun x => decide (x = w)) && goodWord w
def mv_hasN (tb : List Jvm.Cond) (w : Jvm.Cond) : Bool := tb.any (fun x => decide (x = w)) && mv_nest w
theorem mv_any_in {tb : List Jvm.Cond} {w : Jvm.Cond} (h : tb.any (fun x => decide (x = w)) = true) : w ∈ tb := by
  obtain ⟨x, h1, h2⟩ := List.any_eq_true.mp h
  rw [← of_decide_eq_true h2]
  exact h1
theorem mv_has_in {tb tb' : List Jvm.Cond} (hs : ∀ w ∈ tb, w ∈ tb') {w : Jvm.Cond} (h : mv_has tb w = true) : w ∈ tb'.filter goodWord := by
  unfold mv_has at h
  rw [Bool.and_eq_true] at h
  exact List.mem_filter.mpr ⟨hs _ (mv_any_in h.1), h.2⟩
theorem mv_hasN_in {tb tb' : List Jvm.Cond} (hs : ∀ w ∈ tb, w ∈ tb') {w : Jvm.Cond} (h : mv_hasN tb w = true) : w ∈ tb'.filter mv_nest := by
  unfold mv_hasN at h
  rw [Bool.and_eq_true] at h
  exact List.mem_filter.mpr ⟨hs _ (mv_any_in h.1), h.2⟩
def mv_lnkB (tb : List Jvm.Cond) (own : String) (idx : Nat) (r n d : String) : Bool := mv_has tb (.fieldLink own idx r n d) || mv_hasN tb (.fieldLinkNest own idx r n d "KindJudge")
def mv_mlkB (tb : List Jvm.Cond) (own : String) (idx : Nat) (y : MethodName) : Bool := mv_has tb (.methodLink own idx y) || mv_hasN tb (.methodLinkNest own idx y "KindJudge")
theorem mv_lnkB_ok {tb tb' : List Jvm.Cond} (hs : ∀ w ∈ tb, w ∈ tb') {own : String} {idx : Nat} {r n d : String} (h : mv_lnkB tb own idx r n d = true) : mv_lnk (tb'.filter goodWord) (tb'.filter mv_nest) own idx r n d := by
  unfold mv_lnkB at h
  rw [Bool.or_eq_true] at h
  rcases h with h | h
  · exact Or.inl (mv_has_in hs h)
  · exact Or.inr ⟨_, mv_hasN_in hs h⟩
theorem mv_mlkB_ok {tb tb' : List Jvm.Cond} (hs : ∀ w ∈ tb, w ∈ tb') {own : String} {idx : Nat} {y : MethodName} (h : mv_mlkB tb own idx y = true) : mv_mlk (tb'.filter goodWord) (tb'.filter mv_nest) own idx y := by
  unfold mv_mlkB at h
  rw [Bool.or_eq_true] at h
  rcases h with h | h
  · exact Or.inl (mv_has_in hs h)
  · exact Or.inr ⟨_, mv_hasN_in hs h⟩
def mv_npB (y : MethodName) (n : Nat) : Bool := decide ((parseMethodDescriptor y.desc).map (fun d => d.parameters.length) = some n)
theorem mv_npB_ok {y : MethodName} {n : Nat} (h : mv_npB y n = true) : mv_np y n := by
  unfold mv_npB at h
  unfold mv_np
  exact of_decide_eq_true h
def mv_rmB (M Mj : mv_Me) : Bool := Nat.ble (mv_fr Mj + 1) (mv_fr M) && Nat.ble (8 + (mv_ml Mj + 11) + mv_lo Mj) (mv_lo M)
def mv_rwB (tb : List Jvm.Cond) (cl : List vw_C) (kd : List (List Nat)) (prog : List mv_Me) (stn : List (String × String × String)) (M : mv_Me) (i : ClassFile.Instr) (n a b c d : Nat) : Bool := match i with
  | .getfield idx => Nat.beq n 3 && (match cl[a]? with
    | some q => decide ((kd.getD a [])[b]? = some c) && mv_lnkB tb (mv_ow M) idx (q.2.1 b).1 (q.2.1 b).2.1 (q.2.1 b).2.2.1
    | none => false)
  | .putfield idx => Nat.beq n 3 && (match cl[a]? with
    | some q => decide ((kd.getD a [])[b]? = some c) && (bif (q.2.1 b).2.2.2 then decide (M.1.name = "<init>") && (decide ((q.2.1 b).1 = mv_ow M) && mv_has tb (.fieldLink (mv_ow M) idx (q.2.1 b).1 (q.2.1 b).2.1 (q.2.1 b).2.2.1)) else mv_lnkB tb (mv_ow M) idx (q.2.1 b).1 (q.2.1 b).2.1 (q.2.1 b).2.2.1)
    | none => false)
  | .new idx => Nat.beq n 3 && (match cl[a]? with
    | some q => Nat.beq q.2.2 b && (mv_has tb (.classLink (mv_ow M) idx q.1) && (mv_has tb (.instantiable q.1 b) && mv_has tb (.initialized q.1)))
    | none => false)
  | .newarray t => Nat.beq n 2 && (Nat.ble c 3 && (decide (Op.newarray.typeOf t = mv_ty c) && mv_has tb (.arrayClass (mv_ty c))))
  | .ldc idx => Nat.beq n 2 && mv_has tb (.constant (mv_ow M) idx (Int32.ofNat a))
  | .ldc_w idx => Nat.beq n 3 && mv_has tb (.constant (mv_ow M) idx (Int32.ofNat a))
  | .ldc2_w idx => Nat.beq n 3 && mv_has tb (.constantLong (mv_ow M) idx (Int64.ofNat a))
  | .getstatic idx => Nat.beq n 3 && (match stn[a]? with
    | some q => mv_has tb (.fieldLink (mv_ow M) idx q.1 q.2.1 q.2.2)
    | none => false)
  | .invokespecial idx => Nat.beq n 3 && (match c with
    | 3 => Nat.ble 1 (mv_fr M) && (Nat.ble 20 (mv_lo M) && (mv_has tb (.methodLink (mv_ow M) idx Lib.objectInit) && (mv_has tb (.instanceMethod Lib.objectInit) && mv_has tb (.code Lib.objectInit ⟨#[0xb1]⟩ 1 none))))
    | 2 => (match prog[a]? with
      | some Mj => mv_rmB M Mj && (decide (mv_rt Mj = none) && (Nat.ble 1 b && (mv_npB Mj.1 (b - 1) && (mv_mlkB tb (mv_ow M) idx Mj.1 && (decide (Mj.1.name = "<init>") && mv_has tb (.instanceMethod Mj.1))))))
      | none => false)
    | _ => false)
  | .invokestatic idx => Nat.beq n 3 && (match c with
    | 4 => Nat.ble 1 (mv_fr M) && (Nat.ble 21 (mv_lo M) && (mv_has tb (.methodLink (mv_ow M) idx Lib.Math.max.name) && (mv_has tb (.static Lib.Math.max.name) && (mv_has tb (.initialized "java/lang/Math") && mv_has tb (.code Lib.Math.max.name Lib.Math.max.code 2 (some .int))))))
    | 5 => Nat.ble 1 (mv_fr M) && (Nat.ble 21 (mv_lo M) && (mv_has tb (.methodLink (mv_ow M) idx Lib.Math.min.name) && (mv_has tb (.static Lib.Math.min.name) && (mv_has tb (.initialized "java/lang/Math") && mv_has tb (.code Lib.Math.min.name Lib.Math.min.code 2 (some .int))))))
    | 1 => (match prog[a]? with
      | some Mj => mv_rmB M Mj && (mv_npB Mj.1 b && (mv_mlkB tb (mv_ow M) idx Mj.1 && mv_has tb (.static Mj.1)))
      | none => false)
    | _ => false)
  | .invokevirtual idx => Nat.beq n 3 && (match c with
    | 0 => (match prog[a]?, cl[d]? with
      | some Mj, some q => mv_rmB M Mj && (Nat.ble 1 b && (mv_npB Mj.1 (b - 1) && (decide (q.1 = Mj.1.cls) && (mv_mlkB tb (mv_ow M) idx Mj.1 && (mv_has tb (.instanceMethod Mj.1) && mv_has tb (.selects Mj.1.cls Mj.1 Mj.1))))))
      | _, _ => false)
    | _ => false)
  | .lookupswitch _ _ => true
  | .tableswitch _ _ _ _ => true
  | i => Nat.beq n (mv_len i)
theorem mv_rmB_ok {M Mj : mv_Me} (h : mv_rmB M Mj = true) : mv_rm M Mj := by
  unfold mv_rmB at h
  rw [Bool.and_eq_true] at h
  exact ⟨Nat.le_of_ble_eq_true h.1, Nat.le_of_ble_eq_true h.2⟩
set_option maxHeartbeats 4000000 in
theorem mv_rwB_ok {tb tb' : List Jvm.Cond} (hs : ∀ w ∈ tb, w ∈ tb') {cl : List vw_C} {kd : List (List Nat)} {prog : List mv_Me} {stn : List (String × String × String)} {M : mv_Me} {i : ClassFile.Instr} {n a b c d : Nat} (h : mv_rwB tb cl kd prog stn M i n a b c d = true) : mv_Rw cl kd (tb'.filter goodWord) (tb'.filter mv_nest) prog stn M i n a b c d := by
  cases i
  case getfield idx =>
    simp only [mv_rwB, Bool.and_eq_true] at h
    obtain ⟨h0, h⟩ := h
    split at h
    · rename_i q hq
      rw [Bool.and_eq_true] at h
      exact ⟨Nat.eq_of_beq_eq_true h0, q.1, q.2.1, q.2.2, hq, of_decide_eq_true h.1, mv_lnkB_ok hs h.2⟩
    · cases h
  case putfield idx =>
    simp only [mv_rwB, Bool.and_eq_true] at h
    obtain ⟨h0, h⟩ := h
    split at h
    · rename_i q hq
      rw [Bool.and_eq_true] at h
      refine ⟨Nat.eq_of_beq_eq_true h0, q.1, q.2.1, q.2.2, hq, of_decide_eq_true h.1, ?_⟩
      cases hf : (q.2.1 b).2.2.2 with
      | true =>
        rw [hf] at h
        simp only [cond_true, Bool.and_eq_true] at h
        exact Or.inr ⟨rfl, of_decide_eq_true h.2.1, of_decide_eq_true h.2.2.1, mv_has_in hs h.2.2.2⟩
      | false =>
        rw [hf] at h
        exact Or.inl ⟨rfl, mv_lnkB_ok hs h.2⟩
    · cases h
  case new idx =>
    simp only [mv_rwB, Bool.and_eq_true] at h
    obtain ⟨h0, h⟩ := h
    split at h
    · rename_i q hq
      simp only [Bool.and_eq_true] at h
      have e : q.2.2 = b := Nat.eq_of_beq_eq_true h.1
      exact ⟨Nat.eq_of_beq_eq_true h0, q.1, q.2.1, by rw [hq, ← e], mv_has_in hs h.2.1, mv_has_in hs h.2.2.1, mv_has_in hs h.2.2.2⟩
    · cases h
  case newarray t =>
    simp only [mv_rwB, Bool.and_eq_true] at h
    exact ⟨Nat.eq_of_beq_eq_true h.1, Nat.le_of_ble_eq_true h.2.1, of_decide_eq_true h.2.2.1, mv_has_in hs h.2.2.2⟩
  case ldc idx =>
    simp only [mv_rwB, Bool.and_eq_true] at h
    exact ⟨Nat.eq_of_beq_eq_true h.1, mv_has_in hs h.2⟩
  case ldc_w idx =>
    simp only [mv_rwB, Bool.and_eq_true] at h
    exact ⟨Nat.eq_of_beq_eq_true h.1, mv_has_in hs h.2⟩
  case ldc2_w idx =>
    simp only [mv_rwB, Bool.and_eq_true] at h
    exact ⟨Nat.eq_of_beq_eq_true h.1, mv_has_in hs h.2⟩
  case getstatic idx =>
    simp only [mv_rwB, Bool.and_eq_true] at h
    obtain ⟨h0, h⟩ := h
    split at h
    · rename_i q hq
      exact ⟨Nat.eq_of_beq_eq_true h0, q, hq, mv_has_in hs h⟩
    · cases h
  case invokespecial idx =>
    simp only [mv_rwB, Bool.and_eq_true] at h
    obtain ⟨h0, h⟩ := h
    split at h
    · simp only [Bool.and_eq_true] at h
      exact ⟨Nat.eq_of_beq_eq_true h0, fun _ => ⟨Nat.le_of_ble_eq_true h.1, Nat.le_of_ble_eq_true h.2.1, mv_has_in hs h.2.2.1, mv_has_in hs h.2.2.2.1, mv_has_in hs h.2.2.2.2⟩, (fun e => absurd e (by decide))⟩
    · split at h
      · rename_i Mj hj
        simp only [Bool.and_eq_true] at h
        have hb : 1 ≤ b := Nat.le_of_ble_eq_true h.2.2.1
        exact ⟨Nat.eq_of_beq_eq_true h0, (fun e => absurd e (by decide)), fun _ => ⟨Mj, b - 1, hj, mv_rmB_ok h.1, of_decide_eq_true h.2.1, by omega, mv_npB_ok h.2.2.2.1, mv_mlkB_ok hs h.2.2.2.2.1, of_decide_eq_true h.2.2.2.2.2.1, mv_has_in hs h.2.2.2.2.2.2⟩⟩
      · cases h
    · cases h
  case invokestatic idx =>
    simp only [mv_rwB, Bool.and_eq_true] at h
    obtain ⟨h0, h⟩ := h
    split at h
    · simp only [Bool.and_eq_true] at h
      exact ⟨Nat.eq_of_beq_eq_true h0, fun _ => ⟨Nat.le_of_ble_eq_true h.1, Nat.le_of_ble_eq_true h.2.1, mv_has_in hs h.2.2.1, mv_has_in hs h.2.2.2.1, mv_has_in hs h.2.2.2.2.1, mv_has_in hs h.2.2.2.2.2⟩, (fun e => absurd e (by decide)), (fun e => absurd e (by decide))⟩
    · simp only [Bool.and_eq_true] at h
      exact ⟨Nat.eq_of_beq_eq_true h0, (fun e => absurd e (by decide)), fun _ => ⟨Nat.le_of_ble_eq_true h.1, Nat.le_of_ble_eq_true h.2.1, mv_has_in hs h.2.2.1, mv_has_in hs h.2.2.2.1, mv_has_in hs h.2.2.2.2.1, mv_has_in hs h.2.2.2.2.2⟩, (fun e => absurd e (by decide))⟩
    · split at h
      · rename_i Mj hj
        simp only [Bool.and_eq_true] at h
        exact ⟨Nat.eq_of_beq_eq_true h0, (fun e => absurd e (by decide)), (fun e => absurd e (by decide)), fun _ => ⟨Mj, hj, mv_rmB_ok h.1, mv_npB_ok h.2.1, mv_mlkB_ok hs h.2.2.1, mv_has_in hs h.2.2.2⟩⟩
      · cases h
    · cases h
  case invokevirtual idx =>
    simp only [mv_rwB, Bool.and_eq_true] at h
    obtain ⟨h0, h⟩ := h
    split at h
    · split at h
      · rename_i Mj q hj hq
        simp only [Bool.and_eq_true] at h
        have hb : 1 ≤ b := Nat.le_of_ble_eq_true h.2.1
        have e : q.1 = Mj.1.cls := of_decide_eq_true h.2.2.2.1
        exact ⟨Nat.eq_of_beq_eq_true h0, fun _ => ⟨Mj, b - 1, q.2.1, q.2.2, hj, mv_rmB_ok h.1, by omega, mv_npB_ok h.2.2.1, by rw [hq, ← e], mv_mlkB_ok hs h.2.2.2.2.1, mv_has_in hs h.2.2.2.2.2.1, mv_has_in hs h.2.2.2.2.2.2⟩⟩
      · cases h
    · cases h
  all_goals first
    | exact Nat.eq_of_beq_eq_true h
    | exact trivial
def mv_mkB (tb : List Jvm.Cond) (cl : List vw_C) (kd : List (List Nat)) (prog : List mv_Me) (stn : List (String × String × String)) (M : mv_Me) : Bool :=
  Jvm.plainName M.1.cls && (decide (M.1.cls = mv_ow M) && (mv_has tb (.code M.1 (mv_cc M) (mv_ml M) (mv_rt M)) && (mv_has tb (.initialized M.1.cls) && (decide (M.1.cls ≠ "java/lang/invoke/MethodHandle") && (decide (M.1.cls ≠ "java/lang/invoke/VarHandle") && (mv_tb M).all (fun e => decide (decode (mv_cc M) e.1 = .ok (e.2.1, e.2.2.1)) && mv_rwB tb cl kd prog stn M e.2.1 e.2.2.1 e.2.2.2.1 e.2.2.2.2.1 e.2.2.2.2.2.1 e.2.2.2.2.2.2))))))
theorem mv_mkB_ok {tb tb' : List Jvm.Cond} (hs : ∀ w ∈ tb, w ∈ tb') {cl : List vw_C} {kd : List (List Nat)} {prog : List mv_Me} {stn : List (String × String × String)} {M : mv_Me} (h : mv_mkB tb cl kd prog stn M = true) : mv_Mk cl kd (tb'.filter goodWord) (tb'.filter mv_nest) prog stn M := by
  unfold mv_mkB at h
  simp only [Bool.and_eq_true] at h
  obtain ⟨h1, h2, h3, h4, h5, h6, h7⟩ := h
  refine ⟨h1, of_decide_eq_true h2, mv_has_in hs h3, mv_has_in hs h4, of_decide_eq_true h5, of_decide_eq_true h6, fun e he => ?_⟩
  have h8 := List.all_eq_true.mp h7 e he
  rw [Bool.and_eq_true] at h8
  exact ⟨of_decide_eq_true h8.1, mv_rwB_ok hs h8.2⟩
theorem mv_sub_of {tb ws : List Jvm.Cond} (ps : List Nat) (h : ws = ps.filterMap (fun i => tb[i]?)) : ∀ w ∈ ws, w ∈ tb := fun w hw => by
  rw [h] at hw
  obtain ⟨i, -, hi⟩ := List.mem_filterMap.mp hw
  exact List.mem_of_getElem? hi
theorem mv_good_all {tb : List Jvm.Cond} : ∀ w ∈ tb.filter goodWord, (w.onTables && w.keeps) = true ∨ ∃ ty, w = .arrayClass ty := fun w hw => good_of_word (List.mem_filter.mp hw).2
theorem mv_nest_all {tb : List Jvm.Cond} : ∀ w ∈ tb.filter mv_nest, (∃ a i b n d h, w = Jvm.Cond.fieldLinkNest a i b n d h) ∨ ∃ a i x h, w = Jvm.Cond.methodLinkNest a i x h := fun w hw => by
  have h := (List.mem_filter.mp hw).2
  unfold mv_nest at h
  split at h
  · exact Or.inl ⟨_, _, _, _, _, _, rfl⟩
  · exact Or.inr ⟨_, _, _, _, rfl⟩
  · cases h
end
section
/-! The methods of the class and of the reference as tables (by program: wip/whole/mkparts.py). -/
def kjF_0 : u_T := fun k => match k with
  | 0 => ("KindJudge", "file", "LKindJudge$Book;", false)
  | 1 => ("KindJudge", "draft", "LKindJudge$Book;", false)
  | 2 => ("KindJudge", "goodFiles", "I", false)
  | 3 => ("KindJudge", "faultKind", "I", false)
  | 4 => ("KindJudge", "faultPlace", "I", false)
  | _ => ("KindJudge", "faultMethod", "I", false)
def kjY_0 : Nat → FieldType := fun k => match k with
  | 0 => .object "KindJudge$Book"
  | 1 => .object "KindJudge$Book"
  | 2 => .int
  | 3 => .int
  | 4 => .int
  | _ => .int
def kjF_1 : u_T := fun k => match k with
  | 0 => ("KindJudge$Book", "bytes", "LKindJudge$Bytes;", true)
  | 1 => ("KindJudge$Book", "layout", "LKindJudge$Layout;", true)
  | 2 => ("KindJudge$Book", "code", "LKindJudge$Code;", true)
  | _ => ("KindJudge$Book", "flow", "LKindJudge$Flow;", true)
def kjY_1 : Nat → FieldType := fun k => match k with
  | 0 => .object "KindJudge$Bytes"
  | 1 => .object "KindJudge$Layout"
  | 2 => .object "KindJudge$Code"
  | _ => .object "KindJudge$Flow"
def kjF_2 : u_T := fun k => match k with
  | 0 => ("KindJudge$Bytes", "row", "[B", true)
  | _ => ("KindJudge$Bytes", "length", "I", false)
def kjY_2 : Nat → FieldType := fun k => match k with
  | 0 => .array .byte
  | _ => .int
def kjF_3 : u_T := fun k => match k with
  | 0 => ("KindJudge$Layout", "classes", "LKindJudge$Classes;", true)
  | 1 => ("KindJudge$Layout", "selectors", "LKindJudge$Signatures;", true)
  | 2 => ("KindJudge$Layout", "methods", "LKindJudge$Signatures;", true)
  | 3 => ("KindJudge$Layout", "reader", "LKindJudge$Reader;", true)
  | 4 => ("KindJudge$Layout", "locals", "[I", true)
  | 5 => ("KindJudge$Layout", "stacks", "[I", true)
  | 6 => ("KindJudge$Layout", "starts", "[I", true)
  | 7 => ("KindJudge$Layout", "lengths", "[I", true)
  | _ => ("KindJudge$Layout", "table", "[I", true)
def kjY_3 : Nat → FieldType := fun k => match k with
  | 0 => .object "KindJudge$Classes"
  | 1 => .object "KindJudge$Signatures"
  | 2 => .object "KindJudge$Signatures"
  | 3 => .object "KindJudge$Reader"
  | 4 => .array .int
  | 5 => .array .int
  | 6 => .array .int
  | 7 => .array .int
  | _ => .array .int
def kjF_4 : u_T := fun k => match k with
  | 0 => ("KindJudge$Classes", "supers", "[I", true)
  | 1 => ("KindJudge$Classes", "fieldCounts", "[I", true)
  | 2 => ("KindJudge$Classes", "fieldTypes", "[I", true)
  | 3 => ("KindJudge$Classes", "above", "[I", true)
  | _ => ("KindJudge$Classes", "number", "I", false)
def kjY_4 : Nat → FieldType := fun k => match k with
  | 0 => .array .int
  | 1 => .array .int
  | 2 => .array .int
  | 3 => .array .int
  | _ => .int
def kjF_5 : u_T := fun k => match k with
  | 0 => ("KindJudge$Signatures", "counts", "[I", true)
  | 1 => ("KindJudge$Signatures", "types", "[I", true)
  | 2 => ("KindJudge$Signatures", "returned", "[I", true)
  | _ => ("KindJudge$Signatures", "number", "I", false)
def kjY_5 : Nat → FieldType := fun k => match k with
  | 0 => .array .int
  | 1 => .array .int
  | 2 => .array .int
  | _ => .int
def kjF_6 : u_T := fun k => match k with
  | 0 => ("KindJudge$Reader", "bytes", "LKindJudge$Bytes;", true)
  | 1 => ("KindJudge$Reader", "at", "I", false)
  | _ => ("KindJudge$Reader", "stopped", "Z", false)
def kjY_6 : Nat → FieldType := fun k => match k with
  | 0 => .object "KindJudge$Bytes"
  | 1 => .int
  | _ => .boolean
def kjF_7 : u_T := fun k => match k with
  | 0 => ("KindJudge$Code", "bytes", "LKindJudge$Bytes;", true)
  | 1 => ("KindJudge$Code", "layout", "LKindJudge$Layout;", true)
  | _ => ("KindJudge$Code", "begun", "[Z", true)
def kjY_7 : Nat → FieldType := fun k => match k with
  | 0 => .object "KindJudge$Bytes"
  | 1 => .object "KindJudge$Layout"
  | _ => .array .boolean
def kjF_8 : u_T := fun k => match k with
  | 0 => ("KindJudge$Flow", "layout", "LKindJudge$Layout;", true)
  | 1 => ("KindJudge$Flow", "code", "LKindJudge$Code;", true)
  | 2 => ("KindJudge$Flow", "heights", "[B", true)
  | 3 => ("KindJudge$Flow", "frames", "[J", true)
  | 4 => ("KindJudge$Flow", "changed", "[Z", true)
  | 5 => ("KindJudge$Flow", "op", "I", false)
  | 6 => ("KindJudge$Flow", "first", "I", false)
  | 7 => ("KindJudge$Flow", "second", "I", false)
  | 8 => ("KindJudge$Flow", "height", "I", false)
  | 9 => ("KindJudge$Flow", "low", "I", false)
  | 10 => ("KindJudge$Flow", "behind", "I", false)
  | _ => ("KindJudge$Flow", "frame", "J", false)
def kjY_8 : Nat → FieldType := fun k => match k with
  | 0 => .object "KindJudge$Layout"
  | 1 => .object "KindJudge$Code"
  | 2 => .array .byte
  | 3 => .array .long
  | 4 => .array .boolean
  | 5 => .int
  | 6 => .int
  | 7 => .int
  | 8 => .int
  | 9 => .int
  | 10 => .int
  | _ => .long
def kjF_9 : u_T := fun k => match k with
  | 0 => ("KindJudgeModel", "thrown", "I", false)
  | 1 => ("KindJudgeModel", "goods", "I", false)
  | 2 => ("KindJudgeModel", "together", "I", false)
  | 3 => ("KindJudgeModel", "bytes", "[I", true)
  | 4 => ("KindJudgeModel", "read", "[I", true)
  | 5 => ("KindJudgeModel", "readLong", "I", false)
  | 6 => ("KindJudgeModel", "file", "[I", true)
  | 7 => ("KindJudgeModel", "fileLong", "I", false)
  | 8 => ("KindJudgeModel", "isFile", "Z", false)
  | 9 => ("KindJudgeModel", "fault", "I", false)
  | 10 => ("KindJudgeModel", "faultPlace", "I", false)
  | 11 => ("KindJudgeModel", "faultMethod", "I", false)
  | 12 => ("KindJudgeModel", "classes", "I", false)
  | 13 => ("KindJudgeModel", "above", "[I", true)
  | 14 => ("KindJudgeModel", "fields", "[I", true)
  | 15 => ("KindJudgeModel", "fieldType", "[I", true)
  | 16 => ("KindJudgeModel", "selectors", "I", false)
  | 17 => ("KindJudgeModel", "selParams", "[I", true)
  | 18 => ("KindJudgeModel", "selType", "[I", true)
  | 19 => ("KindJudgeModel", "selReturn", "[I", true)
  | 20 => ("KindJudgeModel", "methods", "I", false)
  | 21 => ("KindJudgeModel", "params", "[I", true)
  | 22 => ("KindJudgeModel", "paramType", "[I", true)
  | 23 => ("KindJudgeModel", "returns", "[I", true)
  | 24 => ("KindJudgeModel", "locals", "[I", true)
  | 25 => ("KindJudgeModel", "most", "[I", true)
  | 26 => ("KindJudgeModel", "size", "[I", true)
  | 27 => ("KindJudgeModel", "code", "[I", true)
  | 28 => ("KindJudgeModel", "begins", "[Z", true)
  | 29 => ("KindJudgeModel", "table", "[I", true)
  | 30 => ("KindJudgeModel", "height", "[I", true)
  | 31 => ("KindJudgeModel", "kinds", "[I", true)
  | 32 => ("KindJudgeModel", "next", "[I", true)
  | 33 => ("KindJudgeModel", "nextHeight", "I", false)
  | 34 => ("KindJudgeModel", "breaks", "Z", false)
  | 35 => ("KindJudgeModel", "at", "I", false)
  | _ => ("KindJudgeModel", "bad", "Z", false)
def kjY_9 : Nat → FieldType := fun k => match k with
  | 0 => .int
  | 1 => .int
  | 2 => .int
  | 3 => .array .int
  | 4 => .array .int
  | 5 => .int
  | 6 => .array .int
  | 7 => .int
  | 8 => .boolean
  | 9 => .int
  | 10 => .int
  | 11 => .int
  | 12 => .int
  | 13 => .array .int
  | 14 => .array .int
  | 15 => .array .int
  | 16 => .int
  | 17 => .array .int
  | 18 => .array .int
  | 19 => .array .int
  | 20 => .int
  | 21 => .array .int
  | 22 => .array .int
  | 23 => .array .int
  | 24 => .array .int
  | 25 => .array .int
  | 26 => .array .int
  | 27 => .array .int
  | 28 => .array .boolean
  | 29 => .array .int
  | 30 => .array .int
  | 31 => .array .int
  | 32 => .array .int
  | 33 => .int
  | 34 => .boolean
  | 35 => .int
  | _ => .boolean
def kjCl : List vw_C := [("KindJudge", kjF_0, 6), ("KindJudge$Book", kjF_1, 4), ("KindJudge$Bytes", kjF_2, 2), ("KindJudge$Layout", kjF_3, 9), ("KindJudge$Classes", kjF_4, 5), ("KindJudge$Signatures", kjF_5, 4), ("KindJudge$Reader", kjF_6, 3), ("KindJudge$Code", kjF_7, 3), ("KindJudge$Flow", kjF_8, 12), ("KindJudgeModel", kjF_9, 37)]
def kjKd : List (List Nat) := [[4, 4, 0, 0, 0, 0], [4, 4, 4, 4], [4, 0], [4, 4, 4, 4, 4, 4, 4, 4, 4], [4, 4, 4, 4, 0], [4, 4, 4, 0], [4, 0, 1], [4, 4, 4], [4, 4, 4, 4, 4, 0, 0, 0, 0, 0, 0, 3], [0, 0, 0, 4, 4, 0, 4, 0, 1, 0, 0, 0, 0, 4, 4, 4, 0, 4, 4, 4, 0, 4, 4, 4, 4, 4, 4, 4, 4, 4, 4, 4, 4, 0, 1, 0, 1]]
def kjStn : List (String × String × String) := [("KindJudge$Code", "SIZES", "[I"), ("KindJudge$Code", "TAKES", "[I"), ("KindJudge$Code", "PUTS", "[I")]
def kjSta (t : Nat) : List Int32 := match t with
  | 0 => [2, 3, 1, 2, 2, 1, 1, 1, 1, 1, 1, 1, 1, 1, 1, 1, 1, 1, 1, 1, 3, 2, 2, 2, 2, 2, 2, 2, 2, 2, 2, 2, 2, 2, 2, 2, 2, 2, 2, 3, 3, 1, 1, 1, 1, 2, 2, 2, 2, 1, 1, 1, 1, 3]
  | 1 => [0, 0, 0, 0, 1, 1, 1, 2, 2, 2, 2, 2, 2, 2, 2, 2, 2, 2, 2, 1, 0, 0, 1, 1, 1, 1, 1, 1, 2, 2, 2, 2, 2, 2, 1, 1, 2, 2, 0, 1, 2, 1, 2, 3, 1, 1, 1, 0, 1, 0, 1, 1, 0, 1]
  | 2 => [1, 1, 1, 1, 0, 0, 2, 2, 1, 1, 1, 1, 1, 1, 1, 1, 1, 1, 1, 1, 0, 0, 0, 0, 0, 0, 0, 0, 0, 0, 0, 0, 0, 0, 0, 0, 0, 0, 1, 1, 0, 1, 1, 0, 1, 1, 1, 0, 0, 0, 0, 0, 1, 0]
  | _ => []
def kjT_0 : List mv_E := [(0, .aload_n 0, 1, 0, 0, 0, 0), (1, .invokespecial 1, 3, 0, 0, 3, 0), (4, .aload_n 0, 1, 0, 0, 0, 0), (5, .new 7, 3, 1, 4, 0, 0), (8, .dup, 1, 0, 0, 0, 0), (9, .invokespecial 9, 3, 18, 1, 2, 0), (12, .putfield 10, 3, 0, 0, 4, 0), (15, .aload_n 0, 1, 0, 0, 0, 0), (16, .new 7, 3, 1, 4, 0, 0), (19, .dup, 1, 0, 0, 0, 0), (20, .invokespecial 9, 3, 18, 1, 2, 0), (23, .putfield 16, 3, 0, 1, 4, 0), (26, .return_, 1, 0, 0, 0, 0)]
/-- KindJudge.<init>()V -/
def kjM_0 : mv_Me := (⟨"KindJudge", "<init>", "()V"⟩, prog_1_method_1_code, 1, none, "KindJudge", kjT_0, 58, 13148, 4, 85)
def kjT_1 : List mv_E := [(0, .aload_n 0, 1, 0, 0, 0, 0), (1, .getfield 16, 3, 0, 1, 4, 0), (4, .getfield 19, 3, 1, 0, 4, 0), (7, .lload_n 1, 1, 0, 0, 0, 0), (8, .iload_n 3, 1, 0, 0, 0, 0), (9, .invokevirtual 23, 3, 20, 3, 0, 2), (12, .ireturn, 1, 0, 0, 0, 0)]
/-- KindJudge.put(JI)Z -/
def kjM_1 : mv_Me := (⟨"KindJudge", "put", "(JI)Z"⟩, prog_1_method_2_code, 4, (some .boolean), "KindJudge", kjT_1, 0, 0, 1, 24)
def kjT_2 : List mv_E := [(0, .aload_n 0, 1, 0, 0, 0, 0), (1, .invokevirtual 29, 3, 13, 1, 0, 0), (4, .aload_n 0, 1, 0, 0, 0, 0), (5, .getfield 32, 3, 0, 3, 0, 0), (8, .ifCond .eq 23, 3, 0, 0, 0, 0), (11, .aload_n 0, 1, 0, 0, 0, 0), (12, .getfield 16, 3, 0, 1, 4, 0), (15, .getfield 19, 3, 1, 0, 4, 0), (18, .invokevirtual 36, 3, 21, 1, 0, 2), (31, .aload_n 0, 1, 0, 0, 0, 0), (32, .getfield 10, 3, 0, 0, 4, 0), (35, .astore_n 1, 1, 0, 0, 0, 0), (36, .aload_n 0, 1, 0, 0, 0, 0), (37, .aload_n 0, 1, 0, 0, 0, 0), (38, .getfield 16, 3, 0, 1, 4, 0), (41, .putfield 10, 3, 0, 0, 4, 0), (44, .aload_n 0, 1, 0, 0, 0, 0), (45, .aload_n 1, 1, 0, 0, 0, 0), (46, .putfield 16, 3, 0, 1, 4, 0), (49, .aload_n 0, 1, 0, 0, 0, 0), (50, .getfield 16, 3, 0, 1, 4, 0), (53, .getfield 19, 3, 1, 0, 4, 0), (56, .invokevirtual 36, 3, 21, 1, 0, 2), (59, .aload_n 0, 1, 0, 0, 0, 0), (60, .dup, 1, 0, 0, 0, 0), (61, .getfield 46, 3, 0, 2, 0, 0), (64, .iconst 1, 1, 0, 0, 0, 0), (65, .iadd, 1, 0, 0, 0, 0), (66, .putfield 46, 3, 0, 2, 0, 0), (69, .aload_n 0, 1, 0, 0, 0, 0), (70, .getfield 10, 3, 0, 0, 4, 0), (73, .getfield 49, 3, 1, 1, 4, 0), (76, .getfield 53, 3, 3, 2, 4, 0), (79, .getfield 59, 3, 5, 3, 0, 0), (82, .ireturn, 1, 0, 0, 0, 0)]
/-- KindJudge.load()I -/
def kjM_2 : mv_Me := (⟨"KindJudge", "load", "()I"⟩, prog_1_method_3_code, 2, (some .int), "KindJudge", kjT_2, 0, 0, 7, 176)
def kjT_3 : List mv_E := [(0, .iload_n 1, 1, 0, 0, 0, 0), (1, .ifCond .ne 8, 3, 0, 0, 0, 0), (4, .aload_n 0, 1, 0, 0, 0, 0), (5, .getfield 32, 3, 0, 3, 0, 0), (8, .ireturn, 1, 0, 0, 0, 0), (9, .iload_n 1, 1, 0, 0, 0, 0), (10, .iconst 1, 1, 0, 0, 0, 0), (11, .if_icmp .ne 8, 3, 0, 0, 0, 0), (14, .aload_n 0, 1, 0, 0, 0, 0), (15, .getfield 64, 3, 0, 4, 0, 0), (18, .ireturn, 1, 0, 0, 0, 0), (19, .iload_n 1, 1, 0, 0, 0, 0), (20, .iconst 2, 1, 0, 0, 0, 0), (21, .if_icmp .ne 10, 3, 0, 0, 0, 0), (24, .aload_n 0, 1, 0, 0, 0, 0), (25, .getfield 67, 3, 0, 5, 0, 0), (28, .goto 4, 3, 0, 0, 0, 0), (31, .iconst (-1), 1, 0, 0, 0, 0), (32, .ireturn, 1, 0, 0, 0, 0)]
/-- KindJudge.fault(I)I -/
def kjM_3 : mv_Me := (⟨"KindJudge", "fault", "(I)I"⟩, prog_1_method_4_code, 2, (some .int), "KindJudge", kjT_3, 0, 0, 0, 0)
def kjT_4 : List mv_E := [(0, .aload_n 0, 1, 0, 0, 0, 0), (1, .getfield 10, 3, 0, 0, 4, 0), (4, .getfield 70, 3, 1, 2, 4, 0), (7, .iload_n 1, 1, 0, 0, 0, 0), (8, .iload_n 2, 1, 0, 0, 0, 0), (9, .invokevirtual 74, 3, 66, 3, 0, 7), (12, .ifCond .ne 5, 3, 0, 0, 0, 0), (15, .iconst (-1), 1, 0, 0, 0, 0), (16, .ireturn, 1, 0, 0, 0, 0), (17, .aload_n 0, 1, 0, 0, 0, 0), (18, .getfield 10, 3, 0, 0, 4, 0), (21, .getfield 80, 3, 1, 3, 4, 0), (24, .iload_n 1, 1, 0, 0, 0, 0), (25, .iload_n 2, 1, 0, 0, 0, 0), (26, .invokevirtual 84, 3, 78, 3, 0, 8), (29, .istore 4, 2, 0, 0, 0, 0), (31, .iload 4, 2, 0, 0, 0, 0), (33, .iconst (-1), 1, 0, 0, 0, 0), (34, .if_icmp .ne 5, 3, 0, 0, 0, 0), (37, .iconst (-1), 1, 0, 0, 0, 0), (38, .ireturn, 1, 0, 0, 0, 0), (39, .iload_n 3, 1, 0, 0, 0, 0), (40, .ifCond .lt 32, 3, 0, 0, 0, 0), (43, .iload_n 3, 1, 0, 0, 0, 0), (44, .aload_n 0, 1, 0, 0, 0, 0), (45, .getfield 10, 3, 0, 0, 4, 0), (48, .getfield 49, 3, 1, 1, 4, 0), (51, .iload_n 1, 1, 0, 0, 0, 0), (52, .invokevirtual 90, 3, 30, 2, 0, 3), (55, .if_icmp .ge 17, 3, 0, 0, 0, 0), (58, .aload_n 0, 1, 0, 0, 0, 0), (59, .getfield 10, 3, 0, 0, 4, 0), (62, .getfield 80, 3, 1, 3, 4, 0), (65, .iload_n 1, 1, 0, 0, 0, 0), (66, .iload_n 2, 1, 0, 0, 0, 0), (67, .iload_n 3, 1, 0, 0, 0, 0), (68, .invokevirtual 94, 3, 80, 4, 0, 8), (71, .ireturn, 1, 0, 0, 0, 0), (72, .iload_n 3, 1, 0, 0, 0, 0), (73, .bipush 100, 2, 0, 0, 0, 0), (75, .if_icmp .lt 32, 3, 0, 0, 0, 0), (78, .iload_n 3, 1, 0, 0, 0, 0), (79, .bipush 100, 2, 0, 0, 0, 0), (81, .isub, 1, 0, 0, 0, 0), (82, .iload 4, 2, 0, 0, 0, 0), (84, .if_icmp .ge 23, 3, 0, 0, 0, 0), (87, .aload_n 0, 1, 0, 0, 0, 0), (88, .getfield 10, 3, 0, 0, 4, 0), (91, .getfield 80, 3, 1, 3, 4, 0), (94, .iload_n 1, 1, 0, 0, 0, 0), (95, .iload_n 2, 1, 0, 0, 0, 0), (96, .bipush 8, 2, 0, 0, 0, 0), (98, .iload_n 3, 1, 0, 0, 0, 0), (99, .iadd, 1, 0, 0, 0, 0), (100, .bipush 100, 2, 0, 0, 0, 0), (102, .isub, 1, 0, 0, 0, 0), (103, .invokevirtual 94, 3, 80, 4, 0, 8), (106, .ireturn, 1, 0, 0, 0, 0), (107, .iconst (-1), 1, 0, 0, 0, 0), (108, .ireturn, 1, 0, 0, 0, 0)]
/-- KindJudge.kind(III)I -/
def kjM_4 : mv_Me := (⟨"KindJudge", "kind", "(III)I"⟩, prog_1_method_5_code, 5, (some .int), "KindJudge", kjT_4, 0, 0, 4, 89)
def kjT_5 : List mv_E := [(0, .iload_n 3, 1, 0, 0, 0, 0), (1, .ifCond .lt 23, 3, 0, 0, 0, 0), (4, .iload_n 3, 1, 0, 0, 0, 0), (5, .iconst 5, 1, 0, 0, 0, 0), (6, .if_icmp .gt 18, 3, 0, 0, 0, 0), (9, .aload_n 0, 1, 0, 0, 0, 0), (10, .getfield 10, 3, 0, 0, 4, 0), (13, .getfield 70, 3, 1, 2, 4, 0), (16, .iload_n 1, 1, 0, 0, 0, 0), (17, .iload_n 2, 1, 0, 0, 0, 0), (18, .invokevirtual 74, 3, 66, 3, 0, 7), (21, .ifCond .ne 13, 3, 0, 0, 0, 0), (34, .aload_n 0, 1, 0, 0, 0, 0), (35, .getfield 10, 3, 0, 0, 4, 0), (38, .getfield 70, 3, 1, 2, 4, 0), (41, .iload_n 1, 1, 0, 0, 0, 0), (42, .iload_n 2, 1, 0, 0, 0, 0), (43, .iconst 0, 1, 0, 0, 0, 0), (44, .invokevirtual 103, 3, 67, 4, 0, 7), (47, .istore 4, 2, 0, 0, 0, 0), (49, .aload_n 0, 1, 0, 0, 0, 0), (50, .getfield 10, 3, 0, 0, 4, 0), (53, .getfield 70, 3, 1, 2, 4, 0), (56, .iload_n 1, 1, 0, 0, 0, 0), (57, .iload_n 2, 1, 0, 0, 0, 0), (58, .iconst 1, 1, 0, 0, 0, 0), (59, .invokevirtual 103, 3, 67, 4, 0, 7), (62, .istore 5, 2, 0, 0, 0, 0), (64, .aload_n 0, 1, 0, 0, 0, 0), (65, .getfield 10, 3, 0, 0, 4, 0), (68, .getfield 80, 3, 1, 3, 4, 0), (71, .iload_n 1, 1, 0, 0, 0, 0), (72, .iload_n 2, 1, 0, 0, 0, 0), (73, .invokevirtual 84, 3, 78, 3, 0, 8), (76, .istore 6, 2, 0, 0, 0, 0), (78, .iload_n 3, 1, 0, 0, 0, 0), (79, .tableswitch 91 0 4 #[33, 36, 49, 64, 79], 33, 0, 0, 0, 0), (112, .iload 4, 2, 0, 0, 0, 0), (114, .ireturn, 1, 0, 0, 0, 0), (115, .aload_n 0, 1, 0, 0, 0, 0), (116, .getfield 10, 3, 0, 0, 4, 0), (119, .getfield 70, 3, 1, 2, 4, 0), (122, .iload_n 1, 1, 0, 0, 0, 0), (123, .iload_n 2, 1, 0, 0, 0, 0), (124, .invokevirtual 106, 3, 68, 3, 0, 7), (127, .ireturn, 1, 0, 0, 0, 0), (128, .aload_n 0, 1, 0, 0, 0, 0), (129, .getfield 10, 3, 0, 0, 4, 0), (132, .getfield 70, 3, 1, 2, 4, 0), (135, .iload 4, 2, 0, 0, 0, 0), (137, .iload 5, 2, 0, 0, 0, 0), (139, .invokevirtual 109, 3, 69, 3, 0, 7), (142, .ireturn, 1, 0, 0, 0, 0), (143, .aload_n 0, 1, 0, 0, 0, 0), (144, .getfield 10, 3, 0, 0, 4, 0), (147, .getfield 70, 3, 1, 2, 4, 0), (150, .iload 4, 2, 0, 0, 0, 0), (152, .iload 5, 2, 0, 0, 0, 0), (154, .invokevirtual 112, 3, 70, 3, 0, 7), (157, .ireturn, 1, 0, 0, 0, 0), (158, .iload 6, 2, 0, 0, 0, 0), (160, .iconst (-1), 1, 0, 0, 0, 0), (161, .if_icmp .ne 7, 3, 0, 0, 0, 0), (164, .iconst 0, 1, 0, 0, 0, 0), (165, .goto 4, 3, 0, 0, 0, 0), (168, .iconst 1, 1, 0, 0, 0, 0), (169, .ireturn, 1, 0, 0, 0, 0), (170, .iload 6, 2, 0, 0, 0, 0), (172, .iconst (-1), 1, 0, 0, 0, 0), (173, .if_icmp .ne 7, 3, 0, 0, 0, 0), (176, .iconst 0, 1, 0, 0, 0, 0), (177, .goto 5, 3, 0, 0, 0, 0), (180, .iload 6, 2, 0, 0, 0, 0), (182, .ireturn, 1, 0, 0, 0, 0)]
/-- KindJudge.look(III)I -/
def kjM_5 : mv_Me := (⟨"KindJudge", "look", "(III)I"⟩, prog_1_method_6_code, 7, (some .int), "KindJudge", kjT_5, 0, 0, 4, 90)
def kjT_6 : List mv_E := [(0, .aload_n 0, 1, 0, 0, 0, 0), (1, .getfield 10, 3, 0, 0, 4, 0), (4, .getfield 70, 3, 1, 2, 4, 0), (7, .iload_n 1, 1, 0, 0, 0, 0), (8, .iload_n 2, 1, 0, 0, 0, 0), (9, .invokevirtual 74, 3, 66, 3, 0, 7), (12, .ifCond .ne 5, 3, 0, 0, 0, 0), (15, .iconst (-1), 1, 0, 0, 0, 0), (16, .ireturn, 1, 0, 0, 0, 0), (17, .iload_n 2, 1, 0, 0, 0, 0), (18, .ifCond .ne 7, 3, 0, 0, 0, 0), (21, .iconst 1, 1, 0, 0, 0, 0), (22, .goto 4, 3, 0, 0, 0, 0), (25, .iconst 0, 1, 0, 0, 0, 0), (26, .istore_n 3, 1, 0, 0, 0, 0), (27, .aload_n 0, 1, 0, 0, 0, 0), (28, .getfield 10, 3, 0, 0, 4, 0), (31, .getfield 49, 3, 1, 1, 4, 0), (34, .iload_n 1, 1, 0, 0, 0, 0), (35, .invokevirtual 115, 3, 32, 2, 0, 3), (38, .istore 4, 2, 0, 0, 0, 0), (40, .iconst 0, 1, 0, 0, 0, 0), (41, .istore 5, 2, 0, 0, 0, 0), (43, .iload 5, 2, 0, 0, 0, 0), (45, .iload 4, 2, 0, 0, 0, 0), (47, .if_icmp .ge 39, 3, 0, 0, 0, 0), (50, .aload_n 0, 1, 0, 0, 0, 0), (51, .iload_n 1, 1, 0, 0, 0, 0), (52, .iload 5, 2, 0, 0, 0, 0), (54, .invokevirtual 118, 3, 15, 3, 0, 0), (57, .ifCond .eq 23, 3, 0, 0, 0, 0), (60, .aload_n 0, 1, 0, 0, 0, 0), (61, .getfield 10, 3, 0, 0, 4, 0), (64, .getfield 70, 3, 1, 2, 4, 0), (67, .iload_n 1, 1, 0, 0, 0, 0), (68, .iload 5, 2, 0, 0, 0, 0), (70, .iload_n 2, 1, 0, 0, 0, 0), (71, .invokevirtual 121, 3, 76, 4, 0, 7), (74, .ifCond .eq 6, 3, 0, 0, 0, 0), (77, .iinc 3 1, 3, 0, 0, 0, 0), (80, .iinc 5 1, 3, 0, 0, 0, 0), (83, .goto (-40), 3, 0, 0, 0, 0), (86, .iload_n 3, 1, 0, 0, 0, 0), (87, .ireturn, 1, 0, 0, 0, 0)]
/-- KindJudge.ways(II)I -/
def kjM_6 : mv_Me := (⟨"KindJudge", "ways", "(II)I"⟩, prog_1_method_7_code, 6, (some .int), "KindJudge", kjT_6, 0, 0, 5, 115)
def kjT_7 : List mv_E := [(0, .aload_n 0, 1, 0, 0, 0, 0), (1, .getfield 10, 3, 0, 0, 4, 0), (4, .getfield 49, 3, 1, 1, 4, 0), (7, .getfield 53, 3, 3, 2, 4, 0), (10, .iload_n 1, 1, 0, 0, 0, 0), (11, .invokevirtual 125, 3, 49, 2, 0, 5), (14, .ifCond .eq 12, 3, 0, 0, 0, 0), (17, .iload_n 2, 1, 0, 0, 0, 0), (18, .ifCond .lt 8, 3, 0, 0, 0, 0), (21, .iload_n 2, 1, 0, 0, 0, 0), (22, .iconst 2, 1, 0, 0, 0, 0), (23, .if_icmp .le 5, 3, 0, 0, 0, 0), (26, .iconst (-1), 1, 0, 0, 0, 0), (27, .ireturn, 1, 0, 0, 0, 0), (28, .iload_n 2, 1, 0, 0, 0, 0), (29, .iconst 2, 1, 0, 0, 0, 0), (30, .if_icmp .ne 11, 3, 0, 0, 0, 0), (33, .aload_n 0, 1, 0, 0, 0, 0), (34, .iload_n 1, 1, 0, 0, 0, 0), (35, .invokevirtual 129, 3, 17, 2, 0, 0), (38, .goto 17, 3, 0, 0, 0, 0), (41, .aload_n 0, 1, 0, 0, 0, 0), (42, .iload_n 1, 1, 0, 0, 0, 0), (43, .iload_n 2, 1, 0, 0, 0, 0), (44, .ifCond .ne 7, 3, 0, 0, 0, 0), (47, .iconst 1, 1, 0, 0, 0, 0), (48, .goto 4, 3, 0, 0, 0, 0), (51, .iconst 0, 1, 0, 0, 0, 0), (52, .invokevirtual 132, 3, 16, 3, 0, 0), (55, .ireturn, 1, 0, 0, 0, 0)]
/-- KindJudge.count(II)I -/
def kjM_7 : mv_Me := (⟨"KindJudge", "count", "(II)I"⟩, prog_1_method_8_code, 3, (some .int), "KindJudge", kjT_7, 0, 0, 6, 134)
def kjT_8 : List mv_E := [(0, .aload_n 0, 1, 0, 0, 0, 0), (1, .getfield 10, 3, 0, 0, 4, 0), (4, .getfield 49, 3, 1, 1, 4, 0), (7, .getfield 136, 3, 3, 0, 4, 0), (10, .astore_n 3, 1, 0, 0, 0, 0), (11, .aload_n 0, 1, 0, 0, 0, 0), (12, .getfield 46, 3, 0, 2, 0, 0), (15, .ifCond .eq 23, 3, 0, 0, 0, 0), (18, .iload_n 1, 1, 0, 0, 0, 0), (19, .ifCond .eq 19, 3, 0, 0, 0, 0), (22, .aload_n 3, 1, 0, 0, 0, 0), (23, .iload_n 1, 1, 0, 0, 0, 0), (24, .invokevirtual 140, 3, 42, 2, 0, 4), (27, .ifCond .eq 11, 3, 0, 0, 0, 0), (30, .aload_n 3, 1, 0, 0, 0, 0), (31, .iload_n 2, 1, 0, 0, 0, 0), (32, .invokevirtual 145, 3, 43, 2, 0, 4), (35, .ifCond .ne 5, 3, 0, 0, 0, 0), (38, .iconst (-1), 1, 0, 0, 0, 0), (39, .ireturn, 1, 0, 0, 0, 0), (40, .aload_n 3, 1, 0, 0, 0, 0), (41, .iload_n 1, 1, 0, 0, 0, 0), (42, .iload_n 2, 1, 0, 0, 0, 0), (43, .invokevirtual 148, 3, 44, 3, 0, 4), (46, .ifCond .eq 7, 3, 0, 0, 0, 0), (49, .iconst 1, 1, 0, 0, 0, 0), (50, .goto 4, 3, 0, 0, 0, 0), (53, .iconst 0, 1, 0, 0, 0, 0), (54, .ireturn, 1, 0, 0, 0, 0)]
/-- KindJudge.fits(II)I -/
def kjM_8 : mv_Me := (⟨"KindJudge", "fits", "(II)I"⟩, prog_1_method_9_code, 4, (some .int), "KindJudge", kjT_8, 0, 0, 2, 44)
def kjT_9 : List mv_E := [(0, .aload_n 0, 1, 0, 0, 0, 0), (1, .getfield 10, 3, 0, 0, 4, 0), (4, .getfield 49, 3, 1, 1, 4, 0), (7, .getfield 136, 3, 3, 0, 4, 0), (10, .astore_n 3, 1, 0, 0, 0, 0), (11, .aload_n 0, 1, 0, 0, 0, 0), (12, .getfield 46, 3, 0, 2, 0, 0), (15, .ifCond .eq 19, 3, 0, 0, 0, 0), (18, .aload_n 3, 1, 0, 0, 0, 0), (19, .iload_n 1, 1, 0, 0, 0, 0), (20, .invokevirtual 140, 3, 42, 2, 0, 4), (23, .ifCond .eq 11, 3, 0, 0, 0, 0), (26, .aload_n 3, 1, 0, 0, 0, 0), (27, .iload_n 2, 1, 0, 0, 0, 0), (28, .invokevirtual 140, 3, 42, 2, 0, 4), (31, .ifCond .ne 5, 3, 0, 0, 0, 0), (34, .iconst (-1), 1, 0, 0, 0, 0), (35, .ireturn, 1, 0, 0, 0, 0), (36, .aload_n 3, 1, 0, 0, 0, 0), (37, .iload_n 1, 1, 0, 0, 0, 0), (38, .iload_n 2, 1, 0, 0, 0, 0), (39, .invokevirtual 151, 3, 45, 3, 0, 4), (42, .ireturn, 1, 0, 0, 0, 0)]
/-- KindJudge.meet(II)I -/
def kjM_9 : mv_Me := (⟨"KindJudge", "meet", "(II)I"⟩, prog_1_method_10_code, 4, (some .int), "KindJudge", kjT_9, 0, 0, 2, 45)
def kjT_10 : List mv_E := [(0, .aload_n 0, 1, 0, 0, 0, 0), (1, .getfield 10, 3, 0, 0, 4, 0), (4, .getfield 49, 3, 1, 1, 4, 0), (7, .iload_n 1, 1, 0, 0, 0, 0), (8, .iload_n 2, 1, 0, 0, 0, 0), (9, .invokevirtual 154, 3, 29, 3, 0, 3), (12, .ireturn, 1, 0, 0, 0, 0)]
/-- KindJudge.method(II)I -/
def kjM_10 : mv_Me := (⟨"KindJudge", "method", "(II)I"⟩, prog_1_method_11_code, 3, (some .int), "KindJudge", kjT_10, 0, 0, 2, 43)
def kjT_11 : List mv_E := [(0, .aload_n 0, 1, 0, 0, 0, 0), (1, .getfield 10, 3, 0, 0, 4, 0), (4, .getfield 49, 3, 1, 1, 4, 0), (7, .getfield 136, 3, 3, 0, 4, 0), (10, .astore_n 3, 1, 0, 0, 0, 0), (11, .aload_n 3, 1, 0, 0, 0, 0), (12, .iload_n 1, 1, 0, 0, 0, 0), (13, .invokevirtual 157, 3, 37, 2, 0, 4), (16, .ifCond .eq 7, 3, 0, 0, 0, 0), (19, .iload_n 2, 1, 0, 0, 0, 0), (20, .ifCond .ge 5, 3, 0, 0, 0, 0), (23, .iconst (-1), 1, 0, 0, 0, 0), (24, .ireturn, 1, 0, 0, 0, 0), (25, .iload_n 2, 1, 0, 0, 0, 0), (26, .ifCond .ne 9, 3, 0, 0, 0, 0), (29, .aload_n 3, 1, 0, 0, 0, 0), (30, .iload_n 1, 1, 0, 0, 0, 0), (31, .invokevirtual 158, 3, 38, 2, 0, 4), (34, .ireturn, 1, 0, 0, 0, 0), (35, .iload_n 2, 1, 0, 0, 0, 0), (36, .iconst 1, 1, 0, 0, 0, 0), (37, .if_icmp .ne 11, 3, 0, 0, 0, 0), (40, .aload_n 3, 1, 0, 0, 0, 0), (41, .iload_n 1, 1, 0, 0, 0, 0), (42, .invokevirtual 161, 3, 39, 2, 0, 4), (45, .goto 11, 3, 0, 0, 0, 0), (48, .aload_n 3, 1, 0, 0, 0, 0), (49, .iload_n 1, 1, 0, 0, 0, 0), (50, .iload_n 2, 1, 0, 0, 0, 0), (51, .iconst 2, 1, 0, 0, 0, 0), (52, .isub, 1, 0, 0, 0, 0), (53, .invokevirtual 164, 3, 40, 3, 0, 4), (56, .ireturn, 1, 0, 0, 0, 0)]
/-- KindJudge.type(II)I -/
def kjM_11 : mv_Me := (⟨"KindJudge", "type", "(II)I"⟩, prog_1_method_12_code, 4, (some .int), "KindJudge", kjT_11, 0, 0, 2, 43)
def kjT_12 : List mv_E := [(0, .iload_n 1, 1, 0, 0, 0, 0), (1, .tableswitch 93 0 4 #[35, 49, 63, 77, 88], 35, 0, 0, 0, 0), (36, .aload_n 0, 1, 0, 0, 0, 0), (37, .getfield 10, 3, 0, 0, 4, 0), (40, .getfield 49, 3, 1, 1, 4, 0), (43, .getfield 53, 3, 3, 2, 4, 0), (46, .getfield 59, 3, 5, 3, 0, 0), (49, .ireturn, 1, 0, 0, 0, 0), (50, .aload_n 0, 1, 0, 0, 0, 0), (51, .getfield 10, 3, 0, 0, 4, 0), (54, .getfield 49, 3, 1, 1, 4, 0), (57, .getfield 136, 3, 3, 0, 4, 0), (60, .getfield 167, 3, 4, 4, 0, 0), (63, .ireturn, 1, 0, 0, 0, 0), (64, .aload_n 0, 1, 0, 0, 0, 0), (65, .getfield 10, 3, 0, 0, 4, 0), (68, .getfield 49, 3, 1, 1, 4, 0), (71, .getfield 168, 3, 3, 1, 4, 0), (74, .getfield 59, 3, 5, 3, 0, 0), (77, .ireturn, 1, 0, 0, 0, 0), (78, .aload_n 0, 1, 0, 0, 0, 0), (79, .getfield 16, 3, 0, 1, 4, 0), (82, .getfield 19, 3, 1, 0, 4, 0), (85, .getfield 171, 3, 2, 1, 0, 0), (88, .ireturn, 1, 0, 0, 0, 0), (89, .aload_n 0, 1, 0, 0, 0, 0), (90, .getfield 46, 3, 0, 2, 0, 0), (93, .ireturn, 1, 0, 0, 0, 0), (94, .iconst (-1), 1, 0, 0, 0, 0), (95, .ireturn, 1, 0, 0, 0, 0)]
/-- KindJudge.total(I)I -/
def kjM_12 : mv_Me := (⟨"KindJudge", "total", "(I)I"⟩, prog_1_method_13_code, 2, (some .int), "KindJudge", kjT_12, 0, 0, 0, 0)
def kjT_13 : List mv_E := [(0, .aload_n 0, 1, 0, 0, 0, 0), (1, .iconst 0, 1, 0, 0, 0, 0), (2, .iconst 0, 1, 0, 0, 0, 0), (3, .iconst 0, 1, 0, 0, 0, 0), (4, .invokevirtual 174, 3, 14, 4, 0, 0), (7, .aload_n 0, 1, 0, 0, 0, 0), (8, .getfield 16, 3, 0, 1, 4, 0), (11, .getfield 49, 3, 1, 1, 4, 0), (14, .invokevirtual 178, 3, 24, 1, 0, 3), (17, .ifCond .ne 20, 3, 0, 0, 0, 0), (20, .aload_n 0, 1, 0, 0, 0, 0), (21, .iconst 1, 1, 0, 0, 0, 0), (22, .aload_n 0, 1, 0, 0, 0, 0), (23, .getfield 16, 3, 0, 1, 4, 0), (26, .getfield 49, 3, 1, 1, 4, 0), (29, .invokevirtual 182, 3, 25, 1, 0, 3), (32, .iconst 0, 1, 0, 0, 0, 0), (33, .invokevirtual 174, 3, 14, 4, 0, 0), (36, .return_, 1, 0, 0, 0, 0), (37, .aload_n 0, 1, 0, 0, 0, 0), (38, .getfield 16, 3, 0, 1, 4, 0), (41, .getfield 49, 3, 1, 1, 4, 0), (44, .getfield 53, 3, 3, 2, 4, 0), (47, .getfield 59, 3, 5, 3, 0, 0), (50, .istore_n 1, 1, 0, 0, 0, 0), (51, .iconst 0, 1, 0, 0, 0, 0), (52, .istore_n 2, 1, 0, 0, 0, 0), (53, .iload_n 2, 1, 0, 0, 0, 0), (54, .iload_n 1, 1, 0, 0, 0, 0), (55, .if_icmp .ge 34, 3, 0, 0, 0, 0), (58, .aload_n 0, 1, 0, 0, 0, 0), (59, .getfield 16, 3, 0, 1, 4, 0), (62, .getfield 70, 3, 1, 2, 4, 0), (65, .iload_n 2, 1, 0, 0, 0, 0), (66, .invokevirtual 185, 3, 64, 2, 0, 7), (69, .istore_n 3, 1, 0, 0, 0, 0), (70, .iload_n 3, 1, 0, 0, 0, 0), (71, .iconst (-1), 1, 0, 0, 0, 0), (72, .if_icmp .eq 11, 3, 0, 0, 0, 0), (75, .aload_n 0, 1, 0, 0, 0, 0), (76, .iconst 2, 1, 0, 0, 0, 0), (77, .iload_n 3, 1, 0, 0, 0, 0), (78, .iload_n 2, 1, 0, 0, 0, 0), (79, .invokevirtual 174, 3, 14, 4, 0, 0), (82, .return_, 1, 0, 0, 0, 0), (83, .iinc 2 1, 3, 0, 0, 0, 0), (86, .goto (-33), 3, 0, 0, 0, 0), (89, .iconst 0, 1, 0, 0, 0, 0), (90, .istore_n 2, 1, 0, 0, 0, 0), (91, .iload_n 2, 1, 0, 0, 0, 0), (92, .iload_n 1, 1, 0, 0, 0, 0), (93, .if_icmp .ge 45, 3, 0, 0, 0, 0), (96, .aload_n 0, 1, 0, 0, 0, 0), (97, .getfield 16, 3, 0, 1, 4, 0), (100, .getfield 80, 3, 1, 3, 4, 0), (103, .iload_n 2, 1, 0, 0, 0, 0), (104, .invokevirtual 188, 3, 82, 2, 0, 8), (107, .aload_n 0, 1, 0, 0, 0, 0), (108, .getfield 16, 3, 0, 1, 4, 0), (111, .getfield 80, 3, 1, 3, 4, 0), (114, .iload_n 2, 1, 0, 0, 0, 0), (115, .invokevirtual 192, 3, 83, 2, 0, 8), (118, .istore_n 3, 1, 0, 0, 0, 0), (119, .iload_n 3, 1, 0, 0, 0, 0), (120, .iconst (-1), 1, 0, 0, 0, 0), (121, .if_icmp .eq 11, 3, 0, 0, 0, 0), (124, .aload_n 0, 1, 0, 0, 0, 0), (125, .iconst 3, 1, 0, 0, 0, 0), (126, .iload_n 3, 1, 0, 0, 0, 0), (127, .iload_n 2, 1, 0, 0, 0, 0), (128, .invokevirtual 174, 3, 14, 4, 0, 0), (131, .return_, 1, 0, 0, 0, 0), (132, .iinc 2 1, 3, 0, 0, 0, 0), (135, .goto (-44), 3, 0, 0, 0, 0), (138, .return_, 1, 0, 0, 0, 0)]
/-- KindJudge.findFault()V -/
def kjM_13 : mv_Me := (⟨"KindJudge", "findFault", "()V"⟩, prog_1_method_14_code, 4, none, "KindJudge", kjT_13, 0, 0, 6, 153)
def kjT_14 : List mv_E := [(0, .aload_n 0, 1, 0, 0, 0, 0), (1, .iload_n 1, 1, 0, 0, 0, 0), (2, .putfield 32, 3, 0, 3, 0, 0), (5, .aload_n 0, 1, 0, 0, 0, 0), (6, .iload_n 2, 1, 0, 0, 0, 0), (7, .putfield 64, 3, 0, 4, 0, 0), (10, .aload_n 0, 1, 0, 0, 0, 0), (11, .iload_n 3, 1, 0, 0, 0, 0), (12, .putfield 67, 3, 0, 5, 0, 0), (15, .return_, 1, 0, 0, 0, 0)]
/-- KindJudge.keepFault(III)V -/
def kjM_14 : mv_Me := (⟨"KindJudge", "keepFault", "(III)V"⟩, prog_1_method_15_code, 4, none, "KindJudge", kjT_14, 0, 0, 0, 0)
def kjT_15 : List mv_E := [(0, .aload_n 0, 1, 0, 0, 0, 0), (1, .getfield 10, 3, 0, 0, 4, 0), (4, .getfield 80, 3, 1, 3, 4, 0), (7, .iload_n 1, 1, 0, 0, 0, 0), (8, .iload_n 2, 1, 0, 0, 0, 0), (9, .invokevirtual 84, 3, 78, 3, 0, 8), (12, .iconst (-1), 1, 0, 0, 0, 0), (13, .if_icmp .eq 7, 3, 0, 0, 0, 0), (16, .iconst 1, 1, 0, 0, 0, 0), (17, .goto 4, 3, 0, 0, 0, 0), (20, .iconst 0, 1, 0, 0, 0, 0), (21, .ireturn, 1, 0, 0, 0, 0)]
/-- KindJudge.mayBeComeTo(II)Z -/
def kjM_15 : mv_Me := (⟨"KindJudge", "mayBeComeTo", "(II)Z"⟩, prog_1_method_16_code, 3, (some .boolean), "KindJudge", kjT_15, 0, 0, 3, 66)
def kjT_16 : List mv_E := [(0, .iconst 0, 1, 0, 0, 0, 0), (1, .istore_n 3, 1, 0, 0, 0, 0), (2, .aload_n 0, 1, 0, 0, 0, 0), (3, .getfield 10, 3, 0, 0, 4, 0), (6, .getfield 49, 3, 1, 1, 4, 0), (9, .iload_n 1, 1, 0, 0, 0, 0), (10, .invokevirtual 115, 3, 32, 2, 0, 3), (13, .istore 4, 2, 0, 0, 0, 0), (15, .iconst 0, 1, 0, 0, 0, 0), (16, .istore 5, 2, 0, 0, 0, 0), (18, .iload 5, 2, 0, 0, 0, 0), (20, .iload 4, 2, 0, 0, 0, 0), (22, .if_icmp .ge 39, 3, 0, 0, 0, 0), (25, .aload_n 0, 1, 0, 0, 0, 0), (26, .getfield 10, 3, 0, 0, 4, 0), (29, .getfield 70, 3, 1, 2, 4, 0), (32, .iload_n 1, 1, 0, 0, 0, 0), (33, .iload 5, 2, 0, 0, 0, 0), (35, .invokevirtual 74, 3, 66, 3, 0, 7), (38, .ifCond .eq 17, 3, 0, 0, 0, 0), (41, .aload_n 0, 1, 0, 0, 0, 0), (42, .iload_n 1, 1, 0, 0, 0, 0), (43, .iload 5, 2, 0, 0, 0, 0), (45, .invokevirtual 118, 3, 15, 3, 0, 0), (48, .iload_n 2, 1, 0, 0, 0, 0), (49, .if_icmp .ne 6, 3, 0, 0, 0, 0), (52, .iinc 3 1, 3, 0, 0, 0, 0), (55, .iinc 5 1, 3, 0, 0, 0, 0), (58, .goto (-40), 3, 0, 0, 0, 0), (61, .iload_n 3, 1, 0, 0, 0, 0), (62, .ireturn, 1, 0, 0, 0, 0)]
/-- KindJudge.instructions(IZ)I -/
def kjM_16 : mv_Me := (⟨"KindJudge", "instructions", "(IZ)I"⟩, prog_1_method_17_code, 6, (some .int), "KindJudge", kjT_16, 0, 0, 4, 88)
def kjT_17 : List mv_E := [(0, .iconst 0, 1, 0, 0, 0, 0), (1, .istore_n 2, 1, 0, 0, 0, 0), (2, .aload_n 0, 1, 0, 0, 0, 0), (3, .getfield 10, 3, 0, 0, 4, 0), (6, .getfield 49, 3, 1, 1, 4, 0), (9, .iload_n 1, 1, 0, 0, 0, 0), (10, .invokevirtual 115, 3, 32, 2, 0, 3), (13, .istore_n 3, 1, 0, 0, 0, 0), (14, .iconst 0, 1, 0, 0, 0, 0), (15, .istore 4, 2, 0, 0, 0, 0), (17, .iload 4, 2, 0, 0, 0, 0), (19, .iload_n 3, 1, 0, 0, 0, 0), (20, .if_icmp .ge 37, 3, 0, 0, 0, 0), (23, .aload_n 0, 1, 0, 0, 0, 0), (24, .iload_n 1, 1, 0, 0, 0, 0), (25, .iload 4, 2, 0, 0, 0, 0), (27, .invokevirtual 118, 3, 15, 3, 0, 0), (30, .ifCond .eq 21, 3, 0, 0, 0, 0), (33, .iload_n 2, 1, 0, 0, 0, 0), (34, .aload_n 0, 1, 0, 0, 0, 0), (35, .getfield 10, 3, 0, 0, 4, 0), (38, .getfield 80, 3, 1, 3, 4, 0), (41, .iload_n 1, 1, 0, 0, 0, 0), (42, .iload 4, 2, 0, 0, 0, 0), (44, .invokevirtual 195, 3, 79, 3, 0, 8), (47, .invokestatic 198, 3, 0, 0, 4, 0), (50, .istore_n 2, 1, 0, 0, 0, 0), (51, .iinc 4 1, 3, 0, 0, 0, 0), (54, .goto (-37), 3, 0, 0, 0, 0), (57, .iload_n 2, 1, 0, 0, 0, 0), (58, .ireturn, 1, 0, 0, 0, 0)]
/-- KindJudge.highestBehind(I)I -/
def kjM_17 : mv_Me := (⟨"KindJudge", "highestBehind", "(I)I"⟩, prog_1_method_18_code, 5, (some .int), "KindJudge", kjT_17, 0, 0, 5, 110)
def kjT_18 : List mv_E := [(0, .aload_n 0, 1, 0, 0, 0, 0), (1, .invokespecial 1, 3, 0, 0, 3, 0), (4, .new 7, 3, 2, 2, 0, 0), (7, .dup, 1, 0, 0, 0, 0), (8, .invokespecial 9, 3, 19, 1, 2, 0), (11, .astore_n 1, 1, 0, 0, 0, 0), (12, .new 10, 3, 3, 9, 0, 0), (15, .dup, 1, 0, 0, 0, 0), (16, .aload_n 1, 1, 0, 0, 0, 0), (17, .invokespecial 12, 3, 23, 2, 2, 0), (20, .astore_n 2, 1, 0, 0, 0, 0), (21, .new 15, 3, 7, 3, 0, 0), (24, .dup, 1, 0, 0, 0, 0), (25, .aload_n 1, 1, 0, 0, 0, 0), (26, .aload_n 2, 1, 0, 0, 0, 0), (27, .invokespecial 17, 3, 63, 3, 2, 0), (30, .astore_n 3, 1, 0, 0, 0, 0), (31, .aload_n 0, 1, 0, 0, 0, 0), (32, .aload_n 1, 1, 0, 0, 0, 0), (33, .putfield 20, 3, 1, 0, 4, 0), (36, .aload_n 0, 1, 0, 0, 0, 0), (37, .aload_n 2, 1, 0, 0, 0, 0), (38, .putfield 26, 3, 1, 1, 4, 0), (41, .aload_n 0, 1, 0, 0, 0, 0), (42, .aload_n 3, 1, 0, 0, 0, 0), (43, .putfield 30, 3, 1, 2, 4, 0), (46, .aload_n 0, 1, 0, 0, 0, 0), (47, .new 34, 3, 8, 12, 0, 0), (50, .dup, 1, 0, 0, 0, 0), (51, .aload_n 2, 1, 0, 0, 0, 0), (52, .aload_n 3, 1, 0, 0, 0, 0), (53, .invokespecial 36, 3, 77, 3, 2, 0), (56, .putfield 39, 3, 1, 3, 4, 0), (59, .return_, 1, 0, 0, 0, 0)]
/-- KindJudge$Book.<init>()V -/
def kjM_18 : mv_Me := (⟨"KindJudge$Book", "<init>", "()V"⟩, prog_2_method_1_code, 4, none, "KindJudge$Book", kjT_18, 28, 6570, 3, 62)
def kjT_19 : List mv_E := [(0, .aload_n 0, 1, 0, 0, 0, 0), (1, .invokespecial 3, 3, 0, 0, 3, 0), (4, .aload_n 0, 1, 0, 0, 0, 0), (5, .sipush 1500, 3, 0, 0, 0, 0), (8, .newarray .byte, 2, 0, 0, 2, 0), (10, .putfield 11, 3, 2, 0, 4, 0), (13, .return_, 1, 0, 0, 0, 0)]
/-- KindJudge$Bytes.<init>()V -/
def kjM_19 : mv_Me := (⟨"KindJudge$Bytes", "<init>", "()V"⟩, prog_3_method_1_code, 1, none, "KindJudge$Bytes", kjT_19, 1, 1500, 1, 20)
def kjT_20 : List mv_E := [(0, .iload_n 3, 1, 0, 0, 0, 0), (1, .iconst 1, 1, 0, 0, 0, 0), (2, .if_icmp .lt 21, 3, 0, 0, 0, 0), (5, .iload_n 3, 1, 0, 0, 0, 0), (6, .bipush 8, 2, 0, 0, 0, 0), (8, .if_icmp .gt 15, 3, 0, 0, 0, 0), (11, .iload_n 3, 1, 0, 0, 0, 0), (12, .sipush 1500, 3, 0, 0, 0, 0), (15, .aload_n 0, 1, 0, 0, 0, 0), (16, .getfield 15, 3, 2, 1, 0, 0), (19, .isub, 1, 0, 0, 0, 0), (20, .if_icmp .le 5, 3, 0, 0, 0, 0), (23, .iconst 0, 1, 0, 0, 0, 0), (24, .ireturn, 1, 0, 0, 0, 0), (25, .bipush 8, 2, 0, 0, 0, 0), (27, .iload_n 3, 1, 0, 0, 0, 0), (28, .iconst 1, 1, 0, 0, 0, 0), (29, .isub, 1, 0, 0, 0, 0), (30, .imul, 1, 0, 0, 0, 0), (31, .istore 4, 2, 0, 0, 0, 0), (33, .iload 4, 2, 0, 0, 0, 0), (35, .ifCond .lt 34, 3, 0, 0, 0, 0), (38, .aload_n 0, 1, 0, 0, 0, 0), (39, .getfield 11, 3, 2, 0, 4, 0), (42, .aload_n 0, 1, 0, 0, 0, 0), (43, .getfield 15, 3, 2, 1, 0, 0), (46, .lload_n 1, 1, 0, 0, 0, 0), (47, .iload 4, 2, 0, 0, 0, 0), (49, .lshr, 1, 0, 0, 0, 0), (50, .l2i, 1, 0, 0, 0, 0), (51, .i2b, 1, 0, 0, 0, 0), (52, .bastore, 1, 0, 0, 0, 0), (53, .aload_n 0, 1, 0, 0, 0, 0), (54, .dup, 1, 0, 0, 0, 0), (55, .getfield 15, 3, 2, 1, 0, 0), (58, .iconst 1, 1, 0, 0, 0, 0), (59, .iadd, 1, 0, 0, 0, 0), (60, .putfield 15, 3, 2, 1, 0, 0), (63, .iinc 4 (-8), 3, 0, 0, 0, 0), (66, .goto (-33), 3, 0, 0, 0, 0), (69, .iconst 1, 1, 0, 0, 0, 0), (70, .ireturn, 1, 0, 0, 0, 0)]
/-- KindJudge$Bytes.append(JI)Z -/
def kjM_20 : mv_Me := (⟨"KindJudge$Bytes", "append", "(JI)Z"⟩, prog_3_method_2_code, 5, (some .boolean), "KindJudge$Bytes", kjT_20, 0, 0, 0, 0)
def kjT_21 : List mv_E := [(0, .aload_n 0, 1, 0, 0, 0, 0), (1, .iconst 0, 1, 0, 0, 0, 0), (2, .putfield 15, 3, 2, 1, 0, 0), (5, .return_, 1, 0, 0, 0, 0)]
/-- KindJudge$Bytes.clear()V -/
def kjM_21 : mv_Me := (⟨"KindJudge$Bytes", "clear", "()V"⟩, prog_3_method_3_code, 1, none, "KindJudge$Bytes", kjT_21, 0, 0, 0, 0)
def kjT_22 : List mv_E := [(0, .iload_n 1, 1, 0, 0, 0, 0), (1, .ifCond .lt 24, 3, 0, 0, 0, 0), (4, .iload_n 1, 1, 0, 0, 0, 0), (5, .aload_n 0, 1, 0, 0, 0, 0), (6, .getfield 15, 3, 2, 1, 0, 0), (9, .if_icmp .ge 16, 3, 0, 0, 0, 0), (12, .aload_n 0, 1, 0, 0, 0, 0), (13, .getfield 11, 3, 2, 0, 4, 0), (16, .iload_n 1, 1, 0, 0, 0, 0), (17, .baload, 1, 0, 0, 0, 0), (18, .sipush 255, 3, 0, 0, 0, 0), (21, .iand, 1, 0, 0, 0, 0), (22, .goto 4, 3, 0, 0, 0, 0), (25, .iconst (-1), 1, 0, 0, 0, 0), (26, .ireturn, 1, 0, 0, 0, 0)]
/-- KindJudge$Bytes.at(I)I -/
def kjM_22 : mv_Me := (⟨"KindJudge$Bytes", "at", "(I)I"⟩, prog_3_method_4_code, 2, (some .int), "KindJudge$Bytes", kjT_22, 0, 0, 0, 0)
def kjT_23 : List mv_E := [(0, .aload_n 0, 1, 0, 0, 0, 0), (1, .invokespecial 3, 3, 0, 0, 3, 0), (4, .aload_n 0, 1, 0, 0, 0, 0), (5, .new 9, 3, 4, 5, 0, 0), (8, .dup, 1, 0, 0, 0, 0), (9, .invokespecial 11, 3, 34, 1, 2, 0), (12, .putfield 12, 3, 3, 0, 4, 0), (15, .aload_n 0, 1, 0, 0, 0, 0), (16, .new 18, 3, 5, 4, 0, 0), (19, .dup, 1, 0, 0, 0, 0), (20, .invokespecial 20, 3, 46, 1, 2, 0), (23, .putfield 21, 3, 3, 1, 4, 0), (26, .aload_n 0, 1, 0, 0, 0, 0), (27, .new 18, 3, 5, 4, 0, 0), (30, .dup, 1, 0, 0, 0, 0), (31, .invokespecial 20, 3, 46, 1, 2, 0), (34, .putfield 25, 3, 3, 2, 4, 0), (37, .aload_n 0, 1, 0, 0, 0, 0), (38, .bipush 16, 2, 0, 0, 0, 0), (40, .newarray .int, 2, 0, 0, 0, 0), (42, .putfield 28, 3, 3, 4, 4, 0), (45, .aload_n 0, 1, 0, 0, 0, 0), (46, .bipush 16, 2, 0, 0, 0, 0), (48, .newarray .int, 2, 0, 0, 0, 0), (50, .putfield 32, 3, 3, 5, 4, 0), (53, .aload_n 0, 1, 0, 0, 0, 0), (54, .bipush 16, 2, 0, 0, 0, 0), (56, .newarray .int, 2, 0, 0, 0, 0), (58, .putfield 35, 3, 3, 6, 4, 0), (61, .aload_n 0, 1, 0, 0, 0, 0), (62, .bipush 16, 2, 0, 0, 0, 0), (64, .newarray .int, 2, 0, 0, 0, 0), (66, .putfield 38, 3, 3, 7, 4, 0), (69, .aload_n 0, 1, 0, 0, 0, 0), (70, .bipush 64, 2, 0, 0, 0, 0), (72, .newarray .int, 2, 0, 0, 0, 0), (74, .putfield 41, 3, 3, 8, 4, 0), (77, .aload_n 0, 1, 0, 0, 0, 0), (78, .new 44, 3, 6, 3, 0, 0), (81, .dup, 1, 0, 0, 0, 0), (82, .aload_n 1, 1, 0, 0, 0, 0), (83, .invokespecial 46, 3, 53, 2, 2, 0), (86, .putfield 49, 3, 3, 3, 4, 0), (89, .return_, 1, 0, 0, 0, 0)]
/-- KindJudge$Layout.<init>(LKindJudge$Bytes;)V -/
def kjM_23 : mv_Me := (⟨"KindJudge$Layout", "<init>", "(LKindJudge$Bytes;)V"⟩, prog_7_method_1_code, 2, none, "KindJudge$Layout", kjT_23, 19, 424, 2, 41)
def kjT_24 : List mv_E := [(0, .aload_n 0, 1, 0, 0, 0, 0), (1, .getfield 49, 3, 3, 3, 4, 0), (4, .invokevirtual 53, 3, 54, 1, 0, 6), (7, .aload_n 0, 1, 0, 0, 0, 0), (8, .getfield 12, 3, 3, 0, 4, 0), (11, .aload_n 0, 1, 0, 0, 0, 0), (12, .getfield 49, 3, 3, 3, 4, 0), (15, .invokevirtual 56, 3, 35, 2, 0, 4), (18, .aload_n 0, 1, 0, 0, 0, 0), (19, .getfield 21, 3, 3, 1, 4, 0), (22, .aload_n 0, 1, 0, 0, 0, 0), (23, .getfield 49, 3, 3, 3, 4, 0), (26, .iconst 0, 1, 0, 0, 0, 0), (27, .bipush 8, 2, 0, 0, 0, 0), (29, .invokevirtual 60, 3, 47, 4, 0, 5), (32, .iconst 0, 1, 0, 0, 0, 0), (33, .istore_n 1, 1, 0, 0, 0, 0), (34, .iload_n 1, 1, 0, 0, 0, 0), (35, .aload_n 0, 1, 0, 0, 0, 0), (36, .getfield 21, 3, 3, 1, 4, 0), (39, .getfield 64, 3, 5, 3, 0, 0), (42, .if_icmp .ge 39, 3, 0, 0, 0, 0), (45, .aload_n 0, 1, 0, 0, 0, 0), (46, .getfield 49, 3, 3, 3, 4, 0), (49, .invokevirtual 68, 3, 55, 1, 0, 6), (52, .ifCond .eq 29, 3, 0, 0, 0, 0), (55, .aload_n 0, 1, 0, 0, 0, 0), (56, .getfield 21, 3, 3, 1, 4, 0), (59, .aload_n 0, 1, 0, 0, 0, 0), (60, .getfield 49, 3, 3, 3, 4, 0), (63, .iload_n 1, 1, 0, 0, 0, 0), (64, .iconst 3, 1, 0, 0, 0, 0), (65, .aload_n 0, 1, 0, 0, 0, 0), (66, .getfield 12, 3, 3, 0, 4, 0), (69, .getfield 72, 3, 4, 4, 0, 0), (72, .invokevirtual 73, 3, 48, 5, 0, 5), (75, .iinc 1 1, 3, 0, 0, 0, 0), (78, .goto (-44), 3, 0, 0, 0, 0), (81, .aload_n 0, 1, 0, 0, 0, 0), (82, .getfield 25, 3, 3, 2, 4, 0), (85, .aload_n 0, 1, 0, 0, 0, 0), (86, .getfield 49, 3, 3, 3, 4, 0), (89, .iconst 1, 1, 0, 0, 0, 0), (90, .bipush 16, 2, 0, 0, 0, 0), (92, .invokevirtual 60, 3, 47, 4, 0, 5), (95, .iconst 0, 1, 0, 0, 0, 0), (96, .istore_n 1, 1, 0, 0, 0, 0), (97, .iload_n 1, 1, 0, 0, 0, 0), (98, .aload_n 0, 1, 0, 0, 0, 0), (99, .getfield 25, 3, 3, 2, 4, 0), (102, .getfield 64, 3, 5, 3, 0, 0), (105, .if_icmp .ge 24, 3, 0, 0, 0, 0), (108, .aload_n 0, 1, 0, 0, 0, 0), (109, .getfield 49, 3, 3, 3, 4, 0), (112, .invokevirtual 68, 3, 55, 1, 0, 6), (115, .ifCond .eq 14, 3, 0, 0, 0, 0), (118, .aload_n 0, 1, 0, 0, 0, 0), (119, .iload_n 1, 1, 0, 0, 0, 0), (120, .invokevirtual 77, 3, 26, 2, 0, 3), (123, .iinc 1 1, 3, 0, 0, 0, 0), (126, .goto (-29), 3, 0, 0, 0, 0), (129, .iconst 0, 1, 0, 0, 0, 0), (130, .istore_n 1, 1, 0, 0, 0, 0), (131, .iload_n 1, 1, 0, 0, 0, 0), (132, .aload_n 0, 1, 0, 0, 0, 0), (133, .getfield 12, 3, 3, 0, 4, 0), (136, .getfield 72, 3, 4, 4, 0, 0), (139, .if_icmp .ge 24, 3, 0, 0, 0, 0), (142, .aload_n 0, 1, 0, 0, 0, 0), (143, .getfield 49, 3, 3, 3, 4, 0), (146, .invokevirtual 68, 3, 55, 1, 0, 6), (149, .ifCond .eq 14, 3, 0, 0, 0, 0), (152, .aload_n 0, 1, 0, 0, 0, 0), (153, .iload_n 1, 1, 0, 0, 0, 0), (154, .invokevirtual 81, 3, 27, 2, 0, 3), (157, .iinc 1 1, 3, 0, 0, 0, 0), (160, .goto (-29), 3, 0, 0, 0, 0), (163, .aload_n 0, 1, 0, 0, 0, 0), (164, .getfield 49, 3, 3, 3, 4, 0), (167, .invokevirtual 84, 3, 56, 1, 0, 6), (170, .ireturn, 1, 0, 0, 0, 0)]
/-- KindJudge$Layout.read()Z -/
def kjM_24 : mv_Me := (⟨"KindJudge$Layout", "read", "()Z"⟩, prog_7_method_2_code, 2, (some .boolean), "KindJudge$Layout", kjT_24, 0, 0, 5, 113)
def kjT_25 : List mv_E := [(0, .aload_n 0, 1, 0, 0, 0, 0), (1, .getfield 49, 3, 3, 3, 4, 0), (4, .invokevirtual 87, 3, 57, 1, 0, 6), (7, .ireturn, 1, 0, 0, 0, 0)]
/-- KindJudge$Layout.faultPlace()I -/
def kjM_25 : mv_Me := (⟨"KindJudge$Layout", "faultPlace", "()I"⟩, prog_7_method_3_code, 1, (some .int), "KindJudge$Layout", kjT_25, 0, 0, 1, 20)
def kjT_26 : List mv_E := [(0, .aload_n 0, 1, 0, 0, 0, 0), (1, .getfield 25, 3, 3, 2, 4, 0), (4, .aload_n 0, 1, 0, 0, 0, 0), (5, .getfield 49, 3, 3, 3, 4, 0), (8, .iload_n 1, 1, 0, 0, 0, 0), (9, .iconst 4, 1, 0, 0, 0, 0), (10, .aload_n 0, 1, 0, 0, 0, 0), (11, .getfield 12, 3, 3, 0, 4, 0), (14, .getfield 72, 3, 4, 4, 0, 0), (17, .invokevirtual 73, 3, 48, 5, 0, 5), (20, .aload_n 0, 1, 0, 0, 0, 0), (21, .getfield 25, 3, 3, 2, 4, 0), (24, .iload_n 1, 1, 0, 0, 0, 0), (25, .invokevirtual 91, 3, 49, 2, 0, 5), (28, .ifCond .ne 4, 3, 0, 0, 0, 0), (31, .return_, 1, 0, 0, 0, 0), (32, .aload_n 0, 1, 0, 0, 0, 0), (33, .getfield 28, 3, 3, 4, 4, 0), (36, .iload_n 1, 1, 0, 0, 0, 0), (37, .aload_n 0, 1, 0, 0, 0, 0), (38, .getfield 49, 3, 3, 3, 4, 0), (41, .aload_n 0, 1, 0, 0, 0, 0), (42, .getfield 25, 3, 3, 2, 4, 0), (45, .iload_n 1, 1, 0, 0, 0, 0), (46, .invokevirtual 95, 3, 50, 2, 0, 5), (49, .bipush 8, 2, 0, 0, 0, 0), (51, .invokevirtual 99, 3, 60, 3, 0, 6), (54, .iastore, 1, 0, 0, 0, 0), (55, .aload_n 0, 1, 0, 0, 0, 0), (56, .getfield 32, 3, 3, 5, 4, 0), (59, .iload_n 1, 1, 0, 0, 0, 0), (60, .aload_n 0, 1, 0, 0, 0, 0), (61, .getfield 49, 3, 3, 3, 4, 0), (64, .iconst 0, 1, 0, 0, 0, 0), (65, .bipush 8, 2, 0, 0, 0, 0), (67, .invokevirtual 99, 3, 60, 3, 0, 6), (70, .iastore, 1, 0, 0, 0, 0), (71, .aload_n 0, 1, 0, 0, 0, 0), (72, .getfield 38, 3, 3, 7, 4, 0), (75, .iload_n 1, 1, 0, 0, 0, 0), (76, .aload_n 0, 1, 0, 0, 0, 0), (77, .getfield 49, 3, 3, 3, 4, 0), (80, .iconst 1, 1, 0, 0, 0, 0), (81, .bipush 120, 2, 0, 0, 0, 0), (83, .invokevirtual 99, 3, 60, 3, 0, 6), (86, .iastore, 1, 0, 0, 0, 0), (87, .aload_n 0, 1, 0, 0, 0, 0), (88, .getfield 35, 3, 3, 6, 4, 0), (91, .iload_n 1, 1, 0, 0, 0, 0), (92, .aload_n 0, 1, 0, 0, 0, 0), (93, .getfield 49, 3, 3, 3, 4, 0), (96, .invokevirtual 87, 3, 57, 1, 0, 6), (99, .iastore, 1, 0, 0, 0, 0), (100, .aload_n 0, 1, 0, 0, 0, 0), (101, .getfield 49, 3, 3, 3, 4, 0), (104, .aload_n 0, 1, 0, 0, 0, 0), (105, .getfield 38, 3, 3, 7, 4, 0), (108, .iload_n 1, 1, 0, 0, 0, 0), (109, .iaload, 1, 0, 0, 0, 0), (110, .invokevirtual 102, 3, 62, 2, 0, 6), (113, .return_, 1, 0, 0, 0, 0)]
/-- KindJudge$Layout.readMethod(I)V -/
def kjM_26 : mv_Me := (⟨"KindJudge$Layout", "readMethod", "(I)V"⟩, prog_7_method_4_code, 2, none, "KindJudge$Layout", kjT_26, 0, 0, 4, 90)
def kjT_27 : List mv_E := [(0, .aload_n 0, 1, 0, 0, 0, 0), (1, .getfield 12, 3, 3, 0, 4, 0), (4, .iload_n 1, 1, 0, 0, 0, 0), (5, .invokevirtual 105, 3, 38, 2, 0, 4), (8, .istore_n 2, 1, 0, 0, 0, 0), (9, .iconst 0, 1, 0, 0, 0, 0), (10, .istore_n 3, 1, 0, 0, 0, 0), (11, .iload_n 3, 1, 0, 0, 0, 0), (12, .aload_n 0, 1, 0, 0, 0, 0), (13, .getfield 21, 3, 3, 1, 4, 0), (16, .getfield 64, 3, 5, 3, 0, 0), (19, .if_icmp .ge 123, 3, 0, 0, 0, 0), (22, .aload_n 0, 1, 0, 0, 0, 0), (23, .getfield 49, 3, 3, 3, 4, 0), (26, .invokevirtual 68, 3, 55, 1, 0, 6), (29, .ifCond .eq 113, 3, 0, 0, 0, 0), (32, .aload_n 0, 1, 0, 0, 0, 0), (33, .getfield 49, 3, 3, 3, 4, 0), (36, .invokevirtual 108, 3, 58, 1, 0, 6), (39, .istore 4, 2, 0, 0, 0, 0), (41, .aload_n 0, 1, 0, 0, 0, 0), (42, .getfield 49, 3, 3, 3, 4, 0), (45, .iload 4, 2, 0, 0, 0, 0), (47, .ifCond .eq 21, 3, 0, 0, 0, 0), (50, .iload 4, 2, 0, 0, 0, 0), (52, .ifCond .le 20, 3, 0, 0, 0, 0), (55, .aload_n 0, 1, 0, 0, 0, 0), (56, .iload 4, 2, 0, 0, 0, 0), (58, .iconst 1, 1, 0, 0, 0, 0), (59, .isub, 1, 0, 0, 0, 0), (60, .iload_n 1, 1, 0, 0, 0, 0), (61, .iload_n 3, 1, 0, 0, 0, 0), (62, .invokevirtual 111, 3, 28, 4, 0, 3), (65, .ifCond .eq 7, 3, 0, 0, 0, 0), (68, .iconst 1, 1, 0, 0, 0, 0), (69, .goto 4, 3, 0, 0, 0, 0), (72, .iconst 0, 1, 0, 0, 0, 0), (73, .invokevirtual 115, 3, 59, 2, 0, 6), (76, .istore 5, 2, 0, 0, 0, 0), (78, .iload 5, 2, 0, 0, 0, 0), (80, .ifCond .eq 26, 3, 0, 0, 0, 0), (83, .iload 4, 2, 0, 0, 0, 0), (85, .ifCond .le 21, 3, 0, 0, 0, 0), (88, .aload_n 0, 1, 0, 0, 0, 0), (89, .getfield 41, 3, 3, 8, 4, 0), (92, .iload_n 1, 1, 0, 0, 0, 0), (93, .bipush 8, 2, 0, 0, 0, 0), (95, .imul, 1, 0, 0, 0, 0), (96, .iload_n 3, 1, 0, 0, 0, 0), (97, .iadd, 1, 0, 0, 0, 0), (98, .iload 4, 2, 0, 0, 0, 0), (100, .iconst 1, 1, 0, 0, 0, 0), (101, .isub, 1, 0, 0, 0, 0), (102, .iastore, 1, 0, 0, 0, 0), (103, .goto 33, 3, 0, 0, 0, 0), (106, .aload_n 0, 1, 0, 0, 0, 0), (107, .getfield 41, 3, 3, 8, 4, 0), (110, .iload_n 1, 1, 0, 0, 0, 0), (111, .bipush 8, 2, 0, 0, 0, 0), (113, .imul, 1, 0, 0, 0, 0), (114, .iload_n 3, 1, 0, 0, 0, 0), (115, .iadd, 1, 0, 0, 0, 0), (116, .iload_n 2, 1, 0, 0, 0, 0), (117, .ifCond .ge 7, 3, 0, 0, 0, 0), (120, .iconst (-1), 1, 0, 0, 0, 0), (121, .goto 14, 3, 0, 0, 0, 0), (124, .aload_n 0, 1, 0, 0, 0, 0), (125, .getfield 41, 3, 3, 8, 4, 0), (128, .iload_n 2, 1, 0, 0, 0, 0), (129, .bipush 8, 2, 0, 0, 0, 0), (131, .imul, 1, 0, 0, 0, 0), (132, .iload_n 3, 1, 0, 0, 0, 0), (133, .iadd, 1, 0, 0, 0, 0), (134, .iaload, 1, 0, 0, 0, 0), (135, .iastore, 1, 0, 0, 0, 0), (136, .iinc 3 1, 3, 0, 0, 0, 0), (139, .goto (-128), 3, 0, 0, 0, 0), (142, .return_, 1, 0, 0, 0, 0)]
/-- KindJudge$Layout.readTableOf(I)V -/
def kjM_27 : mv_Me := (⟨"KindJudge$Layout", "readTableOf", "(I)V"⟩, prog_7_method_5_code, 6, none, "KindJudge$Layout", kjT_27, 0, 0, 3, 68)
def kjT_28 : List mv_E := [(0, .aload_n 0, 1, 0, 0, 0, 0), (1, .getfield 21, 3, 3, 1, 4, 0), (4, .iload_n 3, 1, 0, 0, 0, 0), (5, .invokevirtual 95, 3, 50, 2, 0, 5), (8, .istore 4, 2, 0, 0, 0, 0), (10, .aload_n 0, 1, 0, 0, 0, 0), (11, .getfield 25, 3, 3, 2, 4, 0), (14, .iload_n 1, 1, 0, 0, 0, 0), (15, .invokevirtual 91, 3, 49, 2, 0, 5), (18, .ifCond .eq 18, 3, 0, 0, 0, 0), (21, .aload_n 0, 1, 0, 0, 0, 0), (22, .getfield 25, 3, 3, 2, 4, 0), (25, .iload_n 1, 1, 0, 0, 0, 0), (26, .invokevirtual 95, 3, 50, 2, 0, 5), (29, .iload 4, 2, 0, 0, 0, 0), (31, .iconst 1, 1, 0, 0, 0, 0), (32, .iadd, 1, 0, 0, 0, 0), (33, .if_icmp .eq 5, 3, 0, 0, 0, 0), (36, .iconst 0, 1, 0, 0, 0, 0), (37, .ireturn, 1, 0, 0, 0, 0), (38, .aload_n 0, 1, 0, 0, 0, 0), (39, .getfield 25, 3, 3, 2, 4, 0), (42, .iload_n 1, 1, 0, 0, 0, 0), (43, .invokevirtual 119, 3, 52, 2, 0, 5), (46, .aload_n 0, 1, 0, 0, 0, 0), (47, .getfield 21, 3, 3, 1, 4, 0), (50, .iload_n 3, 1, 0, 0, 0, 0), (51, .invokevirtual 119, 3, 52, 2, 0, 5), (54, .if_icmp .eq 5, 3, 0, 0, 0, 0), (57, .iconst 0, 1, 0, 0, 0, 0), (58, .ireturn, 1, 0, 0, 0, 0), (59, .iconst 0, 1, 0, 0, 0, 0), (60, .istore 5, 2, 0, 0, 0, 0), (62, .iload 5, 2, 0, 0, 0, 0), (64, .iload 4, 2, 0, 0, 0, 0), (66, .if_icmp .ge 36, 3, 0, 0, 0, 0), (69, .aload_n 0, 1, 0, 0, 0, 0), (70, .getfield 25, 3, 3, 2, 4, 0), (73, .iload_n 1, 1, 0, 0, 0, 0), (74, .iload 5, 2, 0, 0, 0, 0), (76, .iconst 1, 1, 0, 0, 0, 0), (77, .iadd, 1, 0, 0, 0, 0), (78, .invokevirtual 122, 3, 51, 3, 0, 5), (81, .aload_n 0, 1, 0, 0, 0, 0), (82, .getfield 21, 3, 3, 1, 4, 0), (85, .iload_n 3, 1, 0, 0, 0, 0), (86, .iload 5, 2, 0, 0, 0, 0), (88, .invokevirtual 122, 3, 51, 3, 0, 5), (91, .if_icmp .eq 5, 3, 0, 0, 0, 0), (94, .iconst 0, 1, 0, 0, 0, 0), (95, .ireturn, 1, 0, 0, 0, 0), (96, .iinc 5 1, 3, 0, 0, 0, 0), (99, .goto (-37), 3, 0, 0, 0, 0), (102, .aload_n 0, 1, 0, 0, 0, 0), (103, .getfield 12, 3, 3, 0, 4, 0), (106, .iload_n 2, 1, 0, 0, 0, 0), (107, .aload_n 0, 1, 0, 0, 0, 0), (108, .getfield 25, 3, 3, 2, 4, 0), (111, .iload_n 1, 1, 0, 0, 0, 0), (112, .iconst 0, 1, 0, 0, 0, 0), (113, .invokevirtual 122, 3, 51, 3, 0, 5), (116, .bipush 16, 2, 0, 0, 0, 0), (118, .isub, 1, 0, 0, 0, 0), (119, .invokevirtual 125, 3, 41, 3, 0, 4), (122, .ireturn, 1, 0, 0, 0, 0)]
/-- KindJudge$Layout.isGoodFor(III)Z -/
def kjM_28 : mv_Me := (⟨"KindJudge$Layout", "isGoodFor", "(III)Z"⟩, prog_7_method_6_code, 6, (some .boolean), "KindJudge$Layout", kjT_28, 0, 0, 2, 43)
def kjT_29 : List mv_E := [(0, .aload_n 0, 1, 0, 0, 0, 0), (1, .getfield 12, 3, 3, 0, 4, 0), (4, .iload_n 1, 1, 0, 0, 0, 0), (5, .invokevirtual 129, 3, 37, 2, 0, 4), (8, .ifCond .eq 28, 3, 0, 0, 0, 0), (11, .aload_n 0, 1, 0, 0, 0, 0), (12, .getfield 21, 3, 3, 1, 4, 0), (15, .iload_n 2, 1, 0, 0, 0, 0), (16, .invokevirtual 91, 3, 49, 2, 0, 5), (19, .ifCond .eq 17, 3, 0, 0, 0, 0), (22, .aload_n 0, 1, 0, 0, 0, 0), (23, .getfield 41, 3, 3, 8, 4, 0), (26, .iload_n 1, 1, 0, 0, 0, 0), (27, .bipush 8, 2, 0, 0, 0, 0), (29, .imul, 1, 0, 0, 0, 0), (30, .iload_n 2, 1, 0, 0, 0, 0), (31, .iadd, 1, 0, 0, 0, 0), (32, .iaload, 1, 0, 0, 0, 0), (33, .goto 4, 3, 0, 0, 0, 0), (36, .iconst (-1), 1, 0, 0, 0, 0), (37, .ireturn, 1, 0, 0, 0, 0)]
/-- KindJudge$Layout.methodFor(II)I -/
def kjM_29 : mv_Me := (⟨"KindJudge$Layout", "methodFor", "(II)I"⟩, prog_7_method_7_code, 3, (some .int), "KindJudge$Layout", kjT_29, 0, 0, 1, 21)
def kjT_30 : List mv_E := [(0, .iload_n 1, 1, 0, 0, 0, 0), (1, .ifCond .lt 23, 3, 0, 0, 0, 0), (4, .iload_n 1, 1, 0, 0, 0, 0), (5, .aload_n 0, 1, 0, 0, 0, 0), (6, .getfield 25, 3, 3, 2, 4, 0), (9, .getfield 64, 3, 5, 3, 0, 0), (12, .if_icmp .ge 12, 3, 0, 0, 0, 0), (15, .aload_n 0, 1, 0, 0, 0, 0), (16, .getfield 28, 3, 3, 4, 4, 0), (19, .iload_n 1, 1, 0, 0, 0, 0), (20, .iaload, 1, 0, 0, 0, 0), (21, .goto 4, 3, 0, 0, 0, 0), (24, .iconst 0, 1, 0, 0, 0, 0), (25, .ireturn, 1, 0, 0, 0, 0)]
/-- KindJudge$Layout.localsOf(I)I -/
def kjM_30 : mv_Me := (⟨"KindJudge$Layout", "localsOf", "(I)I"⟩, prog_7_method_8_code, 2, (some .int), "KindJudge$Layout", kjT_30, 0, 0, 0, 0)
def kjT_31 : List mv_E := [(0, .iload_n 1, 1, 0, 0, 0, 0), (1, .ifCond .lt 23, 3, 0, 0, 0, 0), (4, .iload_n 1, 1, 0, 0, 0, 0), (5, .aload_n 0, 1, 0, 0, 0, 0), (6, .getfield 25, 3, 3, 2, 4, 0), (9, .getfield 64, 3, 5, 3, 0, 0), (12, .if_icmp .ge 12, 3, 0, 0, 0, 0), (15, .aload_n 0, 1, 0, 0, 0, 0), (16, .getfield 32, 3, 3, 5, 4, 0), (19, .iload_n 1, 1, 0, 0, 0, 0), (20, .iaload, 1, 0, 0, 0, 0), (21, .goto 4, 3, 0, 0, 0, 0), (24, .iconst 0, 1, 0, 0, 0, 0), (25, .ireturn, 1, 0, 0, 0, 0)]
/-- KindJudge$Layout.stackOf(I)I -/
def kjM_31 : mv_Me := (⟨"KindJudge$Layout", "stackOf", "(I)I"⟩, prog_7_method_9_code, 2, (some .int), "KindJudge$Layout", kjT_31, 0, 0, 0, 0)
def kjT_32 : List mv_E := [(0, .iload_n 1, 1, 0, 0, 0, 0), (1, .ifCond .lt 23, 3, 0, 0, 0, 0), (4, .iload_n 1, 1, 0, 0, 0, 0), (5, .aload_n 0, 1, 0, 0, 0, 0), (6, .getfield 25, 3, 3, 2, 4, 0), (9, .getfield 64, 3, 5, 3, 0, 0), (12, .if_icmp .ge 12, 3, 0, 0, 0, 0), (15, .aload_n 0, 1, 0, 0, 0, 0), (16, .getfield 38, 3, 3, 7, 4, 0), (19, .iload_n 1, 1, 0, 0, 0, 0), (20, .iaload, 1, 0, 0, 0, 0), (21, .goto 4, 3, 0, 0, 0, 0), (24, .iconst 0, 1, 0, 0, 0, 0), (25, .ireturn, 1, 0, 0, 0, 0)]
/-- KindJudge$Layout.lengthOf(I)I -/
def kjM_32 : mv_Me := (⟨"KindJudge$Layout", "lengthOf", "(I)I"⟩, prog_7_method_10_code, 2, (some .int), "KindJudge$Layout", kjT_32, 0, 0, 0, 0)
def kjT_33 : List mv_E := [(0, .iload_n 2, 1, 0, 0, 0, 0), (1, .ifCond .lt 23, 3, 0, 0, 0, 0), (4, .iload_n 2, 1, 0, 0, 0, 0), (5, .aload_n 0, 1, 0, 0, 0, 0), (6, .iload_n 1, 1, 0, 0, 0, 0), (7, .invokevirtual 130, 3, 32, 2, 0, 3), (10, .if_icmp .ge 14, 3, 0, 0, 0, 0), (13, .aload_n 0, 1, 0, 0, 0, 0), (14, .getfield 35, 3, 3, 6, 4, 0), (17, .iload_n 1, 1, 0, 0, 0, 0), (18, .iaload, 1, 0, 0, 0, 0), (19, .iload_n 2, 1, 0, 0, 0, 0), (20, .iadd, 1, 0, 0, 0, 0), (21, .goto 4, 3, 0, 0, 0, 0), (24, .iconst (-1), 1, 0, 0, 0, 0), (25, .ireturn, 1, 0, 0, 0, 0)]
/-- KindJudge$Layout.offset(II)I -/
def kjM_33 : mv_Me := (⟨"KindJudge$Layout", "offset", "(II)I"⟩, prog_7_method_11_code, 3, (some .int), "KindJudge$Layout", kjT_33, 0, 0, 1, 21)
def kjT_34 : List mv_E := [(0, .aload_n 0, 1, 0, 0, 0, 0), (1, .invokespecial 3, 3, 0, 0, 3, 0), (4, .aload_n 0, 1, 0, 0, 0, 0), (5, .bipush 8, 2, 0, 0, 0, 0), (7, .newarray .int, 2, 0, 0, 0, 0), (9, .putfield 11, 3, 4, 0, 4, 0), (12, .aload_n 0, 1, 0, 0, 0, 0), (13, .bipush 8, 2, 0, 0, 0, 0), (15, .newarray .int, 2, 0, 0, 0, 0), (17, .putfield 15, 3, 4, 1, 4, 0), (20, .aload_n 0, 1, 0, 0, 0, 0), (21, .bipush 64, 2, 0, 0, 0, 0), (23, .newarray .int, 2, 0, 0, 0, 0), (25, .putfield 18, 3, 4, 2, 4, 0), (28, .aload_n 0, 1, 0, 0, 0, 0), (29, .bipush 8, 2, 0, 0, 0, 0), (31, .newarray .int, 2, 0, 0, 0, 0), (33, .putfield 21, 3, 4, 3, 4, 0), (36, .return_, 1, 0, 0, 0, 0)]
/-- KindJudge$Classes.<init>()V -/
def kjM_34 : mv_Me := (⟨"KindJudge$Classes", "<init>", "()V"⟩, prog_4_method_1_code, 1, none, "KindJudge$Classes", kjT_34, 4, 88, 1, 20)
def kjT_35 : List mv_E := [(0, .aload_n 0, 1, 0, 0, 0, 0), (1, .aload_n 1, 1, 0, 0, 0, 0), (2, .iconst 0, 1, 0, 0, 0, 0), (3, .bipush 8, 2, 0, 0, 0, 0), (5, .invokevirtual 24, 3, 60, 3, 0, 6), (8, .putfield 30, 3, 4, 4, 0, 0), (11, .iconst 0, 1, 0, 0, 0, 0), (12, .istore_n 2, 1, 0, 0, 0, 0), (13, .iload_n 2, 1, 0, 0, 0, 0), (14, .aload_n 0, 1, 0, 0, 0, 0), (15, .getfield 30, 3, 4, 4, 0, 0), (18, .if_icmp .ge 22, 3, 0, 0, 0, 0), (21, .aload_n 1, 1, 0, 0, 0, 0), (22, .invokevirtual 33, 3, 55, 1, 0, 6), (25, .ifCond .eq 15, 3, 0, 0, 0, 0), (28, .aload_n 0, 1, 0, 0, 0, 0), (29, .aload_n 1, 1, 0, 0, 0, 0), (30, .iload_n 2, 1, 0, 0, 0, 0), (31, .invokevirtual 37, 3, 36, 3, 0, 4), (34, .iinc 2 1, 3, 0, 0, 0, 0), (37, .goto (-24), 3, 0, 0, 0, 0), (40, .return_, 1, 0, 0, 0, 0)]
/-- KindJudge$Classes.read(LKindJudge$Reader;)V -/
def kjM_35 : mv_Me := (⟨"KindJudge$Classes", "read", "(LKindJudge$Reader;)V"⟩, prog_4_method_2_code, 3, none, "KindJudge$Classes", kjT_35, 0, 0, 4, 91)
def kjT_36 : List mv_E := [(0, .aload_n 1, 1, 0, 0, 0, 0), (1, .iconst 0, 1, 0, 0, 0, 0), (2, .iload_n 2, 1, 0, 0, 0, 0), (3, .invokevirtual 24, 3, 60, 3, 0, 6), (6, .iconst 1, 1, 0, 0, 0, 0), (7, .isub, 1, 0, 0, 0, 0), (8, .istore_n 3, 1, 0, 0, 0, 0), (9, .iload_n 3, 1, 0, 0, 0, 0), (10, .ifCond .lt 12, 3, 0, 0, 0, 0), (13, .aload_n 0, 1, 0, 0, 0, 0), (14, .getfield 15, 3, 4, 1, 4, 0), (17, .iload_n 3, 1, 0, 0, 0, 0), (18, .iaload, 1, 0, 0, 0, 0), (19, .goto 4, 3, 0, 0, 0, 0), (22, .iconst 0, 1, 0, 0, 0, 0), (23, .istore 4, 2, 0, 0, 0, 0), (25, .aload_n 1, 1, 0, 0, 0, 0), (26, .iconst 0, 1, 0, 0, 0, 0), (27, .iconst 4, 1, 0, 0, 0, 0), (28, .bipush 8, 2, 0, 0, 0, 0), (30, .iload 4, 2, 0, 0, 0, 0), (32, .isub, 1, 0, 0, 0, 0), (33, .invokestatic 41, 3, 0, 0, 5, 0), (36, .invokevirtual 24, 3, 60, 3, 0, 6), (39, .istore 5, 2, 0, 0, 0, 0), (41, .aload_n 0, 1, 0, 0, 0, 0), (42, .getfield 11, 3, 4, 0, 4, 0), (45, .iload_n 2, 1, 0, 0, 0, 0), (46, .iload_n 3, 1, 0, 0, 0, 0), (47, .iastore, 1, 0, 0, 0, 0), (48, .aload_n 0, 1, 0, 0, 0, 0), (49, .getfield 15, 3, 4, 1, 4, 0), (52, .iload_n 2, 1, 0, 0, 0, 0), (53, .iload 4, 2, 0, 0, 0, 0), (55, .iload 5, 2, 0, 0, 0, 0), (57, .iadd, 1, 0, 0, 0, 0), (58, .iastore, 1, 0, 0, 0, 0), (59, .aload_n 0, 1, 0, 0, 0, 0), (60, .getfield 21, 3, 4, 3, 4, 0), (63, .iload_n 2, 1, 0, 0, 0, 0), (64, .iconst 1, 1, 0, 0, 0, 0), (65, .iload_n 2, 1, 0, 0, 0, 0), (66, .ishl, 1, 0, 0, 0, 0), (67, .iastore, 1, 0, 0, 0, 0), (68, .iload_n 3, 1, 0, 0, 0, 0), (69, .ifCond .lt 18, 3, 0, 0, 0, 0), (72, .aload_n 0, 1, 0, 0, 0, 0), (73, .getfield 21, 3, 4, 3, 4, 0), (76, .iload_n 2, 1, 0, 0, 0, 0), (77, .dup2, 1, 0, 0, 0, 0), (78, .iaload, 1, 0, 0, 0, 0), (79, .aload_n 0, 1, 0, 0, 0, 0), (80, .getfield 21, 3, 4, 3, 4, 0), (83, .iload_n 3, 1, 0, 0, 0, 0), (84, .iaload, 1, 0, 0, 0, 0), (85, .ior, 1, 0, 0, 0, 0), (86, .iastore, 1, 0, 0, 0, 0), (87, .iconst 0, 1, 0, 0, 0, 0), (88, .istore 6, 2, 0, 0, 0, 0), (90, .iload 6, 2, 0, 0, 0, 0), (92, .iload 4, 2, 0, 0, 0, 0), (94, .if_icmp .ge 33, 3, 0, 0, 0, 0), (97, .aload_n 0, 1, 0, 0, 0, 0), (98, .getfield 18, 3, 4, 2, 4, 0), (101, .iload_n 2, 1, 0, 0, 0, 0), (102, .bipush 8, 2, 0, 0, 0, 0), (104, .imul, 1, 0, 0, 0, 0), (105, .iload 6, 2, 0, 0, 0, 0), (107, .iadd, 1, 0, 0, 0, 0), (108, .aload_n 0, 1, 0, 0, 0, 0), (109, .getfield 18, 3, 4, 2, 4, 0), (112, .iload_n 3, 1, 0, 0, 0, 0), (113, .bipush 8, 2, 0, 0, 0, 0), (115, .imul, 1, 0, 0, 0, 0), (116, .iload 6, 2, 0, 0, 0, 0), (118, .iadd, 1, 0, 0, 0, 0), (119, .iaload, 1, 0, 0, 0, 0), (120, .iastore, 1, 0, 0, 0, 0), (121, .iinc 6 1, 3, 0, 0, 0, 0), (124, .goto (-34), 3, 0, 0, 0, 0), (127, .iload 4, 2, 0, 0, 0, 0), (129, .istore 6, 2, 0, 0, 0, 0), (131, .iload 6, 2, 0, 0, 0, 0), (133, .iload 4, 2, 0, 0, 0, 0), (135, .iload 5, 2, 0, 0, 0, 0), (137, .iadd, 1, 0, 0, 0, 0), (138, .if_icmp .ge 30, 3, 0, 0, 0, 0), (141, .aload_n 0, 1, 0, 0, 0, 0), (142, .getfield 18, 3, 4, 2, 4, 0), (145, .iload_n 2, 1, 0, 0, 0, 0), (146, .bipush 8, 2, 0, 0, 0, 0), (148, .imul, 1, 0, 0, 0, 0), (149, .iload 6, 2, 0, 0, 0, 0), (151, .iadd, 1, 0, 0, 0, 0), (152, .aload_n 1, 1, 0, 0, 0, 0), (153, .aload_n 0, 1, 0, 0, 0, 0), (154, .getfield 30, 3, 4, 4, 0, 0), (157, .iconst 0, 1, 0, 0, 0, 0), (158, .invokevirtual 46, 3, 61, 3, 0, 6), (161, .iastore, 1, 0, 0, 0, 0), (162, .iinc 6 1, 3, 0, 0, 0, 0), (165, .goto (-34), 3, 0, 0, 0, 0), (168, .return_, 1, 0, 0, 0, 0)]
/-- KindJudge$Classes.readOne(LKindJudge$Reader;I)V -/
def kjM_36 : mv_Me := (⟨"KindJudge$Classes", "readOne", "(LKindJudge$Reader;I)V"⟩, prog_4_method_3_code, 7, none, "KindJudge$Classes", kjT_36, 0, 0, 3, 65)
def kjT_37 : List mv_E := [(0, .iload_n 1, 1, 0, 0, 0, 0), (1, .ifCond .lt 15, 3, 0, 0, 0, 0), (4, .iload_n 1, 1, 0, 0, 0, 0), (5, .aload_n 0, 1, 0, 0, 0, 0), (6, .getfield 30, 3, 4, 4, 0, 0), (9, .if_icmp .ge 7, 3, 0, 0, 0, 0), (12, .iconst 1, 1, 0, 0, 0, 0), (13, .goto 4, 3, 0, 0, 0, 0), (16, .iconst 0, 1, 0, 0, 0, 0), (17, .ireturn, 1, 0, 0, 0, 0)]
/-- KindJudge$Classes.has(I)Z -/
def kjM_37 : mv_Me := (⟨"KindJudge$Classes", "has", "(I)Z"⟩, prog_4_method_4_code, 2, (some .boolean), "KindJudge$Classes", kjT_37, 0, 0, 0, 0)
def kjT_38 : List mv_E := [(0, .iload_n 1, 1, 0, 0, 0, 0), (1, .ifCond .lt 20, 3, 0, 0, 0, 0), (4, .iload_n 1, 1, 0, 0, 0, 0), (5, .aload_n 0, 1, 0, 0, 0, 0), (6, .getfield 30, 3, 4, 4, 0, 0), (9, .if_icmp .ge 12, 3, 0, 0, 0, 0), (12, .aload_n 0, 1, 0, 0, 0, 0), (13, .getfield 11, 3, 4, 0, 4, 0), (16, .iload_n 1, 1, 0, 0, 0, 0), (17, .iaload, 1, 0, 0, 0, 0), (18, .goto 4, 3, 0, 0, 0, 0), (21, .iconst (-1), 1, 0, 0, 0, 0), (22, .ireturn, 1, 0, 0, 0, 0)]
/-- KindJudge$Classes.superOf(I)I -/
def kjM_38 : mv_Me := (⟨"KindJudge$Classes", "superOf", "(I)I"⟩, prog_4_method_5_code, 2, (some .int), "KindJudge$Classes", kjT_38, 0, 0, 0, 0)
def kjT_39 : List mv_E := [(0, .iload_n 1, 1, 0, 0, 0, 0), (1, .ifCond .lt 20, 3, 0, 0, 0, 0), (4, .iload_n 1, 1, 0, 0, 0, 0), (5, .aload_n 0, 1, 0, 0, 0, 0), (6, .getfield 30, 3, 4, 4, 0, 0), (9, .if_icmp .ge 12, 3, 0, 0, 0, 0), (12, .aload_n 0, 1, 0, 0, 0, 0), (13, .getfield 15, 3, 4, 1, 4, 0), (16, .iload_n 1, 1, 0, 0, 0, 0), (17, .iaload, 1, 0, 0, 0, 0), (18, .goto 4, 3, 0, 0, 0, 0), (21, .iconst 0, 1, 0, 0, 0, 0), (22, .ireturn, 1, 0, 0, 0, 0)]
/-- KindJudge$Classes.fieldsOf(I)I -/
def kjM_39 : mv_Me := (⟨"KindJudge$Classes", "fieldsOf", "(I)I"⟩, prog_4_method_6_code, 2, (some .int), "KindJudge$Classes", kjT_39, 0, 0, 0, 0)
def kjT_40 : List mv_E := [(0, .iload_n 2, 1, 0, 0, 0, 0), (1, .ifCond .lt 26, 3, 0, 0, 0, 0), (4, .iload_n 2, 1, 0, 0, 0, 0), (5, .aload_n 0, 1, 0, 0, 0, 0), (6, .iload_n 1, 1, 0, 0, 0, 0), (7, .invokevirtual 50, 3, 39, 2, 0, 4), (10, .if_icmp .ge 17, 3, 0, 0, 0, 0), (13, .aload_n 0, 1, 0, 0, 0, 0), (14, .getfield 18, 3, 4, 2, 4, 0), (17, .iload_n 1, 1, 0, 0, 0, 0), (18, .bipush 8, 2, 0, 0, 0, 0), (20, .imul, 1, 0, 0, 0, 0), (21, .iload_n 2, 1, 0, 0, 0, 0), (22, .iadd, 1, 0, 0, 0, 0), (23, .iaload, 1, 0, 0, 0, 0), (24, .goto 4, 3, 0, 0, 0, 0), (27, .iconst (-1), 1, 0, 0, 0, 0), (28, .ireturn, 1, 0, 0, 0, 0)]
/-- KindJudge$Classes.fieldType(II)I -/
def kjM_40 : mv_Me := (⟨"KindJudge$Classes", "fieldType", "(II)I"⟩, prog_4_method_7_code, 3, (some .int), "KindJudge$Classes", kjT_40, 0, 0, 1, 21)
def kjT_41 : List mv_E := [(0, .iload_n 1, 1, 0, 0, 0, 0), (1, .ifCond .lt 41, 3, 0, 0, 0, 0), (4, .iload_n 1, 1, 0, 0, 0, 0), (5, .aload_n 0, 1, 0, 0, 0, 0), (6, .getfield 30, 3, 4, 4, 0, 0), (9, .if_icmp .ge 33, 3, 0, 0, 0, 0), (12, .iload_n 2, 1, 0, 0, 0, 0), (13, .ifCond .lt 29, 3, 0, 0, 0, 0), (16, .iload_n 2, 1, 0, 0, 0, 0), (17, .aload_n 0, 1, 0, 0, 0, 0), (18, .getfield 30, 3, 4, 4, 0, 0), (21, .if_icmp .ge 21, 3, 0, 0, 0, 0), (24, .aload_n 0, 1, 0, 0, 0, 0), (25, .getfield 21, 3, 4, 3, 4, 0), (28, .iload_n 1, 1, 0, 0, 0, 0), (29, .iaload, 1, 0, 0, 0, 0), (30, .iload_n 2, 1, 0, 0, 0, 0), (31, .ishr, 1, 0, 0, 0, 0), (32, .iconst 1, 1, 0, 0, 0, 0), (33, .iand, 1, 0, 0, 0, 0), (34, .iconst 1, 1, 0, 0, 0, 0), (35, .if_icmp .ne 7, 3, 0, 0, 0, 0), (38, .iconst 1, 1, 0, 0, 0, 0), (39, .goto 4, 3, 0, 0, 0, 0), (42, .iconst 0, 1, 0, 0, 0, 0), (43, .ireturn, 1, 0, 0, 0, 0)]
/-- KindJudge$Classes.isOrIsBelow(II)Z -/
def kjM_41 : mv_Me := (⟨"KindJudge$Classes", "isOrIsBelow", "(II)Z"⟩, prog_4_method_8_code, 3, (some .boolean), "KindJudge$Classes", kjT_41, 0, 0, 0, 0)
def kjT_42 : List mv_E := [(0, .iload_n 1, 1, 0, 0, 0, 0), (1, .ifCond .eq 16, 3, 0, 0, 0, 0), (4, .iload_n 1, 1, 0, 0, 0, 0), (5, .iconst 3, 1, 0, 0, 0, 0), (6, .if_icmp .eq 11, 3, 0, 0, 0, 0), (9, .aload_n 0, 1, 0, 0, 0, 0), (10, .iload_n 1, 1, 0, 0, 0, 0), (11, .invokevirtual 54, 3, 43, 2, 0, 4), (14, .ifCond .eq 7, 3, 0, 0, 0, 0), (17, .iconst 1, 1, 0, 0, 0, 0), (18, .goto 4, 3, 0, 0, 0, 0), (21, .iconst 0, 1, 0, 0, 0, 0), (22, .ireturn, 1, 0, 0, 0, 0)]
/-- KindJudge$Classes.isKind(I)Z -/
def kjM_42 : mv_Me := (⟨"KindJudge$Classes", "isKind", "(I)Z"⟩, prog_4_method_9_code, 2, (some .boolean), "KindJudge$Classes", kjT_42, 0, 0, 1, 21)
def kjT_43 : List mv_E := [(0, .iload_n 1, 1, 0, 0, 0, 0), (1, .iconst 1, 1, 0, 0, 0, 0), (2, .if_icmp .eq 31, 3, 0, 0, 0, 0), (5, .iload_n 1, 1, 0, 0, 0, 0), (6, .iconst 2, 1, 0, 0, 0, 0), (7, .if_icmp .eq 26, 3, 0, 0, 0, 0), (10, .iload_n 1, 1, 0, 0, 0, 0), (11, .bipush 15, 2, 0, 0, 0, 0), (13, .if_icmp .eq 20, 3, 0, 0, 0, 0), (16, .iload_n 1, 1, 0, 0, 0, 0), (17, .bipush 16, 2, 0, 0, 0, 0), (19, .if_icmp .lt 18, 3, 0, 0, 0, 0), (22, .iload_n 1, 1, 0, 0, 0, 0), (23, .bipush 16, 2, 0, 0, 0, 0), (25, .isub, 1, 0, 0, 0, 0), (26, .aload_n 0, 1, 0, 0, 0, 0), (27, .getfield 30, 3, 4, 4, 0, 0), (30, .if_icmp .ge 7, 3, 0, 0, 0, 0), (33, .iconst 1, 1, 0, 0, 0, 0), (34, .goto 4, 3, 0, 0, 0, 0), (37, .iconst 0, 1, 0, 0, 0, 0), (38, .ireturn, 1, 0, 0, 0, 0)]
/-- KindJudge$Classes.isType(I)Z -/
def kjM_43 : mv_Me := (⟨"KindJudge$Classes", "isType", "(I)Z"⟩, prog_4_method_10_code, 2, (some .boolean), "KindJudge$Classes", kjT_43, 0, 0, 0, 0)
def kjT_44 : List mv_E := [(0, .iload_n 1, 1, 0, 0, 0, 0), (1, .iload_n 2, 1, 0, 0, 0, 0), (2, .if_icmp .ne 5, 3, 0, 0, 0, 0), (5, .iconst 1, 1, 0, 0, 0, 0), (6, .ireturn, 1, 0, 0, 0, 0), (7, .iload_n 1, 1, 0, 0, 0, 0), (8, .iconst 3, 1, 0, 0, 0, 0), (9, .if_icmp .ne 14, 3, 0, 0, 0, 0), (12, .iload_n 2, 1, 0, 0, 0, 0), (13, .iconst 1, 1, 0, 0, 0, 0), (14, .if_icmp .eq 7, 3, 0, 0, 0, 0), (17, .iconst 1, 1, 0, 0, 0, 0), (18, .goto 4, 3, 0, 0, 0, 0), (21, .iconst 0, 1, 0, 0, 0, 0), (22, .ireturn, 1, 0, 0, 0, 0), (23, .iload_n 1, 1, 0, 0, 0, 0), (24, .bipush 16, 2, 0, 0, 0, 0), (26, .if_icmp .lt 34, 3, 0, 0, 0, 0), (29, .iload_n 2, 1, 0, 0, 0, 0), (30, .bipush 15, 2, 0, 0, 0, 0), (32, .if_icmp .eq 24, 3, 0, 0, 0, 0), (35, .iload_n 2, 1, 0, 0, 0, 0), (36, .bipush 16, 2, 0, 0, 0, 0), (38, .if_icmp .lt 22, 3, 0, 0, 0, 0), (41, .aload_n 0, 1, 0, 0, 0, 0), (42, .iload_n 1, 1, 0, 0, 0, 0), (43, .bipush 16, 2, 0, 0, 0, 0), (45, .isub, 1, 0, 0, 0, 0), (46, .iload_n 2, 1, 0, 0, 0, 0), (47, .bipush 16, 2, 0, 0, 0, 0), (49, .isub, 1, 0, 0, 0, 0), (50, .invokevirtual 58, 3, 41, 3, 0, 4), (53, .ifCond .eq 7, 3, 0, 0, 0, 0), (56, .iconst 1, 1, 0, 0, 0, 0), (57, .goto 4, 3, 0, 0, 0, 0), (60, .iconst 0, 1, 0, 0, 0, 0), (61, .ireturn, 1, 0, 0, 0, 0)]
/-- KindJudge$Classes.isFit(II)Z -/
def kjM_44 : mv_Me := (⟨"KindJudge$Classes", "isFit", "(II)Z"⟩, prog_4_method_11_code, 3, (some .boolean), "KindJudge$Classes", kjT_44, 0, 0, 1, 22)
def kjT_45 : List mv_E := [(0, .iload_n 1, 1, 0, 0, 0, 0), (1, .iload_n 2, 1, 0, 0, 0, 0), (2, .if_icmp .ne 5, 3, 0, 0, 0, 0), (5, .iload_n 1, 1, 0, 0, 0, 0), (6, .ireturn, 1, 0, 0, 0, 0), (7, .iload_n 1, 1, 0, 0, 0, 0), (8, .iconst 3, 1, 0, 0, 0, 0), (9, .if_icmp .eq 8, 3, 0, 0, 0, 0), (12, .iload_n 2, 1, 0, 0, 0, 0), (13, .iconst 3, 1, 0, 0, 0, 0), (14, .if_icmp .ne 31, 3, 0, 0, 0, 0), (17, .iload_n 1, 1, 0, 0, 0, 0), (18, .iconst 3, 1, 0, 0, 0, 0), (19, .if_icmp .ne 7, 3, 0, 0, 0, 0), (22, .iload_n 2, 1, 0, 0, 0, 0), (23, .goto 4, 3, 0, 0, 0, 0), (26, .iload_n 1, 1, 0, 0, 0, 0), (27, .istore_n 3, 1, 0, 0, 0, 0), (28, .iload_n 3, 1, 0, 0, 0, 0), (29, .iconst 2, 1, 0, 0, 0, 0), (30, .if_icmp .eq 9, 3, 0, 0, 0, 0), (33, .iload_n 3, 1, 0, 0, 0, 0), (34, .bipush 15, 2, 0, 0, 0, 0), (36, .if_icmp .lt 7, 3, 0, 0, 0, 0), (39, .iload_n 3, 1, 0, 0, 0, 0), (40, .goto 4, 3, 0, 0, 0, 0), (43, .iconst 0, 1, 0, 0, 0, 0), (44, .ireturn, 1, 0, 0, 0, 0), (45, .iload_n 1, 1, 0, 0, 0, 0), (46, .bipush 15, 2, 0, 0, 0, 0), (48, .if_icmp .lt 9, 3, 0, 0, 0, 0), (51, .iload_n 2, 1, 0, 0, 0, 0), (52, .bipush 15, 2, 0, 0, 0, 0), (54, .if_icmp .ge 5, 3, 0, 0, 0, 0), (57, .iconst 0, 1, 0, 0, 0, 0), (58, .ireturn, 1, 0, 0, 0, 0), (59, .iload_n 1, 1, 0, 0, 0, 0), (60, .iload_n 2, 1, 0, 0, 0, 0), (61, .invokestatic 41, 3, 0, 0, 5, 0), (64, .bipush 16, 2, 0, 0, 0, 0), (66, .isub, 1, 0, 0, 0, 0), (67, .istore_n 3, 1, 0, 0, 0, 0), (68, .iload_n 3, 1, 0, 0, 0, 0), (69, .ifCond .lt 38, 3, 0, 0, 0, 0), (72, .aload_n 0, 1, 0, 0, 0, 0), (73, .iload_n 1, 1, 0, 0, 0, 0), (74, .bipush 16, 2, 0, 0, 0, 0), (76, .isub, 1, 0, 0, 0, 0), (77, .iload_n 3, 1, 0, 0, 0, 0), (78, .invokevirtual 58, 3, 41, 3, 0, 4), (81, .ifCond .eq 20, 3, 0, 0, 0, 0), (84, .aload_n 0, 1, 0, 0, 0, 0), (85, .iload_n 2, 1, 0, 0, 0, 0), (86, .bipush 16, 2, 0, 0, 0, 0), (88, .isub, 1, 0, 0, 0, 0), (89, .iload_n 3, 1, 0, 0, 0, 0), (90, .invokevirtual 58, 3, 41, 3, 0, 4), (93, .ifCond .eq 8, 3, 0, 0, 0, 0), (96, .bipush 16, 2, 0, 0, 0, 0), (98, .iload_n 3, 1, 0, 0, 0, 0), (99, .iadd, 1, 0, 0, 0, 0), (100, .ireturn, 1, 0, 0, 0, 0), (101, .iinc 3 (-1), 3, 0, 0, 0, 0), (104, .goto (-36), 3, 0, 0, 0, 0), (107, .bipush 15, 2, 0, 0, 0, 0), (109, .ireturn, 1, 0, 0, 0, 0)]
/-- KindJudge$Classes.together(II)I -/
def kjM_45 : mv_Me := (⟨"KindJudge$Classes", "together", "(II)I"⟩, prog_4_method_12_code, 4, (some .int), "KindJudge$Classes", kjT_45, 0, 0, 1, 22)
def kjT_46 : List mv_E := [(0, .aload_n 0, 1, 0, 0, 0, 0), (1, .invokespecial 3, 3, 0, 0, 3, 0), (4, .aload_n 0, 1, 0, 0, 0, 0), (5, .bipush 16, 2, 0, 0, 0, 0), (7, .newarray .int, 2, 0, 0, 0, 0), (9, .putfield 11, 3, 5, 0, 4, 0), (12, .aload_n 0, 1, 0, 0, 0, 0), (13, .bipush 64, 2, 0, 0, 0, 0), (15, .newarray .int, 2, 0, 0, 0, 0), (17, .putfield 15, 3, 5, 1, 4, 0), (20, .aload_n 0, 1, 0, 0, 0, 0), (21, .bipush 16, 2, 0, 0, 0, 0), (23, .newarray .int, 2, 0, 0, 0, 0), (25, .putfield 18, 3, 5, 2, 4, 0), (28, .return_, 1, 0, 0, 0, 0)]
/-- KindJudge$Signatures.<init>()V -/
def kjM_46 : mv_Me := (⟨"KindJudge$Signatures", "<init>", "()V"⟩, prog_9_method_1_code, 1, none, "KindJudge$Signatures", kjT_46, 3, 96, 1, 20)
def kjT_47 : List mv_E := [(0, .aload_n 0, 1, 0, 0, 0, 0), (1, .aload_n 1, 1, 0, 0, 0, 0), (2, .iload_n 2, 1, 0, 0, 0, 0), (3, .iload_n 3, 1, 0, 0, 0, 0), (4, .bipush 16, 2, 0, 0, 0, 0), (6, .invokestatic 21, 3, 0, 0, 5, 0), (9, .invokevirtual 27, 3, 60, 3, 0, 6), (12, .putfield 32, 3, 5, 3, 0, 0), (15, .return_, 1, 0, 0, 0, 0)]
/-- KindJudge$Signatures.readNumber(LKindJudge$Reader;II)V -/
def kjM_47 : mv_Me := (⟨"KindJudge$Signatures", "readNumber", "(LKindJudge$Reader;II)V"⟩, prog_9_method_2_code, 4, none, "KindJudge$Signatures", kjT_47, 0, 0, 3, 64)
def kjT_48 : List mv_E := [(0, .iload_n 2, 1, 0, 0, 0, 0), (1, .ifCond .lt 9, 3, 0, 0, 0, 0), (4, .iload_n 2, 1, 0, 0, 0, 0), (5, .bipush 16, 2, 0, 0, 0, 0), (7, .if_icmp .lt 4, 3, 0, 0, 0, 0), (10, .return_, 1, 0, 0, 0, 0), (11, .aload_n 0, 1, 0, 0, 0, 0), (12, .getfield 11, 3, 5, 0, 4, 0), (15, .iload_n 2, 1, 0, 0, 0, 0), (16, .aload_n 1, 1, 0, 0, 0, 0), (17, .iconst 0, 1, 0, 0, 0, 0), (18, .iload_n 3, 1, 0, 0, 0, 0), (19, .iconst 4, 1, 0, 0, 0, 0), (20, .invokestatic 21, 3, 0, 0, 5, 0), (23, .invokevirtual 27, 3, 60, 3, 0, 6), (26, .iastore, 1, 0, 0, 0, 0), (27, .iconst 0, 1, 0, 0, 0, 0), (28, .istore 5, 2, 0, 0, 0, 0), (30, .iload 5, 2, 0, 0, 0, 0), (32, .aload_n 0, 1, 0, 0, 0, 0), (33, .getfield 11, 3, 5, 0, 4, 0), (36, .iload_n 2, 1, 0, 0, 0, 0), (37, .iaload, 1, 0, 0, 0, 0), (38, .if_icmp .ge 27, 3, 0, 0, 0, 0), (41, .aload_n 0, 1, 0, 0, 0, 0), (42, .getfield 15, 3, 5, 1, 4, 0), (45, .iload_n 2, 1, 0, 0, 0, 0), (46, .iconst 4, 1, 0, 0, 0, 0), (47, .imul, 1, 0, 0, 0, 0), (48, .iload 5, 2, 0, 0, 0, 0), (50, .iadd, 1, 0, 0, 0, 0), (51, .aload_n 1, 1, 0, 0, 0, 0), (52, .iload 4, 2, 0, 0, 0, 0), (54, .iconst 0, 1, 0, 0, 0, 0), (55, .invokevirtual 35, 3, 61, 3, 0, 6), (58, .iastore, 1, 0, 0, 0, 0), (59, .iinc 5 1, 3, 0, 0, 0, 0), (62, .goto (-32), 3, 0, 0, 0, 0), (65, .aload_n 0, 1, 0, 0, 0, 0), (66, .getfield 18, 3, 5, 2, 4, 0), (69, .iload_n 2, 1, 0, 0, 0, 0), (70, .aload_n 1, 1, 0, 0, 0, 0), (71, .iload 4, 2, 0, 0, 0, 0), (73, .iconst 1, 1, 0, 0, 0, 0), (74, .invokevirtual 35, 3, 61, 3, 0, 6), (77, .iastore, 1, 0, 0, 0, 0), (78, .return_, 1, 0, 0, 0, 0)]
/-- KindJudge$Signatures.readOne(LKindJudge$Reader;III)V -/
def kjM_48 : mv_Me := (⟨"KindJudge$Signatures", "readOne", "(LKindJudge$Reader;III)V"⟩, prog_9_method_3_code, 6, none, "KindJudge$Signatures", kjT_48, 0, 0, 3, 65)
def kjT_49 : List mv_E := [(0, .iload_n 1, 1, 0, 0, 0, 0), (1, .ifCond .lt 15, 3, 0, 0, 0, 0), (4, .iload_n 1, 1, 0, 0, 0, 0), (5, .aload_n 0, 1, 0, 0, 0, 0), (6, .getfield 32, 3, 5, 3, 0, 0), (9, .if_icmp .ge 7, 3, 0, 0, 0, 0), (12, .iconst 1, 1, 0, 0, 0, 0), (13, .goto 4, 3, 0, 0, 0, 0), (16, .iconst 0, 1, 0, 0, 0, 0), (17, .ireturn, 1, 0, 0, 0, 0)]
/-- KindJudge$Signatures.has(I)Z -/
def kjM_49 : mv_Me := (⟨"KindJudge$Signatures", "has", "(I)Z"⟩, prog_9_method_4_code, 2, (some .boolean), "KindJudge$Signatures", kjT_49, 0, 0, 0, 0)
def kjT_50 : List mv_E := [(0, .iload_n 1, 1, 0, 0, 0, 0), (1, .ifCond .lt 20, 3, 0, 0, 0, 0), (4, .iload_n 1, 1, 0, 0, 0, 0), (5, .aload_n 0, 1, 0, 0, 0, 0), (6, .getfield 32, 3, 5, 3, 0, 0), (9, .if_icmp .ge 12, 3, 0, 0, 0, 0), (12, .aload_n 0, 1, 0, 0, 0, 0), (13, .getfield 11, 3, 5, 0, 4, 0), (16, .iload_n 1, 1, 0, 0, 0, 0), (17, .iaload, 1, 0, 0, 0, 0), (18, .goto 4, 3, 0, 0, 0, 0), (21, .iconst 0, 1, 0, 0, 0, 0), (22, .ireturn, 1, 0, 0, 0, 0)]
/-- KindJudge$Signatures.parametersOf(I)I -/
def kjM_50 : mv_Me := (⟨"KindJudge$Signatures", "parametersOf", "(I)I"⟩, prog_9_method_5_code, 2, (some .int), "KindJudge$Signatures", kjT_50, 0, 0, 0, 0)
def kjT_51 : List mv_E := [(0, .iload_n 2, 1, 0, 0, 0, 0), (1, .ifCond .lt 25, 3, 0, 0, 0, 0), (4, .iload_n 2, 1, 0, 0, 0, 0), (5, .aload_n 0, 1, 0, 0, 0, 0), (6, .iload_n 1, 1, 0, 0, 0, 0), (7, .invokevirtual 39, 3, 50, 2, 0, 5), (10, .if_icmp .ge 16, 3, 0, 0, 0, 0), (13, .aload_n 0, 1, 0, 0, 0, 0), (14, .getfield 15, 3, 5, 1, 4, 0), (17, .iload_n 1, 1, 0, 0, 0, 0), (18, .iconst 4, 1, 0, 0, 0, 0), (19, .imul, 1, 0, 0, 0, 0), (20, .iload_n 2, 1, 0, 0, 0, 0), (21, .iadd, 1, 0, 0, 0, 0), (22, .iaload, 1, 0, 0, 0, 0), (23, .goto 4, 3, 0, 0, 0, 0), (26, .iconst (-1), 1, 0, 0, 0, 0), (27, .ireturn, 1, 0, 0, 0, 0)]
/-- KindJudge$Signatures.parameter(II)I -/
def kjM_51 : mv_Me := (⟨"KindJudge$Signatures", "parameter", "(II)I"⟩, prog_9_method_6_code, 3, (some .int), "KindJudge$Signatures", kjT_51, 0, 0, 1, 21)
def kjT_52 : List mv_E := [(0, .iload_n 1, 1, 0, 0, 0, 0), (1, .ifCond .lt 20, 3, 0, 0, 0, 0), (4, .iload_n 1, 1, 0, 0, 0, 0), (5, .aload_n 0, 1, 0, 0, 0, 0), (6, .getfield 32, 3, 5, 3, 0, 0), (9, .if_icmp .ge 12, 3, 0, 0, 0, 0), (12, .aload_n 0, 1, 0, 0, 0, 0), (13, .getfield 18, 3, 5, 2, 4, 0), (16, .iload_n 1, 1, 0, 0, 0, 0), (17, .iaload, 1, 0, 0, 0, 0), (18, .goto 4, 3, 0, 0, 0, 0), (21, .iconst 0, 1, 0, 0, 0, 0), (22, .ireturn, 1, 0, 0, 0, 0)]
/-- KindJudge$Signatures.returnedBy(I)I -/
def kjM_52 : mv_Me := (⟨"KindJudge$Signatures", "returnedBy", "(I)I"⟩, prog_9_method_7_code, 2, (some .int), "KindJudge$Signatures", kjT_52, 0, 0, 0, 0)
def kjT_53 : List mv_E := [(0, .aload_n 0, 1, 0, 0, 0, 0), (1, .invokespecial 3, 3, 0, 0, 3, 0), (4, .aload_n 0, 1, 0, 0, 0, 0), (5, .aload_n 1, 1, 0, 0, 0, 0), (6, .putfield 9, 3, 6, 0, 4, 0), (9, .return_, 1, 0, 0, 0, 0)]
/-- KindJudge$Reader.<init>(LKindJudge$Bytes;)V -/
def kjM_53 : mv_Me := (⟨"KindJudge$Reader", "<init>", "(LKindJudge$Bytes;)V"⟩, prog_8_method_1_code, 2, none, "KindJudge$Reader", kjT_53, 0, 0, 1, 20)
def kjT_54 : List mv_E := [(0, .aload_n 0, 1, 0, 0, 0, 0), (1, .iconst 0, 1, 0, 0, 0, 0), (2, .putfield 15, 3, 6, 1, 0, 0), (5, .aload_n 0, 1, 0, 0, 0, 0), (6, .iconst 0, 1, 0, 0, 0, 0), (7, .putfield 19, 3, 6, 2, 1, 0), (10, .return_, 1, 0, 0, 0, 0)]
/-- KindJudge$Reader.begin()V -/
def kjM_54 : mv_Me := (⟨"KindJudge$Reader", "begin", "()V"⟩, prog_8_method_2_code, 1, none, "KindJudge$Reader", kjT_54, 0, 0, 0, 0)
def kjT_55 : List mv_E := [(0, .aload_n 0, 1, 0, 0, 0, 0), (1, .getfield 19, 3, 6, 2, 1, 0), (4, .ifCond .ne 7, 3, 0, 0, 0, 0), (7, .iconst 1, 1, 0, 0, 0, 0), (8, .goto 4, 3, 0, 0, 0, 0), (11, .iconst 0, 1, 0, 0, 0, 0), (12, .ireturn, 1, 0, 0, 0, 0)]
/-- KindJudge$Reader.goesOn()Z -/
def kjM_55 : mv_Me := (⟨"KindJudge$Reader", "goesOn", "()Z"⟩, prog_8_method_3_code, 1, (some .boolean), "KindJudge$Reader", kjT_55, 0, 0, 0, 0)
def kjT_56 : List mv_E := [(0, .aload_n 0, 1, 0, 0, 0, 0), (1, .getfield 19, 3, 6, 2, 1, 0), (4, .ifCond .ne 21, 3, 0, 0, 0, 0), (7, .aload_n 0, 1, 0, 0, 0, 0), (8, .getfield 15, 3, 6, 1, 0, 0), (11, .aload_n 0, 1, 0, 0, 0, 0), (12, .getfield 9, 3, 6, 0, 4, 0), (15, .getfield 23, 3, 2, 1, 0, 0), (18, .if_icmp .ne 7, 3, 0, 0, 0, 0), (21, .iconst 1, 1, 0, 0, 0, 0), (22, .goto 4, 3, 0, 0, 0, 0), (25, .iconst 0, 1, 0, 0, 0, 0), (26, .ireturn, 1, 0, 0, 0, 0)]
/-- KindJudge$Reader.isAtEnd()Z -/
def kjM_56 : mv_Me := (⟨"KindJudge$Reader", "isAtEnd", "()Z"⟩, prog_8_method_4_code, 1, (some .boolean), "KindJudge$Reader", kjT_56, 0, 0, 0, 0)
def kjT_57 : List mv_E := [(0, .aload_n 0, 1, 0, 0, 0, 0), (1, .getfield 15, 3, 6, 1, 0, 0), (4, .ireturn, 1, 0, 0, 0, 0)]
/-- KindJudge$Reader.place()I -/
def kjM_57 : mv_Me := (⟨"KindJudge$Reader", "place", "()I"⟩, prog_8_method_5_code, 1, (some .int), "KindJudge$Reader", kjT_57, 0, 0, 0, 0)
def kjT_58 : List mv_E := [(0, .aload_n 0, 1, 0, 0, 0, 0), (1, .getfield 19, 3, 6, 2, 1, 0), (4, .ifCond .eq 7, 3, 0, 0, 0, 0), (7, .iconst (-1), 1, 0, 0, 0, 0), (8, .goto 14, 3, 0, 0, 0, 0), (11, .aload_n 0, 1, 0, 0, 0, 0), (12, .getfield 9, 3, 6, 0, 4, 0), (15, .aload_n 0, 1, 0, 0, 0, 0), (16, .getfield 15, 3, 6, 1, 0, 0), (19, .invokevirtual 28, 3, 22, 2, 0, 2), (22, .ireturn, 1, 0, 0, 0, 0)]
/-- KindJudge$Reader.ahead()I -/
def kjM_58 : mv_Me := (⟨"KindJudge$Reader", "ahead", "()I"⟩, prog_8_method_6_code, 1, (some .int), "KindJudge$Reader", kjT_58, 0, 0, 1, 21)
def kjT_59 : List mv_E := [(0, .iload_n 1, 1, 0, 0, 0, 0), (1, .ifCond .eq 24, 3, 0, 0, 0, 0), (4, .aload_n 0, 1, 0, 0, 0, 0), (5, .getfield 19, 3, 6, 2, 1, 0), (8, .ifCond .ne 17, 3, 0, 0, 0, 0), (11, .aload_n 0, 1, 0, 0, 0, 0), (12, .getfield 15, 3, 6, 1, 0, 0), (15, .aload_n 0, 1, 0, 0, 0, 0), (16, .getfield 9, 3, 6, 0, 4, 0), (19, .getfield 23, 3, 2, 1, 0, 0), (22, .if_icmp .lt 10, 3, 0, 0, 0, 0), (25, .aload_n 0, 1, 0, 0, 0, 0), (26, .iconst 1, 1, 0, 0, 0, 0), (27, .putfield 19, 3, 6, 2, 1, 0), (30, .iconst 0, 1, 0, 0, 0, 0), (31, .ireturn, 1, 0, 0, 0, 0), (32, .aload_n 0, 1, 0, 0, 0, 0), (33, .dup, 1, 0, 0, 0, 0), (34, .getfield 15, 3, 6, 1, 0, 0), (37, .iconst 1, 1, 0, 0, 0, 0), (38, .iadd, 1, 0, 0, 0, 0), (39, .putfield 15, 3, 6, 1, 0, 0), (42, .iconst 1, 1, 0, 0, 0, 0), (43, .ireturn, 1, 0, 0, 0, 0)]
/-- KindJudge$Reader.pass(Z)Z -/
def kjM_59 : mv_Me := (⟨"KindJudge$Reader", "pass", "(Z)Z"⟩, prog_8_method_7_code, 2, (some .boolean), "KindJudge$Reader", kjT_59, 0, 0, 0, 0)
def kjT_60 : List mv_E := [(0, .aload_n 0, 1, 0, 0, 0, 0), (1, .invokevirtual 31, 3, 58, 1, 0, 6), (4, .istore_n 3, 1, 0, 0, 0, 0), (5, .aload_n 0, 1, 0, 0, 0, 0), (6, .iload_n 3, 1, 0, 0, 0, 0), (7, .iload_n 1, 1, 0, 0, 0, 0), (8, .if_icmp .lt 12, 3, 0, 0, 0, 0), (11, .iload_n 3, 1, 0, 0, 0, 0), (12, .iload_n 2, 1, 0, 0, 0, 0), (13, .if_icmp .gt 7, 3, 0, 0, 0, 0), (16, .iconst 1, 1, 0, 0, 0, 0), (17, .goto 4, 3, 0, 0, 0, 0), (20, .iconst 0, 1, 0, 0, 0, 0), (21, .invokevirtual 35, 3, 59, 2, 0, 6), (24, .ifCond .eq 7, 3, 0, 0, 0, 0), (27, .iload_n 3, 1, 0, 0, 0, 0), (28, .goto 4, 3, 0, 0, 0, 0), (31, .iload_n 1, 1, 0, 0, 0, 0), (32, .ireturn, 1, 0, 0, 0, 0)]
/-- KindJudge$Reader.number(II)I -/
def kjM_60 : mv_Me := (⟨"KindJudge$Reader", "number", "(II)I"⟩, prog_8_method_8_code, 4, (some .int), "KindJudge$Reader", kjT_60, 0, 0, 2, 41)
def kjT_61 : List mv_E := [(0, .aload_n 0, 1, 0, 0, 0, 0), (1, .invokevirtual 31, 3, 58, 1, 0, 6), (4, .istore_n 3, 1, 0, 0, 0, 0), (5, .iload_n 3, 1, 0, 0, 0, 0), (6, .iconst 1, 1, 0, 0, 0, 0), (7, .if_icmp .eq 30, 3, 0, 0, 0, 0), (10, .iload_n 3, 1, 0, 0, 0, 0), (11, .iconst 2, 1, 0, 0, 0, 0), (12, .if_icmp .eq 25, 3, 0, 0, 0, 0), (15, .iload_n 3, 1, 0, 0, 0, 0), (16, .bipush 16, 2, 0, 0, 0, 0), (18, .if_icmp .lt 11, 3, 0, 0, 0, 0), (21, .iload_n 3, 1, 0, 0, 0, 0), (22, .bipush 16, 2, 0, 0, 0, 0), (24, .iload_n 1, 1, 0, 0, 0, 0), (25, .iadd, 1, 0, 0, 0, 0), (26, .if_icmp .lt 11, 3, 0, 0, 0, 0), (29, .iload_n 2, 1, 0, 0, 0, 0), (30, .ifCond .eq 11, 3, 0, 0, 0, 0), (33, .iload_n 3, 1, 0, 0, 0, 0), (34, .ifCond .ne 7, 3, 0, 0, 0, 0), (37, .iconst 1, 1, 0, 0, 0, 0), (38, .goto 4, 3, 0, 0, 0, 0), (41, .iconst 0, 1, 0, 0, 0, 0), (42, .istore 4, 2, 0, 0, 0, 0), (44, .aload_n 0, 1, 0, 0, 0, 0), (45, .iload 4, 2, 0, 0, 0, 0), (47, .invokevirtual 35, 3, 59, 2, 0, 6), (50, .ifCond .eq 7, 3, 0, 0, 0, 0), (53, .iload_n 3, 1, 0, 0, 0, 0), (54, .goto 4, 3, 0, 0, 0, 0), (57, .iconst 1, 1, 0, 0, 0, 0), (58, .ireturn, 1, 0, 0, 0, 0)]
/-- KindJudge$Reader.typeAmong(IZ)I -/
def kjM_61 : mv_Me := (⟨"KindJudge$Reader", "typeAmong", "(IZ)I"⟩, prog_8_method_9_code, 5, (some .int), "KindJudge$Reader", kjT_61, 0, 0, 2, 41)
def kjT_62 : List mv_E := [(0, .aload_n 0, 1, 0, 0, 0, 0), (1, .getfield 19, 3, 6, 2, 1, 0), (4, .ifCond .ne 19, 3, 0, 0, 0, 0), (7, .iload_n 1, 1, 0, 0, 0, 0), (8, .aload_n 0, 1, 0, 0, 0, 0), (9, .getfield 9, 3, 6, 0, 4, 0), (12, .getfield 23, 3, 2, 1, 0, 0), (15, .aload_n 0, 1, 0, 0, 0, 0), (16, .getfield 15, 3, 6, 1, 0, 0), (19, .isub, 1, 0, 0, 0, 0), (20, .if_icmp .le 36, 3, 0, 0, 0, 0), (23, .aload_n 0, 1, 0, 0, 0, 0), (24, .aload_n 0, 1, 0, 0, 0, 0), (25, .getfield 19, 3, 6, 2, 1, 0), (28, .ifCond .eq 10, 3, 0, 0, 0, 0), (31, .aload_n 0, 1, 0, 0, 0, 0), (32, .getfield 15, 3, 6, 1, 0, 0), (35, .goto 10, 3, 0, 0, 0, 0), (38, .aload_n 0, 1, 0, 0, 0, 0), (39, .getfield 9, 3, 6, 0, 4, 0), (42, .getfield 23, 3, 2, 1, 0, 0), (45, .putfield 15, 3, 6, 1, 0, 0), (48, .aload_n 0, 1, 0, 0, 0, 0), (49, .iconst 1, 1, 0, 0, 0, 0), (50, .putfield 19, 3, 6, 2, 1, 0), (53, .goto 13, 3, 0, 0, 0, 0), (56, .aload_n 0, 1, 0, 0, 0, 0), (57, .dup, 1, 0, 0, 0, 0), (58, .getfield 15, 3, 6, 1, 0, 0), (61, .iload_n 1, 1, 0, 0, 0, 0), (62, .iadd, 1, 0, 0, 0, 0), (63, .putfield 15, 3, 6, 1, 0, 0), (66, .return_, 1, 0, 0, 0, 0)]
/-- KindJudge$Reader.skip(I)V -/
def kjM_62 : mv_Me := (⟨"KindJudge$Reader", "skip", "(I)V"⟩, prog_8_method_10_code, 2, none, "KindJudge$Reader", kjT_62, 0, 0, 0, 0)
def kjT_63 : List mv_E := [(0, .aload_n 0, 1, 0, 0, 0, 0), (1, .invokespecial 3, 3, 0, 0, 3, 0), (4, .aload_n 0, 1, 0, 0, 0, 0), (5, .sipush 1500, 3, 0, 0, 0, 0), (8, .newarray .boolean, 2, 0, 0, 1, 0), (10, .putfield 11, 3, 7, 2, 4, 0), (13, .aload_n 0, 1, 0, 0, 0, 0), (14, .aload_n 1, 1, 0, 0, 0, 0), (15, .putfield 17, 3, 7, 0, 4, 0), (18, .aload_n 0, 1, 0, 0, 0, 0), (19, .aload_n 2, 1, 0, 0, 0, 0), (20, .putfield 21, 3, 7, 1, 4, 0), (23, .return_, 1, 0, 0, 0, 0)]
/-- KindJudge$Code.<init>(LKindJudge$Bytes;LKindJudge$Layout;)V -/
def kjM_63 : mv_Me := (⟨"KindJudge$Code", "<init>", "(LKindJudge$Bytes;LKindJudge$Layout;)V"⟩, prog_5_method_1_code, 3, none, "KindJudge$Code", kjT_63, 1, 1500, 1, 20)
def kjT_64 : List mv_E := [(0, .aload_n 0, 1, 0, 0, 0, 0), (1, .iload_n 1, 1, 0, 0, 0, 0), (2, .invokevirtual 25, 3, 65, 2, 0, 7), (5, .aload_n 0, 1, 0, 0, 0, 0), (6, .getfield 21, 3, 7, 1, 4, 0), (9, .iload_n 1, 1, 0, 0, 0, 0), (10, .invokevirtual 29, 3, 32, 2, 0, 3), (13, .istore_n 2, 1, 0, 0, 0, 0), (14, .iconst 0, 1, 0, 0, 0, 0), (15, .istore_n 3, 1, 0, 0, 0, 0), (16, .iload_n 3, 1, 0, 0, 0, 0), (17, .iload_n 2, 1, 0, 0, 0, 0), (18, .if_icmp .ge 29, 3, 0, 0, 0, 0), (21, .aload_n 0, 1, 0, 0, 0, 0), (22, .iload_n 1, 1, 0, 0, 0, 0), (23, .iload_n 3, 1, 0, 0, 0, 0), (24, .invokevirtual 35, 3, 66, 3, 0, 7), (27, .ifCond .eq 14, 3, 0, 0, 0, 0), (30, .aload_n 0, 1, 0, 0, 0, 0), (31, .iload_n 1, 1, 0, 0, 0, 0), (32, .iload_n 3, 1, 0, 0, 0, 0), (33, .invokevirtual 39, 3, 71, 3, 0, 7), (36, .ifCond .eq 5, 3, 0, 0, 0, 0), (39, .iload_n 3, 1, 0, 0, 0, 0), (40, .ireturn, 1, 0, 0, 0, 0), (41, .iinc 3 1, 3, 0, 0, 0, 0), (44, .goto (-28), 3, 0, 0, 0, 0), (47, .iconst (-1), 1, 0, 0, 0, 0), (48, .ireturn, 1, 0, 0, 0, 0)]
/-- KindJudge$Code.firstFault(I)I -/
def kjM_64 : mv_Me := (⟨"KindJudge$Code", "firstFault", "(I)I"⟩, prog_5_method_2_code, 4, (some .int), "KindJudge$Code", kjT_64, 0, 0, 5, 115)
def kjT_65 : List mv_E := [(0, .aload_n 0, 1, 0, 0, 0, 0), (1, .getfield 21, 3, 7, 1, 4, 0), (4, .iload_n 1, 1, 0, 0, 0, 0), (5, .invokevirtual 29, 3, 32, 2, 0, 3), (8, .istore_n 2, 1, 0, 0, 0, 0), (9, .iconst 0, 1, 0, 0, 0, 0), (10, .istore_n 3, 1, 0, 0, 0, 0), (11, .iconst 0, 1, 0, 0, 0, 0), (12, .istore 4, 2, 0, 0, 0, 0), (14, .iload 4, 2, 0, 0, 0, 0), (16, .iload_n 2, 1, 0, 0, 0, 0), (17, .if_icmp .ge 70, 3, 0, 0, 0, 0), (20, .aload_n 0, 1, 0, 0, 0, 0), (21, .getfield 21, 3, 7, 1, 4, 0), (24, .iload_n 1, 1, 0, 0, 0, 0), (25, .iload 4, 2, 0, 0, 0, 0), (27, .invokevirtual 42, 3, 33, 3, 0, 3), (30, .istore 5, 2, 0, 0, 0, 0), (32, .iload 5, 2, 0, 0, 0, 0), (34, .ifCond .lt 31, 3, 0, 0, 0, 0), (37, .iload 5, 2, 0, 0, 0, 0), (39, .aload_n 0, 1, 0, 0, 0, 0), (40, .getfield 11, 3, 7, 2, 4, 0), (43, .arraylength, 1, 0, 0, 0, 0), (44, .if_icmp .ge 21, 3, 0, 0, 0, 0), (47, .aload_n 0, 1, 0, 0, 0, 0), (48, .getfield 11, 3, 7, 2, 4, 0), (51, .iload 5, 2, 0, 0, 0, 0), (53, .iload 4, 2, 0, 0, 0, 0), (55, .iload_n 3, 1, 0, 0, 0, 0), (56, .if_icmp .ne 7, 3, 0, 0, 0, 0), (59, .iconst 1, 1, 0, 0, 0, 0), (60, .goto 4, 3, 0, 0, 0, 0), (63, .iconst 0, 1, 0, 0, 0, 0), (64, .bastore, 1, 0, 0, 0, 0), (65, .iload 4, 2, 0, 0, 0, 0), (67, .iload_n 3, 1, 0, 0, 0, 0), (68, .if_icmp .ne 13, 3, 0, 0, 0, 0), (71, .iload_n 3, 1, 0, 0, 0, 0), (72, .aload_n 0, 1, 0, 0, 0, 0), (73, .iload_n 1, 1, 0, 0, 0, 0), (74, .iload 4, 2, 0, 0, 0, 0), (76, .invokevirtual 46, 3, 68, 3, 0, 7), (79, .iadd, 1, 0, 0, 0, 0), (80, .istore_n 3, 1, 0, 0, 0, 0), (81, .iinc 4 1, 3, 0, 0, 0, 0), (84, .goto (-70), 3, 0, 0, 0, 0), (87, .return_, 1, 0, 0, 0, 0)]
/-- KindJudge$Code.markBeginnings(I)V -/
def kjM_65 : mv_Me := (⟨"KindJudge$Code", "markBeginnings", "(I)V"⟩, prog_5_method_3_code, 6, none, "KindJudge$Code", kjT_65, 0, 0, 4, 90)
def kjT_66 : List mv_E := [(0, .aload_n 0, 1, 0, 0, 0, 0), (1, .getfield 21, 3, 7, 1, 4, 0), (4, .iload_n 1, 1, 0, 0, 0, 0), (5, .iload_n 2, 1, 0, 0, 0, 0), (6, .invokevirtual 42, 3, 33, 3, 0, 3), (9, .istore_n 3, 1, 0, 0, 0, 0), (10, .iload_n 3, 1, 0, 0, 0, 0), (11, .ifCond .lt 25, 3, 0, 0, 0, 0), (14, .iload_n 3, 1, 0, 0, 0, 0), (15, .aload_n 0, 1, 0, 0, 0, 0), (16, .getfield 11, 3, 7, 2, 4, 0), (19, .arraylength, 1, 0, 0, 0, 0), (20, .if_icmp .ge 16, 3, 0, 0, 0, 0), (23, .aload_n 0, 1, 0, 0, 0, 0), (24, .getfield 11, 3, 7, 2, 4, 0), (27, .iload_n 3, 1, 0, 0, 0, 0), (28, .baload, 1, 0, 0, 0, 0), (29, .ifCond .eq 7, 3, 0, 0, 0, 0), (32, .iconst 1, 1, 0, 0, 0, 0), (33, .goto 4, 3, 0, 0, 0, 0), (36, .iconst 0, 1, 0, 0, 0, 0), (37, .ireturn, 1, 0, 0, 0, 0)]
/-- KindJudge$Code.begins(II)Z -/
def kjM_66 : mv_Me := (⟨"KindJudge$Code", "begins", "(II)Z"⟩, prog_5_method_4_code, 4, (some .boolean), "KindJudge$Code", kjT_66, 0, 0, 2, 43)
def kjT_67 : List mv_E := [(0, .aload_n 0, 1, 0, 0, 0, 0), (1, .getfield 17, 3, 7, 0, 4, 0), (4, .aload_n 0, 1, 0, 0, 0, 0), (5, .getfield 21, 3, 7, 1, 4, 0), (8, .iload_n 1, 1, 0, 0, 0, 0), (9, .iload_n 2, 1, 0, 0, 0, 0), (10, .iload_n 3, 1, 0, 0, 0, 0), (11, .iadd, 1, 0, 0, 0, 0), (12, .invokevirtual 42, 3, 33, 3, 0, 3), (15, .invokevirtual 49, 3, 22, 2, 0, 2), (18, .ireturn, 1, 0, 0, 0, 0)]
/-- KindJudge$Code.byteOf(III)I -/
def kjM_67 : mv_Me := (⟨"KindJudge$Code", "byteOf", "(III)I"⟩, prog_5_method_5_code, 4, (some .int), "KindJudge$Code", kjT_67, 0, 0, 2, 43)
def kjT_68 : List mv_E := [(0, .aload_n 0, 1, 0, 0, 0, 0), (1, .iload_n 1, 1, 0, 0, 0, 0), (2, .iload_n 2, 1, 0, 0, 0, 0), (3, .iconst 0, 1, 0, 0, 0, 0), (4, .invokevirtual 52, 3, 67, 4, 0, 7), (7, .istore_n 3, 1, 0, 0, 0, 0), (8, .iload_n 3, 1, 0, 0, 0, 0), (9, .ifCond .lt 11, 3, 0, 0, 0, 0), (12, .iload_n 3, 1, 0, 0, 0, 0), (13, .getstatic 56, 3, 0, 0, 0, 0), (16, .arraylength, 1, 0, 0, 0, 0), (17, .if_icmp .lt 5, 3, 0, 0, 0, 0), (20, .iconst 0, 1, 0, 0, 0, 0), (21, .ireturn, 1, 0, 0, 0, 0), (22, .getstatic 56, 3, 0, 0, 0, 0), (25, .iload_n 3, 1, 0, 0, 0, 0), (26, .iaload, 1, 0, 0, 0, 0), (27, .istore 4, 2, 0, 0, 0, 0), (29, .iload_n 3, 1, 0, 0, 0, 0), (30, .bipush 53, 2, 0, 0, 0, 0), (32, .if_icmp .ne 19, 3, 0, 0, 0, 0), (35, .iload 4, 2, 0, 0, 0, 0), (37, .iconst 0, 1, 0, 0, 0, 0), (38, .aload_n 0, 1, 0, 0, 0, 0), (39, .iload_n 1, 1, 0, 0, 0, 0), (40, .iload_n 2, 1, 0, 0, 0, 0), (41, .iconst 1, 1, 0, 0, 0, 0), (42, .invokevirtual 52, 3, 67, 4, 0, 7), (45, .invokestatic 60, 3, 0, 0, 4, 0), (48, .iadd, 1, 0, 0, 0, 0), (49, .istore 4, 2, 0, 0, 0, 0), (51, .iload 4, 2, 0, 0, 0, 0), (53, .aload_n 0, 1, 0, 0, 0, 0), (54, .getfield 21, 3, 7, 1, 4, 0), (57, .iload_n 1, 1, 0, 0, 0, 0), (58, .invokevirtual 29, 3, 32, 2, 0, 3), (61, .iload_n 2, 1, 0, 0, 0, 0), (62, .isub, 1, 0, 0, 0, 0), (63, .if_icmp .gt 8, 3, 0, 0, 0, 0), (66, .iload 4, 2, 0, 0, 0, 0), (68, .goto 4, 3, 0, 0, 0, 0), (71, .iconst 0, 1, 0, 0, 0, 0), (72, .ireturn, 1, 0, 0, 0, 0)]
/-- KindJudge$Code.sizeOf(II)I -/
def kjM_68 : mv_Me := (⟨"KindJudge$Code", "sizeOf", "(II)I"⟩, prog_5_method_6_code, 5, (some .int), "KindJudge$Code", kjT_68, 0, 0, 3, 66)
def kjT_69 : List mv_E := [(0, .iload_n 1, 1, 0, 0, 0, 0), (1, .ifCond .lt 11, 3, 0, 0, 0, 0), (4, .iload_n 1, 1, 0, 0, 0, 0), (5, .getstatic 65, 3, 1, 0, 0, 0), (8, .arraylength, 1, 0, 0, 0, 0), (9, .if_icmp .lt 5, 3, 0, 0, 0, 0), (12, .iconst 0, 1, 0, 0, 0, 0), (13, .ireturn, 1, 0, 0, 0, 0), (14, .iload_n 1, 1, 0, 0, 0, 0), (15, .bipush 47, 2, 0, 0, 0, 0), (17, .if_icmp .ne 15, 3, 0, 0, 0, 0), (20, .aload_n 0, 1, 0, 0, 0, 0), (21, .getfield 21, 3, 7, 1, 4, 0), (24, .getfield 68, 3, 3, 2, 4, 0), (27, .iload_n 2, 1, 0, 0, 0, 0), (28, .invokevirtual 72, 3, 50, 2, 0, 5), (31, .ireturn, 1, 0, 0, 0, 0), (32, .iload_n 1, 1, 0, 0, 0, 0), (33, .bipush 48, 2, 0, 0, 0, 0), (35, .if_icmp .ne 19, 3, 0, 0, 0, 0), (38, .iconst 1, 1, 0, 0, 0, 0), (39, .aload_n 0, 1, 0, 0, 0, 0), (40, .getfield 21, 3, 7, 1, 4, 0), (43, .getfield 77, 3, 3, 1, 4, 0), (46, .iload_n 2, 1, 0, 0, 0, 0), (47, .invokevirtual 72, 3, 50, 2, 0, 5), (50, .iadd, 1, 0, 0, 0, 0), (51, .goto 8, 3, 0, 0, 0, 0), (54, .getstatic 65, 3, 1, 0, 0, 0), (57, .iload_n 1, 1, 0, 0, 0, 0), (58, .iaload, 1, 0, 0, 0, 0), (59, .ireturn, 1, 0, 0, 0, 0)]
/-- KindJudge$Code.takes(II)I -/
def kjM_69 : mv_Me := (⟨"KindJudge$Code", "takes", "(II)I"⟩, prog_5_method_7_code, 3, (some .int), "KindJudge$Code", kjT_69, 0, 0, 1, 21)
def kjT_70 : List mv_E := [(0, .iload_n 1, 1, 0, 0, 0, 0), (1, .ifCond .lt 11, 3, 0, 0, 0, 0), (4, .iload_n 1, 1, 0, 0, 0, 0), (5, .getstatic 80, 3, 2, 0, 0, 0), (8, .arraylength, 1, 0, 0, 0, 0), (9, .if_icmp .lt 5, 3, 0, 0, 0, 0), (12, .iconst 0, 1, 0, 0, 0, 0), (13, .ireturn, 1, 0, 0, 0, 0), (14, .iload_n 1, 1, 0, 0, 0, 0), (15, .bipush 47, 2, 0, 0, 0, 0), (17, .if_icmp .ne 23, 3, 0, 0, 0, 0), (20, .aload_n 0, 1, 0, 0, 0, 0), (21, .getfield 21, 3, 7, 1, 4, 0), (24, .getfield 68, 3, 3, 2, 4, 0), (27, .iload_n 2, 1, 0, 0, 0, 0), (28, .invokevirtual 83, 3, 52, 2, 0, 5), (31, .ifCond .ne 7, 3, 0, 0, 0, 0), (34, .iconst 0, 1, 0, 0, 0, 0), (35, .goto 4, 3, 0, 0, 0, 0), (38, .iconst 1, 1, 0, 0, 0, 0), (39, .ireturn, 1, 0, 0, 0, 0), (40, .iload_n 1, 1, 0, 0, 0, 0), (41, .bipush 48, 2, 0, 0, 0, 0), (43, .if_icmp .ne 23, 3, 0, 0, 0, 0), (46, .aload_n 0, 1, 0, 0, 0, 0), (47, .getfield 21, 3, 7, 1, 4, 0), (50, .getfield 77, 3, 3, 1, 4, 0), (53, .iload_n 2, 1, 0, 0, 0, 0), (54, .invokevirtual 83, 3, 52, 2, 0, 5), (57, .ifCond .ne 7, 3, 0, 0, 0, 0), (60, .iconst 0, 1, 0, 0, 0, 0), (61, .goto 4, 3, 0, 0, 0, 0), (64, .iconst 1, 1, 0, 0, 0, 0), (65, .ireturn, 1, 0, 0, 0, 0), (66, .getstatic 80, 3, 2, 0, 0, 0), (69, .iload_n 1, 1, 0, 0, 0, 0), (70, .iaload, 1, 0, 0, 0, 0), (71, .ireturn, 1, 0, 0, 0, 0)]
/-- KindJudge$Code.puts(II)I -/
def kjM_70 : mv_Me := (⟨"KindJudge$Code", "puts", "(II)I"⟩, prog_5_method_8_code, 3, (some .int), "KindJudge$Code", kjT_70, 0, 0, 1, 21)
def kjT_71 : List mv_E := [(0, .aload_n 0, 1, 0, 0, 0, 0), (1, .iload_n 1, 1, 0, 0, 0, 0), (2, .iload_n 2, 1, 0, 0, 0, 0), (3, .invokevirtual 46, 3, 68, 3, 0, 7), (6, .istore_n 3, 1, 0, 0, 0, 0), (7, .iload_n 3, 1, 0, 0, 0, 0), (8, .ifCond .eq 12, 3, 0, 0, 0, 0), (11, .aload_n 0, 1, 0, 0, 0, 0), (12, .iload_n 1, 1, 0, 0, 0, 0), (13, .iload_n 2, 1, 0, 0, 0, 0), (14, .invokevirtual 86, 3, 72, 3, 0, 7), (17, .ifCond .eq 5, 3, 0, 0, 0, 0), (20, .iconst 1, 1, 0, 0, 0, 0), (21, .ireturn, 1, 0, 0, 0, 0), (22, .aload_n 0, 1, 0, 0, 0, 0), (23, .iload_n 1, 1, 0, 0, 0, 0), (24, .iload_n 2, 1, 0, 0, 0, 0), (25, .invokevirtual 89, 3, 73, 3, 0, 7), (28, .istore 4, 2, 0, 0, 0, 0), (30, .iconst 0, 1, 0, 0, 0, 0), (31, .istore 5, 2, 0, 0, 0, 0), (33, .iload 5, 2, 0, 0, 0, 0), (35, .iload 4, 2, 0, 0, 0, 0), (37, .if_icmp .ge 27, 3, 0, 0, 0, 0), (40, .aload_n 0, 1, 0, 0, 0, 0), (41, .iload_n 1, 1, 0, 0, 0, 0), (42, .aload_n 0, 1, 0, 0, 0, 0), (43, .iload_n 1, 1, 0, 0, 0, 0), (44, .iload_n 2, 1, 0, 0, 0, 0), (45, .iload 5, 2, 0, 0, 0, 0), (47, .invokevirtual 92, 3, 74, 4, 0, 7), (50, .invokevirtual 35, 3, 66, 3, 0, 7), (53, .ifCond .ne 5, 3, 0, 0, 0, 0), (56, .iconst 1, 1, 0, 0, 0, 0), (57, .ireturn, 1, 0, 0, 0, 0), (58, .iinc 5 1, 3, 0, 0, 0, 0), (61, .goto (-28), 3, 0, 0, 0, 0), (64, .iload_n 2, 1, 0, 0, 0, 0), (65, .iload_n 3, 1, 0, 0, 0, 0), (66, .iadd, 1, 0, 0, 0, 0), (67, .aload_n 0, 1, 0, 0, 0, 0), (68, .getfield 21, 3, 7, 1, 4, 0), (71, .iload_n 1, 1, 0, 0, 0, 0), (72, .invokevirtual 29, 3, 32, 2, 0, 3), (75, .if_icmp .ne 16, 3, 0, 0, 0, 0), (78, .aload_n 0, 1, 0, 0, 0, 0), (79, .iload_n 1, 1, 0, 0, 0, 0), (80, .iload_n 2, 1, 0, 0, 0, 0), (81, .invokevirtual 95, 3, 75, 3, 0, 7), (84, .ifCond .eq 7, 3, 0, 0, 0, 0), (87, .iconst 1, 1, 0, 0, 0, 0), (88, .goto 4, 3, 0, 0, 0, 0), (91, .iconst 0, 1, 0, 0, 0, 0), (92, .ireturn, 1, 0, 0, 0, 0)]
/-- KindJudge$Code.isFaulty(II)Z -/
def kjM_71 : mv_Me := (⟨"KindJudge$Code", "isFaulty", "(II)Z"⟩, prog_5_method_9_code, 6, (some .boolean), "KindJudge$Code", kjT_71, 0, 0, 4, 90)
def kjT_72 : List mv_E := [(0, .aload_n 0, 1, 0, 0, 0, 0), (1, .iload_n 1, 1, 0, 0, 0, 0), (2, .iload_n 2, 1, 0, 0, 0, 0), (3, .iconst 1, 1, 0, 0, 0, 0), (4, .invokevirtual 52, 3, 67, 4, 0, 7), (7, .istore_n 3, 1, 0, 0, 0, 0), (8, .aload_n 0, 1, 0, 0, 0, 0), (9, .iload_n 1, 1, 0, 0, 0, 0), (10, .iload_n 2, 1, 0, 0, 0, 0), (11, .iconst 0, 1, 0, 0, 0, 0), (12, .invokevirtual 52, 3, 67, 4, 0, 7), (15, .lookupswitch 219 #[(3, 97), (4, 97), (20, 97), (38, 115), (39, 135), (40, 135), (45, 115), (46, 115), (47, 162), (48, 182), (53, 202)], 97, 0, 0, 0, 0), (112, .iload_n 3, 1, 0, 0, 0, 0), (113, .aload_n 0, 1, 0, 0, 0, 0), (114, .getfield 21, 3, 7, 1, 4, 0), (117, .iload_n 1, 1, 0, 0, 0, 0), (118, .invokevirtual 98, 3, 30, 2, 0, 3), (121, .if_icmp .lt 7, 3, 0, 0, 0, 0), (124, .iconst 1, 1, 0, 0, 0, 0), (125, .goto 4, 3, 0, 0, 0, 0), (128, .iconst 0, 1, 0, 0, 0, 0), (129, .ireturn, 1, 0, 0, 0, 0), (130, .aload_n 0, 1, 0, 0, 0, 0), (131, .getfield 21, 3, 7, 1, 4, 0), (134, .getfield 101, 3, 3, 0, 4, 0), (137, .iload_n 3, 1, 0, 0, 0, 0), (138, .invokevirtual 105, 3, 37, 2, 0, 4), (141, .ifCond .ne 7, 3, 0, 0, 0, 0), (144, .iconst 1, 1, 0, 0, 0, 0), (145, .goto 4, 3, 0, 0, 0, 0), (148, .iconst 0, 1, 0, 0, 0, 0), (149, .ireturn, 1, 0, 0, 0, 0), (150, .aload_n 0, 1, 0, 0, 0, 0), (151, .iload_n 1, 1, 0, 0, 0, 0), (152, .iload_n 2, 1, 0, 0, 0, 0), (153, .iconst 2, 1, 0, 0, 0, 0), (154, .invokevirtual 52, 3, 67, 4, 0, 7), (157, .aload_n 0, 1, 0, 0, 0, 0), (158, .getfield 21, 3, 7, 1, 4, 0), (161, .getfield 101, 3, 3, 0, 4, 0), (164, .iload_n 3, 1, 0, 0, 0, 0), (165, .invokevirtual 111, 3, 39, 2, 0, 4), (168, .if_icmp .lt 7, 3, 0, 0, 0, 0), (171, .iconst 1, 1, 0, 0, 0, 0), (172, .goto 4, 3, 0, 0, 0, 0), (175, .iconst 0, 1, 0, 0, 0, 0), (176, .ireturn, 1, 0, 0, 0, 0), (177, .aload_n 0, 1, 0, 0, 0, 0), (178, .getfield 21, 3, 7, 1, 4, 0), (181, .getfield 68, 3, 3, 2, 4, 0), (184, .iload_n 3, 1, 0, 0, 0, 0), (185, .invokevirtual 114, 3, 49, 2, 0, 5), (188, .ifCond .ne 7, 3, 0, 0, 0, 0), (191, .iconst 1, 1, 0, 0, 0, 0), (192, .goto 4, 3, 0, 0, 0, 0), (195, .iconst 0, 1, 0, 0, 0, 0), (196, .ireturn, 1, 0, 0, 0, 0), (197, .aload_n 0, 1, 0, 0, 0, 0), (198, .getfield 21, 3, 7, 1, 4, 0), (201, .getfield 77, 3, 3, 1, 4, 0), (204, .iload_n 3, 1, 0, 0, 0, 0), (205, .invokevirtual 114, 3, 49, 2, 0, 5), (208, .ifCond .ne 7, 3, 0, 0, 0, 0), (211, .iconst 1, 1, 0, 0, 0, 0), (212, .goto 4, 3, 0, 0, 0, 0), (215, .iconst 0, 1, 0, 0, 0, 0), (216, .ireturn, 1, 0, 0, 0, 0), (217, .iload_n 3, 1, 0, 0, 0, 0), (218, .iconst 1, 1, 0, 0, 0, 0), (219, .if_icmp .lt 9, 3, 0, 0, 0, 0), (222, .iload_n 3, 1, 0, 0, 0, 0), (223, .bipush 8, 2, 0, 0, 0, 0), (225, .if_icmp .le 7, 3, 0, 0, 0, 0), (228, .iconst 1, 1, 0, 0, 0, 0), (229, .goto 4, 3, 0, 0, 0, 0), (232, .iconst 0, 1, 0, 0, 0, 0), (233, .ireturn, 1, 0, 0, 0, 0), (234, .iconst 0, 1, 0, 0, 0, 0), (235, .ireturn, 1, 0, 0, 0, 0)]
/-- KindJudge$Code.namesNothing(II)Z -/
def kjM_72 : mv_Me := (⟨"KindJudge$Code", "namesNothing", "(II)Z"⟩, prog_5_method_10_code, 4, (some .boolean), "KindJudge$Code", kjT_72, 0, 0, 3, 66)
def kjT_73 : List mv_E := [(0, .aload_n 0, 1, 0, 0, 0, 0), (1, .iload_n 1, 1, 0, 0, 0, 0), (2, .iload_n 2, 1, 0, 0, 0, 0), (3, .iconst 0, 1, 0, 0, 0, 0), (4, .invokevirtual 52, 3, 67, 4, 0, 7), (7, .istore_n 3, 1, 0, 0, 0, 0), (8, .iload_n 3, 1, 0, 0, 0, 0), (9, .bipush 53, 2, 0, 0, 0, 0), (11, .if_icmp .ne 13, 3, 0, 0, 0, 0), (14, .aload_n 0, 1, 0, 0, 0, 0), (15, .iload_n 1, 1, 0, 0, 0, 0), (16, .iload_n 2, 1, 0, 0, 0, 0), (17, .iconst 1, 1, 0, 0, 0, 0), (18, .invokevirtual 52, 3, 67, 4, 0, 7), (21, .iconst 1, 1, 0, 0, 0, 0), (22, .iadd, 1, 0, 0, 0, 0), (23, .ireturn, 1, 0, 0, 0, 0), (24, .iload_n 3, 1, 0, 0, 0, 0), (25, .bipush 21, 2, 0, 0, 0, 0), (27, .if_icmp .lt 13, 3, 0, 0, 0, 0), (30, .iload_n 3, 1, 0, 0, 0, 0), (31, .bipush 37, 2, 0, 0, 0, 0), (33, .if_icmp .gt 7, 3, 0, 0, 0, 0), (36, .iconst 1, 1, 0, 0, 0, 0), (37, .goto 4, 3, 0, 0, 0, 0), (40, .iconst 0, 1, 0, 0, 0, 0), (41, .ireturn, 1, 0, 0, 0, 0)]
/-- KindJudge$Code.targetsOf(II)I -/
def kjM_73 : mv_Me := (⟨"KindJudge$Code", "targetsOf", "(II)I"⟩, prog_5_method_11_code, 4, (some .int), "KindJudge$Code", kjT_73, 0, 0, 3, 66)
def kjT_74 : List mv_E := [(0, .aload_n 0, 1, 0, 0, 0, 0), (1, .iload_n 1, 1, 0, 0, 0, 0), (2, .iload_n 2, 1, 0, 0, 0, 0), (3, .aload_n 0, 1, 0, 0, 0, 0), (4, .iload_n 1, 1, 0, 0, 0, 0), (5, .iload_n 2, 1, 0, 0, 0, 0), (6, .iconst 0, 1, 0, 0, 0, 0), (7, .invokevirtual 52, 3, 67, 4, 0, 7), (10, .bipush 53, 2, 0, 0, 0, 0), (12, .if_icmp .ne 9, 3, 0, 0, 0, 0), (15, .iload_n 3, 1, 0, 0, 0, 0), (16, .iconst 2, 1, 0, 0, 0, 0), (17, .iadd, 1, 0, 0, 0, 0), (18, .goto 6, 3, 0, 0, 0, 0), (21, .iload_n 3, 1, 0, 0, 0, 0), (22, .iconst 1, 1, 0, 0, 0, 0), (23, .iadd, 1, 0, 0, 0, 0), (24, .invokevirtual 52, 3, 67, 4, 0, 7), (27, .ireturn, 1, 0, 0, 0, 0)]
/-- KindJudge$Code.target(III)I -/
def kjM_74 : mv_Me := (⟨"KindJudge$Code", "target", "(III)I"⟩, prog_5_method_12_code, 4, (some .int), "KindJudge$Code", kjT_74, 0, 0, 3, 66)
def kjT_75 : List mv_E := [(0, .aload_n 0, 1, 0, 0, 0, 0), (1, .iload_n 1, 1, 0, 0, 0, 0), (2, .iload_n 2, 1, 0, 0, 0, 0), (3, .iconst 0, 1, 0, 0, 0, 0), (4, .invokevirtual 52, 3, 67, 4, 0, 7), (7, .istore_n 3, 1, 0, 0, 0, 0), (8, .iload_n 3, 1, 0, 0, 0, 0), (9, .bipush 21, 2, 0, 0, 0, 0), (11, .if_icmp .eq 25, 3, 0, 0, 0, 0), (14, .iload_n 3, 1, 0, 0, 0, 0), (15, .bipush 49, 2, 0, 0, 0, 0), (17, .if_icmp .eq 19, 3, 0, 0, 0, 0), (20, .iload_n 3, 1, 0, 0, 0, 0), (21, .bipush 50, 2, 0, 0, 0, 0), (23, .if_icmp .eq 13, 3, 0, 0, 0, 0), (26, .iload_n 3, 1, 0, 0, 0, 0), (27, .bipush 53, 2, 0, 0, 0, 0), (29, .if_icmp .eq 7, 3, 0, 0, 0, 0), (32, .iconst 1, 1, 0, 0, 0, 0), (33, .goto 4, 3, 0, 0, 0, 0), (36, .iconst 0, 1, 0, 0, 0, 0), (37, .ireturn, 1, 0, 0, 0, 0)]
/-- KindJudge$Code.goesOnBehind(II)Z -/
def kjM_75 : mv_Me := (⟨"KindJudge$Code", "goesOnBehind", "(II)Z"⟩, prog_5_method_13_code, 4, (some .boolean), "KindJudge$Code", kjT_75, 0, 0, 3, 66)
def kjT_76 : List mv_E := [(0, .aload_n 0, 1, 0, 0, 0, 0), (1, .iload_n 1, 1, 0, 0, 0, 0), (2, .iload_n 2, 1, 0, 0, 0, 0), (3, .invokevirtual 89, 3, 73, 3, 0, 7), (6, .istore 4, 2, 0, 0, 0, 0), (8, .iconst 0, 1, 0, 0, 0, 0), (9, .istore 5, 2, 0, 0, 0, 0), (11, .iload 5, 2, 0, 0, 0, 0), (13, .iload 4, 2, 0, 0, 0, 0), (15, .if_icmp .ge 23, 3, 0, 0, 0, 0), (18, .aload_n 0, 1, 0, 0, 0, 0), (19, .iload_n 1, 1, 0, 0, 0, 0), (20, .iload_n 2, 1, 0, 0, 0, 0), (21, .iload 5, 2, 0, 0, 0, 0), (23, .invokevirtual 92, 3, 74, 4, 0, 7), (26, .iload_n 3, 1, 0, 0, 0, 0), (27, .if_icmp .ne 5, 3, 0, 0, 0, 0), (30, .iconst 1, 1, 0, 0, 0, 0), (31, .ireturn, 1, 0, 0, 0, 0), (32, .iinc 5 1, 3, 0, 0, 0, 0), (35, .goto (-24), 3, 0, 0, 0, 0), (38, .aload_n 0, 1, 0, 0, 0, 0), (39, .iload_n 1, 1, 0, 0, 0, 0), (40, .iload_n 2, 1, 0, 0, 0, 0), (41, .invokevirtual 95, 3, 75, 3, 0, 7), (44, .ifCond .eq 19, 3, 0, 0, 0, 0), (47, .iload_n 2, 1, 0, 0, 0, 0), (48, .aload_n 0, 1, 0, 0, 0, 0), (49, .iload_n 1, 1, 0, 0, 0, 0), (50, .iload_n 2, 1, 0, 0, 0, 0), (51, .invokevirtual 46, 3, 68, 3, 0, 7), (54, .iadd, 1, 0, 0, 0, 0), (55, .iload_n 3, 1, 0, 0, 0, 0), (56, .if_icmp .ne 7, 3, 0, 0, 0, 0), (59, .iconst 1, 1, 0, 0, 0, 0), (60, .goto 4, 3, 0, 0, 0, 0), (63, .iconst 0, 1, 0, 0, 0, 0), (64, .ireturn, 1, 0, 0, 0, 0)]
/-- KindJudge$Code.leadsTo(III)Z -/
def kjM_76 : mv_Me := (⟨"KindJudge$Code", "leadsTo", "(III)Z"⟩, prog_5_method_14_code, 6, (some .boolean), "KindJudge$Code", kjT_76, 0, 0, 4, 90)
def kjT_77 : List mv_E := [(0, .aload_n 0, 1, 0, 0, 0, 0), (1, .invokespecial 3, 3, 0, 0, 3, 0), (4, .aload_n 0, 1, 0, 0, 0, 0), (5, .sipush 1500, 3, 0, 0, 0, 0), (8, .newarray .byte, 2, 0, 0, 2, 0), (10, .putfield 11, 3, 8, 2, 4, 0), (13, .aload_n 0, 1, 0, 0, 0, 0), (14, .sipush 1500, 3, 0, 0, 0, 0), (17, .newarray .long, 2, 0, 0, 3, 0), (19, .putfield 17, 3, 8, 3, 4, 0), (22, .aload_n 0, 1, 0, 0, 0, 0), (23, .bipush 120, 2, 0, 0, 0, 0), (25, .newarray .boolean, 2, 0, 0, 1, 0), (27, .putfield 23, 3, 8, 4, 4, 0), (30, .aload_n 0, 1, 0, 0, 0, 0), (31, .aload_n 1, 1, 0, 0, 0, 0), (32, .putfield 27, 3, 8, 0, 4, 0), (35, .aload_n 0, 1, 0, 0, 0, 0), (36, .aload_n 2, 1, 0, 0, 0, 0), (37, .putfield 31, 3, 8, 1, 4, 0), (40, .return_, 1, 0, 0, 0, 0)]
/-- KindJudge$Flow.<init>(LKindJudge$Layout;LKindJudge$Code;)V -/
def kjM_77 : mv_Me := (⟨"KindJudge$Flow", "<init>", "(LKindJudge$Layout;LKindJudge$Code;)V"⟩, prog_6_method_1_code, 3, none, "KindJudge$Flow", kjT_77, 3, 3120, 1, 20)
def kjT_78 : List mv_E := [(0, .aload_n 0, 1, 0, 0, 0, 0), (1, .getfield 27, 3, 8, 0, 4, 0), (4, .iload_n 1, 1, 0, 0, 0, 0), (5, .iload_n 2, 1, 0, 0, 0, 0), (6, .invokevirtual 35, 3, 33, 3, 0, 3), (9, .istore_n 3, 1, 0, 0, 0, 0), (10, .iload_n 3, 1, 0, 0, 0, 0), (11, .ifCond .lt 21, 3, 0, 0, 0, 0), (14, .iload_n 3, 1, 0, 0, 0, 0), (15, .aload_n 0, 1, 0, 0, 0, 0), (16, .getfield 11, 3, 8, 2, 4, 0), (19, .arraylength, 1, 0, 0, 0, 0), (20, .if_icmp .ge 12, 3, 0, 0, 0, 0), (23, .aload_n 0, 1, 0, 0, 0, 0), (24, .getfield 11, 3, 8, 2, 4, 0), (27, .iload_n 3, 1, 0, 0, 0, 0), (28, .baload, 1, 0, 0, 0, 0), (29, .goto 4, 3, 0, 0, 0, 0), (32, .iconst (-1), 1, 0, 0, 0, 0), (33, .ireturn, 1, 0, 0, 0, 0)]
/-- KindJudge$Flow.heightAhead(II)I -/
def kjM_78 : mv_Me := (⟨"KindJudge$Flow", "heightAhead", "(II)I"⟩, prog_6_method_2_code, 4, (some .int), "KindJudge$Flow", kjT_78, 0, 0, 2, 43)
def kjT_79 : List mv_E := [(0, .aload_n 0, 1, 0, 0, 0, 0), (1, .iload_n 1, 1, 0, 0, 0, 0), (2, .iload_n 2, 1, 0, 0, 0, 0), (3, .invokevirtual 39, 3, 86, 3, 0, 8), (6, .aload_n 0, 1, 0, 0, 0, 0), (7, .getfield 43, 3, 8, 10, 0, 0), (10, .ireturn, 1, 0, 0, 0, 0)]
/-- KindJudge$Flow.heightBehind(II)I -/
def kjM_79 : mv_Me := (⟨"KindJudge$Flow", "heightBehind", "(II)I"⟩, prog_6_method_3_code, 3, (some .int), "KindJudge$Flow", kjT_79, 0, 0, 4, 88)
def kjT_80 : List mv_E := [(0, .aload_n 0, 1, 0, 0, 0, 0), (1, .iload_n 1, 1, 0, 0, 0, 0), (2, .iload_n 2, 1, 0, 0, 0, 0), (3, .invokevirtual 47, 3, 81, 3, 0, 8), (6, .iload_n 3, 1, 0, 0, 0, 0), (7, .invokestatic 51, 3, 98, 2, 1, 0), (10, .ireturn, 1, 0, 0, 0, 0)]
/-- KindJudge$Flow.kindAhead(III)I -/
def kjM_80 : mv_Me := (⟨"KindJudge$Flow", "kindAhead", "(III)I"⟩, prog_6_method_4_code, 4, (some .int), "KindJudge$Flow", kjT_80, 0, 0, 3, 66)
def kjT_81 : List mv_E := [(0, .aload_n 0, 1, 0, 0, 0, 0), (1, .getfield 27, 3, 8, 0, 4, 0), (4, .iload_n 1, 1, 0, 0, 0, 0), (5, .iload_n 2, 1, 0, 0, 0, 0), (6, .invokevirtual 35, 3, 33, 3, 0, 3), (9, .istore_n 3, 1, 0, 0, 0, 0), (10, .iload_n 3, 1, 0, 0, 0, 0), (11, .ifCond .lt 21, 3, 0, 0, 0, 0), (14, .iload_n 3, 1, 0, 0, 0, 0), (15, .aload_n 0, 1, 0, 0, 0, 0), (16, .getfield 17, 3, 8, 3, 4, 0), (19, .arraylength, 1, 0, 0, 0, 0), (20, .if_icmp .ge 12, 3, 0, 0, 0, 0), (23, .aload_n 0, 1, 0, 0, 0, 0), (24, .getfield 17, 3, 8, 3, 4, 0), (27, .iload_n 3, 1, 0, 0, 0, 0), (28, .laload, 1, 0, 0, 0, 0), (29, .goto 4, 3, 0, 0, 0, 0), (32, .lconst 0, 1, 0, 0, 0, 0), (33, .lreturn, 1, 0, 0, 0, 0)]
/-- KindJudge$Flow.frameAhead(II)J -/
def kjM_81 : mv_Me := (⟨"KindJudge$Flow", "frameAhead", "(II)J"⟩, prog_6_method_5_code, 4, (some .long), "KindJudge$Flow", kjT_81, 0, 0, 2, 43)
def kjT_82 : List mv_E := [(0, .aload_n 0, 1, 0, 0, 0, 0), (1, .getfield 27, 3, 8, 0, 4, 0), (4, .iload_n 1, 1, 0, 0, 0, 0), (5, .invokevirtual 55, 3, 32, 2, 0, 3), (8, .aload_n 0, 1, 0, 0, 0, 0), (9, .getfield 23, 3, 8, 4, 4, 0), (12, .arraylength, 1, 0, 0, 0, 0), (13, .invokestatic 59, 3, 0, 0, 5, 0), (16, .istore_n 2, 1, 0, 0, 0, 0), (17, .iconst 0, 1, 0, 0, 0, 0), (18, .istore_n 3, 1, 0, 0, 0, 0), (19, .iload_n 3, 1, 0, 0, 0, 0), (20, .iload_n 2, 1, 0, 0, 0, 0), (21, .if_icmp .ge 15, 3, 0, 0, 0, 0), (24, .aload_n 0, 1, 0, 0, 0, 0), (25, .iload_n 1, 1, 0, 0, 0, 0), (26, .iload_n 3, 1, 0, 0, 0, 0), (27, .invokevirtual 64, 3, 84, 3, 0, 8), (30, .iinc 3 1, 3, 0, 0, 0, 0), (33, .goto (-14), 3, 0, 0, 0, 0), (36, .aload_n 0, 1, 0, 0, 0, 0), (37, .iload_n 1, 1, 0, 0, 0, 0), (38, .iconst 0, 1, 0, 0, 0, 0), (39, .iconst 0, 1, 0, 0, 0, 0), (40, .aload_n 0, 1, 0, 0, 0, 0), (41, .iload_n 1, 1, 0, 0, 0, 0), (42, .invokevirtual 67, 3, 85, 2, 0, 8), (45, .invokevirtual 71, 3, 88, 5, 0, 8), (48, .iconst 1, 1, 0, 0, 0, 0), (49, .istore_n 3, 1, 0, 0, 0, 0), (50, .iconst 0, 1, 0, 0, 0, 0), (51, .istore 4, 2, 0, 0, 0, 0), (53, .iload_n 3, 1, 0, 0, 0, 0), (54, .ifCond .eq 60, 3, 0, 0, 0, 0), (57, .iload 4, 2, 0, 0, 0, 0), (59, .ldc 75, 2, 1000000, 0, 0, 0), (61, .if_icmp .ge 53, 3, 0, 0, 0, 0), (64, .iconst 0, 1, 0, 0, 0, 0), (65, .istore_n 3, 1, 0, 0, 0, 0), (66, .iconst 0, 1, 0, 0, 0, 0), (67, .istore 5, 2, 0, 0, 0, 0), (69, .iload 5, 2, 0, 0, 0, 0), (71, .iload_n 2, 1, 0, 0, 0, 0), (72, .if_icmp .ge 36, 3, 0, 0, 0, 0), (75, .aload_n 0, 1, 0, 0, 0, 0), (76, .getfield 23, 3, 8, 4, 4, 0), (79, .iload 5, 2, 0, 0, 0, 0), (81, .baload, 1, 0, 0, 0, 0), (82, .ifCond .eq 20, 3, 0, 0, 0, 0), (85, .aload_n 0, 1, 0, 0, 0, 0), (86, .getfield 23, 3, 8, 4, 4, 0), (89, .iload 5, 2, 0, 0, 0, 0), (91, .iconst 0, 1, 0, 0, 0, 0), (92, .bastore, 1, 0, 0, 0, 0), (93, .iconst 1, 1, 0, 0, 0, 0), (94, .istore_n 3, 1, 0, 0, 0, 0), (95, .aload_n 0, 1, 0, 0, 0, 0), (96, .iload_n 1, 1, 0, 0, 0, 0), (97, .iload 5, 2, 0, 0, 0, 0), (99, .invokevirtual 76, 3, 87, 3, 0, 8), (102, .iinc 5 1, 3, 0, 0, 0, 0), (105, .goto (-36), 3, 0, 0, 0, 0), (108, .iinc 4 1, 3, 0, 0, 0, 0), (111, .goto (-58), 3, 0, 0, 0, 0), (114, .return_, 1, 0, 0, 0, 0)]
/-- KindJudge$Flow.settle(I)V -/
def kjM_82 : mv_Me := (⟨"KindJudge$Flow", "settle", "(I)V"⟩, prog_6_method_6_code, 6, none, "KindJudge$Flow", kjT_82, 0, 0, 5, 128)
def kjT_83 : List mv_E := [(0, .aload_n 0, 1, 0, 0, 0, 0), (1, .getfield 27, 3, 8, 0, 4, 0), (4, .iload_n 1, 1, 0, 0, 0, 0), (5, .invokevirtual 55, 3, 32, 2, 0, 3), (8, .istore_n 2, 1, 0, 0, 0, 0), (9, .iconst 0, 1, 0, 0, 0, 0), (10, .istore_n 3, 1, 0, 0, 0, 0), (11, .iload_n 3, 1, 0, 0, 0, 0), (12, .iload_n 2, 1, 0, 0, 0, 0), (13, .if_icmp .ge 44, 3, 0, 0, 0, 0), (16, .aload_n 0, 1, 0, 0, 0, 0), (17, .iload_n 1, 1, 0, 0, 0, 0), (18, .iload_n 3, 1, 0, 0, 0, 0), (19, .invokevirtual 79, 3, 78, 3, 0, 8), (22, .iconst (-1), 1, 0, 0, 0, 0), (23, .if_icmp .eq 28, 3, 0, 0, 0, 0), (26, .aload_n 0, 1, 0, 0, 0, 0), (27, .iload_n 1, 1, 0, 0, 0, 0), (28, .iload_n 3, 1, 0, 0, 0, 0), (29, .invokevirtual 39, 3, 86, 3, 0, 8), (32, .aload_n 0, 1, 0, 0, 0, 0), (33, .getfield 43, 3, 8, 10, 0, 0), (36, .bipush 99, 2, 0, 0, 0, 0), (38, .if_icmp .eq 11, 3, 0, 0, 0, 0), (41, .aload_n 0, 1, 0, 0, 0, 0), (42, .iload_n 1, 1, 0, 0, 0, 0), (43, .invokevirtual 82, 3, 93, 2, 0, 8), (46, .ifCond .ne 5, 3, 0, 0, 0, 0), (49, .iload_n 3, 1, 0, 0, 0, 0), (50, .ireturn, 1, 0, 0, 0, 0), (51, .iinc 3 1, 3, 0, 0, 0, 0), (54, .goto (-43), 3, 0, 0, 0, 0), (57, .iconst (-1), 1, 0, 0, 0, 0), (58, .ireturn, 1, 0, 0, 0, 0)]
/-- KindJudge$Flow.firstWrong(I)I -/
def kjM_83 : mv_Me := (⟨"KindJudge$Flow", "firstWrong", "(I)I"⟩, prog_6_method_7_code, 4, (some .int), "KindJudge$Flow", kjT_83, 0, 0, 5, 115)
def kjT_84 : List mv_E := [(0, .aload_n 0, 1, 0, 0, 0, 0), (1, .getfield 27, 3, 8, 0, 4, 0), (4, .iload_n 1, 1, 0, 0, 0, 0), (5, .iload_n 2, 1, 0, 0, 0, 0), (6, .invokevirtual 35, 3, 33, 3, 0, 3), (9, .istore_n 3, 1, 0, 0, 0, 0), (10, .iload_n 3, 1, 0, 0, 0, 0), (11, .ifCond .lt 35, 3, 0, 0, 0, 0), (14, .iload_n 3, 1, 0, 0, 0, 0), (15, .aload_n 0, 1, 0, 0, 0, 0), (16, .getfield 11, 3, 8, 2, 4, 0), (19, .arraylength, 1, 0, 0, 0, 0), (20, .if_icmp .ge 26, 3, 0, 0, 0, 0), (23, .iload_n 2, 1, 0, 0, 0, 0), (24, .aload_n 0, 1, 0, 0, 0, 0), (25, .getfield 23, 3, 8, 4, 4, 0), (28, .arraylength, 1, 0, 0, 0, 0), (29, .if_icmp .ge 17, 3, 0, 0, 0, 0), (32, .aload_n 0, 1, 0, 0, 0, 0), (33, .getfield 11, 3, 8, 2, 4, 0), (36, .iload_n 3, 1, 0, 0, 0, 0), (37, .iconst (-1), 1, 0, 0, 0, 0), (38, .bastore, 1, 0, 0, 0, 0), (39, .aload_n 0, 1, 0, 0, 0, 0), (40, .getfield 23, 3, 8, 4, 4, 0), (43, .iload_n 2, 1, 0, 0, 0, 0), (44, .iconst 0, 1, 0, 0, 0, 0), (45, .bastore, 1, 0, 0, 0, 0), (46, .return_, 1, 0, 0, 0, 0)]
/-- KindJudge$Flow.forget(II)V -/
def kjM_84 : mv_Me := (⟨"KindJudge$Flow", "forget", "(II)V"⟩, prog_6_method_8_code, 4, none, "KindJudge$Flow", kjT_84, 0, 0, 2, 43)
def kjT_85 : List mv_E := [(0, .lconst 0, 1, 0, 0, 0, 0), (1, .lstore_n 2, 1, 0, 0, 0, 0), (2, .aload_n 0, 1, 0, 0, 0, 0), (3, .getfield 27, 3, 8, 0, 4, 0), (6, .getfield 86, 3, 3, 2, 4, 0), (9, .iload_n 1, 1, 0, 0, 0, 0), (10, .invokevirtual 90, 3, 50, 2, 0, 5), (13, .istore 4, 2, 0, 0, 0, 0), (15, .iconst 0, 1, 0, 0, 0, 0), (16, .istore 5, 2, 0, 0, 0, 0), (18, .iload 5, 2, 0, 0, 0, 0), (20, .iload 4, 2, 0, 0, 0, 0), (22, .if_icmp .ge 29, 3, 0, 0, 0, 0), (25, .lload_n 2, 1, 0, 0, 0, 0), (26, .iload 5, 2, 0, 0, 0, 0), (28, .aload_n 0, 1, 0, 0, 0, 0), (29, .getfield 27, 3, 8, 0, 4, 0), (32, .getfield 86, 3, 3, 2, 4, 0), (35, .iload_n 1, 1, 0, 0, 0, 0), (36, .iload 5, 2, 0, 0, 0, 0), (38, .invokevirtual 95, 3, 51, 3, 0, 5), (41, .invokestatic 98, 3, 99, 3, 1, 0), (44, .lstore_n 2, 1, 0, 0, 0, 0), (45, .iinc 5 1, 3, 0, 0, 0, 0), (48, .goto (-30), 3, 0, 0, 0, 0), (51, .lload_n 2, 1, 0, 0, 0, 0), (52, .lreturn, 1, 0, 0, 0, 0)]
/-- KindJudge$Flow.firstFrame(I)J -/
def kjM_85 : mv_Me := (⟨"KindJudge$Flow", "firstFrame", "(I)J"⟩, prog_6_method_9_code, 6, (some .long), "KindJudge$Flow", kjT_85, 0, 0, 2, 43)
def kjT_86 : List mv_E := [(0, .aload_n 0, 1, 0, 0, 0, 0), (1, .aload_n 0, 1, 0, 0, 0, 0), (2, .getfield 31, 3, 8, 1, 4, 0), (5, .iload_n 1, 1, 0, 0, 0, 0), (6, .iload_n 2, 1, 0, 0, 0, 0), (7, .iconst 0, 1, 0, 0, 0, 0), (8, .invokevirtual 102, 3, 67, 4, 0, 7), (11, .putfield 108, 3, 8, 5, 0, 0), (14, .aload_n 0, 1, 0, 0, 0, 0), (15, .aload_n 0, 1, 0, 0, 0, 0), (16, .getfield 31, 3, 8, 1, 4, 0), (19, .iload_n 1, 1, 0, 0, 0, 0), (20, .iload_n 2, 1, 0, 0, 0, 0), (21, .iconst 1, 1, 0, 0, 0, 0), (22, .invokevirtual 102, 3, 67, 4, 0, 7), (25, .putfield 111, 3, 8, 6, 0, 0), (28, .aload_n 0, 1, 0, 0, 0, 0), (29, .aload_n 0, 1, 0, 0, 0, 0), (30, .getfield 31, 3, 8, 1, 4, 0), (33, .iload_n 1, 1, 0, 0, 0, 0), (34, .iload_n 2, 1, 0, 0, 0, 0), (35, .iconst 2, 1, 0, 0, 0, 0), (36, .invokevirtual 102, 3, 67, 4, 0, 7), (39, .putfield 114, 3, 8, 7, 0, 0), (42, .aload_n 0, 1, 0, 0, 0, 0), (43, .aload_n 0, 1, 0, 0, 0, 0), (44, .iload_n 1, 1, 0, 0, 0, 0), (45, .iload_n 2, 1, 0, 0, 0, 0), (46, .invokevirtual 79, 3, 78, 3, 0, 8), (49, .putfield 117, 3, 8, 8, 0, 0), (52, .aload_n 0, 1, 0, 0, 0, 0), (53, .aload_n 0, 1, 0, 0, 0, 0), (54, .iload_n 1, 1, 0, 0, 0, 0), (55, .iload_n 2, 1, 0, 0, 0, 0), (56, .invokevirtual 47, 3, 81, 3, 0, 8), (59, .putfield 120, 3, 8, 11, 3, 0), (62, .aload_n 0, 1, 0, 0, 0, 0), (63, .aload_n 0, 1, 0, 0, 0, 0), (64, .getfield 117, 3, 8, 8, 0, 0), (67, .aload_n 0, 1, 0, 0, 0, 0), (68, .getfield 31, 3, 8, 1, 4, 0), (71, .aload_n 0, 1, 0, 0, 0, 0), (72, .getfield 108, 3, 8, 5, 0, 0), (75, .aload_n 0, 1, 0, 0, 0, 0), (76, .getfield 111, 3, 8, 6, 0, 0), (79, .invokevirtual 124, 3, 69, 3, 0, 7), (82, .isub, 1, 0, 0, 0, 0), (83, .putfield 127, 3, 8, 9, 0, 0), (86, .aload_n 0, 1, 0, 0, 0, 0), (87, .aload_n 0, 1, 0, 0, 0, 0), (88, .getfield 127, 3, 8, 9, 0, 0), (91, .aload_n 0, 1, 0, 0, 0, 0), (92, .getfield 31, 3, 8, 1, 4, 0), (95, .aload_n 0, 1, 0, 0, 0, 0), (96, .getfield 108, 3, 8, 5, 0, 0), (99, .aload_n 0, 1, 0, 0, 0, 0), (100, .getfield 111, 3, 8, 6, 0, 0), (103, .invokevirtual 130, 3, 70, 3, 0, 7), (106, .iadd, 1, 0, 0, 0, 0), (107, .putfield 43, 3, 8, 10, 0, 0), (110, .aload_n 0, 1, 0, 0, 0, 0), (111, .getfield 117, 3, 8, 8, 0, 0), (114, .bipush 99, 2, 0, 0, 0, 0), (116, .if_icmp .eq 25, 3, 0, 0, 0, 0), (119, .aload_n 0, 1, 0, 0, 0, 0), (120, .getfield 127, 3, 8, 9, 0, 0), (123, .ifCond .lt 18, 3, 0, 0, 0, 0), (126, .aload_n 0, 1, 0, 0, 0, 0), (127, .getfield 43, 3, 8, 10, 0, 0), (130, .aload_n 0, 1, 0, 0, 0, 0), (131, .getfield 27, 3, 8, 0, 4, 0), (134, .iload_n 1, 1, 0, 0, 0, 0), (135, .invokevirtual 133, 3, 31, 2, 0, 3), (138, .if_icmp .le 9, 3, 0, 0, 0, 0), (141, .aload_n 0, 1, 0, 0, 0, 0), (142, .bipush 99, 2, 0, 0, 0, 0), (144, .putfield 43, 3, 8, 10, 0, 0), (147, .return_, 1, 0, 0, 0, 0)]
/-- KindJudge$Flow.open(II)V -/
def kjM_86 : mv_Me := (⟨"KindJudge$Flow", "open", "(II)V"⟩, prog_6_method_10_code, 3, none, "KindJudge$Flow", kjT_86, 0, 0, 3, 66)
def kjT_87 : List mv_E := [(0, .aload_n 0, 1, 0, 0, 0, 0), (1, .iload_n 1, 1, 0, 0, 0, 0), (2, .iload_n 2, 1, 0, 0, 0, 0), (3, .invokevirtual 39, 3, 86, 3, 0, 8), (6, .aload_n 0, 1, 0, 0, 0, 0), (7, .getfield 43, 3, 8, 10, 0, 0), (10, .bipush 99, 2, 0, 0, 0, 0), (12, .if_icmp .ne 7, 3, 0, 0, 0, 0), (15, .lconst 0, 1, 0, 0, 0, 0), (16, .goto 7, 3, 0, 0, 0, 0), (19, .aload_n 0, 1, 0, 0, 0, 0), (20, .invokevirtual 136, 3, 90, 1, 0, 8), (23, .lstore_n 3, 1, 0, 0, 0, 0), (24, .aload_n 0, 1, 0, 0, 0, 0), (25, .getfield 31, 3, 8, 1, 4, 0), (28, .iload_n 1, 1, 0, 0, 0, 0), (29, .iload_n 2, 1, 0, 0, 0, 0), (30, .invokevirtual 140, 3, 73, 3, 0, 7), (33, .istore 5, 2, 0, 0, 0, 0), (35, .iconst 0, 1, 0, 0, 0, 0), (36, .istore 6, 2, 0, 0, 0, 0), (38, .iload 6, 2, 0, 0, 0, 0), (40, .iload 5, 2, 0, 0, 0, 0), (42, .if_icmp .ge 30, 3, 0, 0, 0, 0), (45, .aload_n 0, 1, 0, 0, 0, 0), (46, .iload_n 1, 1, 0, 0, 0, 0), (47, .aload_n 0, 1, 0, 0, 0, 0), (48, .getfield 31, 3, 8, 1, 4, 0), (51, .iload_n 1, 1, 0, 0, 0, 0), (52, .iload_n 2, 1, 0, 0, 0, 0), (53, .iload 6, 2, 0, 0, 0, 0), (55, .invokevirtual 143, 3, 74, 4, 0, 7), (58, .aload_n 0, 1, 0, 0, 0, 0), (59, .getfield 43, 3, 8, 10, 0, 0), (62, .lload_n 3, 1, 0, 0, 0, 0), (63, .invokevirtual 71, 3, 88, 5, 0, 8), (66, .iinc 6 1, 3, 0, 0, 0, 0), (69, .goto (-31), 3, 0, 0, 0, 0), (72, .aload_n 0, 1, 0, 0, 0, 0), (73, .getfield 31, 3, 8, 1, 4, 0), (76, .iload_n 1, 1, 0, 0, 0, 0), (77, .iload_n 2, 1, 0, 0, 0, 0), (78, .invokevirtual 146, 3, 75, 3, 0, 7), (81, .ifCond .eq 24, 3, 0, 0, 0, 0), (84, .aload_n 0, 1, 0, 0, 0, 0), (85, .iload_n 1, 1, 0, 0, 0, 0), (86, .iload_n 2, 1, 0, 0, 0, 0), (87, .aload_n 0, 1, 0, 0, 0, 0), (88, .getfield 31, 3, 8, 1, 4, 0), (91, .iload_n 1, 1, 0, 0, 0, 0), (92, .iload_n 2, 1, 0, 0, 0, 0), (93, .invokevirtual 150, 3, 68, 3, 0, 7), (96, .iadd, 1, 0, 0, 0, 0), (97, .aload_n 0, 1, 0, 0, 0, 0), (98, .getfield 43, 3, 8, 10, 0, 0), (101, .lload_n 3, 1, 0, 0, 0, 0), (102, .invokevirtual 71, 3, 88, 5, 0, 8), (105, .return_, 1, 0, 0, 0, 0)]
/-- KindJudge$Flow.spread(II)V -/
def kjM_87 : mv_Me := (⟨"KindJudge$Flow", "spread", "(II)V"⟩, prog_6_method_11_code, 7, none, "KindJudge$Flow", kjT_87, 0, 0, 4, 102)
def kjT_88 : List mv_E := [(0, .aload_n 0, 1, 0, 0, 0, 0), (1, .getfield 27, 3, 8, 0, 4, 0), (4, .iload_n 1, 1, 0, 0, 0, 0), (5, .iload_n 2, 1, 0, 0, 0, 0), (6, .invokevirtual 35, 3, 33, 3, 0, 3), (9, .istore 6, 2, 0, 0, 0, 0), (11, .iload 6, 2, 0, 0, 0, 0), (13, .ifCond .lt 32, 3, 0, 0, 0, 0), (16, .iload 6, 2, 0, 0, 0, 0), (18, .aload_n 0, 1, 0, 0, 0, 0), (19, .getfield 11, 3, 8, 2, 4, 0), (22, .arraylength, 1, 0, 0, 0, 0), (23, .if_icmp .ge 22, 3, 0, 0, 0, 0), (26, .iload 6, 2, 0, 0, 0, 0), (28, .aload_n 0, 1, 0, 0, 0, 0), (29, .getfield 17, 3, 8, 3, 4, 0), (32, .arraylength, 1, 0, 0, 0, 0), (33, .if_icmp .ge 12, 3, 0, 0, 0, 0), (36, .iload_n 2, 1, 0, 0, 0, 0), (37, .aload_n 0, 1, 0, 0, 0, 0), (38, .getfield 23, 3, 8, 4, 4, 0), (41, .arraylength, 1, 0, 0, 0, 0), (42, .if_icmp .lt 4, 3, 0, 0, 0, 0), (45, .return_, 1, 0, 0, 0, 0), (46, .aload_n 0, 1, 0, 0, 0, 0), (47, .getfield 11, 3, 8, 2, 4, 0), (50, .iload 6, 2, 0, 0, 0, 0), (52, .baload, 1, 0, 0, 0, 0), (53, .istore 7, 2, 0, 0, 0, 0), (55, .iload 7, 2, 0, 0, 0, 0), (57, .iconst (-1), 1, 0, 0, 0, 0), (58, .if_icmp .eq 9, 3, 0, 0, 0, 0), (61, .iload 7, 2, 0, 0, 0, 0), (63, .iload_n 3, 1, 0, 0, 0, 0), (64, .if_icmp .ne 7, 3, 0, 0, 0, 0), (67, .iload_n 3, 1, 0, 0, 0, 0), (68, .goto 5, 3, 0, 0, 0, 0), (71, .bipush 99, 2, 0, 0, 0, 0), (73, .istore 8, 2, 0, 0, 0, 0), (75, .iload 7, 2, 0, 0, 0, 0), (77, .iconst (-1), 1, 0, 0, 0, 0), (78, .if_icmp .ne 8, 3, 0, 0, 0, 0), (81, .lload 4, 2, 0, 0, 0, 0), (83, .goto 16, 3, 0, 0, 0, 0), (86, .aload_n 0, 1, 0, 0, 0, 0), (87, .aload_n 0, 1, 0, 0, 0, 0), (88, .getfield 17, 3, 8, 3, 4, 0), (91, .iload 6, 2, 0, 0, 0, 0), (93, .laload, 1, 0, 0, 0, 0), (94, .lload 4, 2, 0, 0, 0, 0), (96, .invokevirtual 153, 3, 89, 3, 0, 8), (99, .lstore 9, 2, 0, 0, 0, 0), (101, .iload 8, 2, 0, 0, 0, 0), (103, .bipush 99, 2, 0, 0, 0, 0), (105, .if_icmp .ne 6, 3, 0, 0, 0, 0), (108, .lconst 0, 1, 0, 0, 0, 0), (109, .lstore 9, 2, 0, 0, 0, 0), (111, .iload 8, 2, 0, 0, 0, 0), (113, .iload 7, 2, 0, 0, 0, 0), (115, .if_icmp .ne 16, 3, 0, 0, 0, 0), (118, .lload 9, 2, 0, 0, 0, 0), (120, .aload_n 0, 1, 0, 0, 0, 0), (121, .getfield 17, 3, 8, 3, 4, 0), (124, .iload 6, 2, 0, 0, 0, 0), (126, .laload, 1, 0, 0, 0, 0), (127, .lcmp, 1, 0, 0, 0, 0), (128, .ifCond .eq 29, 3, 0, 0, 0, 0), (131, .aload_n 0, 1, 0, 0, 0, 0), (132, .getfield 11, 3, 8, 2, 4, 0), (135, .iload 6, 2, 0, 0, 0, 0), (137, .iload 8, 2, 0, 0, 0, 0), (139, .i2b, 1, 0, 0, 0, 0), (140, .bastore, 1, 0, 0, 0, 0), (141, .aload_n 0, 1, 0, 0, 0, 0), (142, .getfield 17, 3, 8, 3, 4, 0), (145, .iload 6, 2, 0, 0, 0, 0), (147, .lload 9, 2, 0, 0, 0, 0), (149, .lastore, 1, 0, 0, 0, 0), (150, .aload_n 0, 1, 0, 0, 0, 0), (151, .getfield 23, 3, 8, 4, 4, 0), (154, .iload_n 2, 1, 0, 0, 0, 0), (155, .iconst 1, 1, 0, 0, 0, 0), (156, .bastore, 1, 0, 0, 0, 0), (157, .return_, 1, 0, 0, 0, 0)]
/-- KindJudge$Flow.arrive(IIIJ)V -/
def kjM_88 : mv_Me := (⟨"KindJudge$Flow", "arrive", "(IIIJ)V"⟩, prog_6_method_12_code, 11, none, "KindJudge$Flow", kjT_88, 0, 0, 3, 72)
def kjT_89 : List mv_E := [(0, .lload_n 1, 1, 0, 0, 0, 0), (1, .lload_n 3, 1, 0, 0, 0, 0), (2, .lcmp, 1, 0, 0, 0, 0), (3, .ifCond .ne 5, 3, 0, 0, 0, 0), (6, .lload_n 1, 1, 0, 0, 0, 0), (7, .lreturn, 1, 0, 0, 0, 0), (8, .lconst 0, 1, 0, 0, 0, 0), (9, .lstore 5, 2, 0, 0, 0, 0), (11, .iconst 0, 1, 0, 0, 0, 0), (12, .istore 7, 2, 0, 0, 0, 0), (14, .iload 7, 2, 0, 0, 0, 0), (16, .bipush 16, 2, 0, 0, 0, 0), (18, .if_icmp .ge 40, 3, 0, 0, 0, 0), (21, .lload 5, 2, 0, 0, 0, 0), (23, .iload 7, 2, 0, 0, 0, 0), (25, .aload_n 0, 1, 0, 0, 0, 0), (26, .getfield 27, 3, 8, 0, 4, 0), (29, .getfield 157, 3, 3, 0, 4, 0), (32, .lload_n 1, 1, 0, 0, 0, 0), (33, .iload 7, 2, 0, 0, 0, 0), (35, .invokestatic 51, 3, 98, 2, 1, 0), (38, .lload_n 3, 1, 0, 0, 0, 0), (39, .iload 7, 2, 0, 0, 0, 0), (41, .invokestatic 51, 3, 98, 2, 1, 0), (44, .invokevirtual 161, 3, 45, 3, 0, 4), (47, .invokestatic 98, 3, 99, 3, 1, 0), (50, .lstore 5, 2, 0, 0, 0, 0), (52, .iinc 7 1, 3, 0, 0, 0, 0), (55, .goto (-41), 3, 0, 0, 0, 0), (58, .lload 5, 2, 0, 0, 0, 0), (60, .lreturn, 1, 0, 0, 0, 0)]
/-- KindJudge$Flow.bothFrames(JJ)J -/
def kjM_89 : mv_Me := (⟨"KindJudge$Flow", "bothFrames", "(JJ)J"⟩, prog_6_method_13_code, 8, (some .long), "KindJudge$Flow", kjT_89, 0, 0, 2, 45)
def kjT_90 : List mv_E := [(0, .aload_n 0, 1, 0, 0, 0, 0), (1, .iconst 0, 1, 0, 0, 0, 0), (2, .invokevirtual 166, 3, 92, 2, 0, 8), (5, .istore_n 1, 1, 0, 0, 0, 0), (6, .aload_n 0, 1, 0, 0, 0, 0), (7, .getfield 120, 3, 8, 11, 3, 0), (10, .lstore_n 2, 1, 0, 0, 0, 0), (11, .aload_n 0, 1, 0, 0, 0, 0), (12, .getfield 127, 3, 8, 9, 0, 0), (15, .istore 4, 2, 0, 0, 0, 0), (17, .iload 4, 2, 0, 0, 0, 0), (19, .aload_n 0, 1, 0, 0, 0, 0), (20, .getfield 117, 3, 8, 8, 0, 0), (23, .if_icmp .ge 20, 3, 0, 0, 0, 0), (26, .lload_n 2, 1, 0, 0, 0, 0), (27, .bipush 8, 2, 0, 0, 0, 0), (29, .iload 4, 2, 0, 0, 0, 0), (31, .iadd, 1, 0, 0, 0, 0), (32, .iconst 0, 1, 0, 0, 0, 0), (33, .invokestatic 98, 3, 99, 3, 1, 0), (36, .lstore_n 2, 1, 0, 0, 0, 0), (37, .iinc 4 1, 3, 0, 0, 0, 0), (40, .goto (-23), 3, 0, 0, 0, 0), (43, .aload_n 0, 1, 0, 0, 0, 0), (44, .getfield 108, 3, 8, 5, 0, 0), (47, .iconst 4, 1, 0, 0, 0, 0), (48, .if_icmp .ne 13, 3, 0, 0, 0, 0), (51, .lload_n 2, 1, 0, 0, 0, 0), (52, .aload_n 0, 1, 0, 0, 0, 0), (53, .getfield 111, 3, 8, 6, 0, 0), (56, .iload_n 1, 1, 0, 0, 0, 0), (57, .invokestatic 98, 3, 99, 3, 1, 0), (60, .lreturn, 1, 0, 0, 0, 0), (61, .aload_n 0, 1, 0, 0, 0, 0), (62, .getfield 108, 3, 8, 5, 0, 0), (65, .bipush 6, 2, 0, 0, 0, 0), (67, .if_icmp .ne 29, 3, 0, 0, 0, 0), (70, .lload_n 2, 1, 0, 0, 0, 0), (71, .bipush 8, 2, 0, 0, 0, 0), (73, .aload_n 0, 1, 0, 0, 0, 0), (74, .getfield 127, 3, 8, 9, 0, 0), (77, .iadd, 1, 0, 0, 0, 0), (78, .iload_n 1, 1, 0, 0, 0, 0), (79, .invokestatic 98, 3, 99, 3, 1, 0), (82, .bipush 8, 2, 0, 0, 0, 0), (84, .aload_n 0, 1, 0, 0, 0, 0), (85, .getfield 127, 3, 8, 9, 0, 0), (88, .iadd, 1, 0, 0, 0, 0), (89, .iconst 1, 1, 0, 0, 0, 0), (90, .iadd, 1, 0, 0, 0, 0), (91, .iload_n 1, 1, 0, 0, 0, 0), (92, .invokestatic 98, 3, 99, 3, 1, 0), (95, .lreturn, 1, 0, 0, 0, 0), (96, .aload_n 0, 1, 0, 0, 0, 0), (97, .getfield 108, 3, 8, 5, 0, 0), (100, .bipush 7, 2, 0, 0, 0, 0), (102, .if_icmp .ne 33, 3, 0, 0, 0, 0), (105, .lload_n 2, 1, 0, 0, 0, 0), (106, .bipush 8, 2, 0, 0, 0, 0), (108, .aload_n 0, 1, 0, 0, 0, 0), (109, .getfield 127, 3, 8, 9, 0, 0), (112, .iadd, 1, 0, 0, 0, 0), (113, .aload_n 0, 1, 0, 0, 0, 0), (114, .iconst 1, 1, 0, 0, 0, 0), (115, .invokevirtual 166, 3, 92, 2, 0, 8), (118, .invokestatic 98, 3, 99, 3, 1, 0), (121, .bipush 8, 2, 0, 0, 0, 0), (123, .aload_n 0, 1, 0, 0, 0, 0), (124, .getfield 127, 3, 8, 9, 0, 0), (127, .iadd, 1, 0, 0, 0, 0), (128, .iconst 1, 1, 0, 0, 0, 0), (129, .iadd, 1, 0, 0, 0, 0), (130, .iload_n 1, 1, 0, 0, 0, 0), (131, .invokestatic 98, 3, 99, 3, 1, 0), (134, .lreturn, 1, 0, 0, 0, 0), (135, .aload_n 0, 1, 0, 0, 0, 0), (136, .getfield 43, 3, 8, 10, 0, 0), (139, .aload_n 0, 1, 0, 0, 0, 0), (140, .getfield 127, 3, 8, 9, 0, 0), (143, .if_icmp .ne 7, 3, 0, 0, 0, 0), (146, .lload_n 2, 1, 0, 0, 0, 0), (147, .goto 18, 3, 0, 0, 0, 0), (150, .lload_n 2, 1, 0, 0, 0, 0), (151, .bipush 8, 2, 0, 0, 0, 0), (153, .aload_n 0, 1, 0, 0, 0, 0), (154, .getfield 127, 3, 8, 9, 0, 0), (157, .iadd, 1, 0, 0, 0, 0), (158, .aload_n 0, 1, 0, 0, 0, 0), (159, .invokevirtual 169, 3, 91, 1, 0, 8), (162, .invokestatic 98, 3, 99, 3, 1, 0), (165, .lreturn, 1, 0, 0, 0, 0)]
/-- KindJudge$Flow.frameBehind()J -/
def kjM_90 : mv_Me := (⟨"KindJudge$Flow", "frameBehind", "()J"⟩, prog_6_method_14_code, 5, (some .long), "KindJudge$Flow", kjT_90, 0, 0, 3, 63)
def kjT_91 : List mv_E := [(0, .aload_n 0, 1, 0, 0, 0, 0), (1, .getfield 108, 3, 8, 5, 0, 0), (4, .lookupswitch 149 #[(2, 76), (3, 78), (38, 90), (39, 98), (41, 117), (46, 90), (47, 119), (48, 134)], 76, 0, 0, 0, 0), (80, .iconst 3, 1, 0, 0, 0, 0), (81, .ireturn, 1, 0, 0, 0, 0), (82, .aload_n 0, 1, 0, 0, 0, 0), (83, .getfield 120, 3, 8, 11, 3, 0), (86, .aload_n 0, 1, 0, 0, 0, 0), (87, .getfield 111, 3, 8, 6, 0, 0), (90, .invokestatic 51, 3, 98, 2, 1, 0), (93, .ireturn, 1, 0, 0, 0, 0), (94, .bipush 16, 2, 0, 0, 0, 0), (96, .aload_n 0, 1, 0, 0, 0, 0), (97, .getfield 111, 3, 8, 6, 0, 0), (100, .iadd, 1, 0, 0, 0, 0), (101, .ireturn, 1, 0, 0, 0, 0), (102, .aload_n 0, 1, 0, 0, 0, 0), (103, .getfield 27, 3, 8, 0, 4, 0), (106, .getfield 157, 3, 3, 0, 4, 0), (109, .aload_n 0, 1, 0, 0, 0, 0), (110, .getfield 111, 3, 8, 6, 0, 0), (113, .aload_n 0, 1, 0, 0, 0, 0), (114, .getfield 114, 3, 8, 7, 0, 0), (117, .invokevirtual 173, 3, 40, 3, 0, 4), (120, .ireturn, 1, 0, 0, 0, 0), (121, .iconst 2, 1, 0, 0, 0, 0), (122, .ireturn, 1, 0, 0, 0, 0), (123, .aload_n 0, 1, 0, 0, 0, 0), (124, .getfield 27, 3, 8, 0, 4, 0), (127, .getfield 86, 3, 3, 2, 4, 0), (130, .aload_n 0, 1, 0, 0, 0, 0), (131, .getfield 111, 3, 8, 6, 0, 0), (134, .invokevirtual 176, 3, 52, 2, 0, 5), (137, .ireturn, 1, 0, 0, 0, 0), (138, .aload_n 0, 1, 0, 0, 0, 0), (139, .getfield 27, 3, 8, 0, 4, 0), (142, .getfield 179, 3, 3, 1, 4, 0), (145, .aload_n 0, 1, 0, 0, 0, 0), (146, .getfield 111, 3, 8, 6, 0, 0), (149, .invokevirtual 176, 3, 52, 2, 0, 5), (152, .ireturn, 1, 0, 0, 0, 0), (153, .iconst 1, 1, 0, 0, 0, 0), (154, .ireturn, 1, 0, 0, 0, 0)]
/-- KindJudge$Flow.kindPut()I -/
def kjM_91 : mv_Me := (⟨"KindJudge$Flow", "kindPut", "()I"⟩, prog_6_method_15_code, 1, (some .int), "KindJudge$Flow", kjT_91, 0, 0, 2, 43)
def kjT_92 : List mv_E := [(0, .aload_n 0, 1, 0, 0, 0, 0), (1, .getfield 127, 3, 8, 9, 0, 0), (4, .iload_n 1, 1, 0, 0, 0, 0), (5, .iadd, 1, 0, 0, 0, 0), (6, .aload_n 0, 1, 0, 0, 0, 0), (7, .getfield 117, 3, 8, 8, 0, 0), (10, .if_icmp .ge 22, 3, 0, 0, 0, 0), (13, .aload_n 0, 1, 0, 0, 0, 0), (14, .getfield 120, 3, 8, 11, 3, 0), (17, .bipush 8, 2, 0, 0, 0, 0), (19, .aload_n 0, 1, 0, 0, 0, 0), (20, .getfield 127, 3, 8, 9, 0, 0), (23, .iadd, 1, 0, 0, 0, 0), (24, .iload_n 1, 1, 0, 0, 0, 0), (25, .iadd, 1, 0, 0, 0, 0), (26, .invokestatic 51, 3, 98, 2, 1, 0), (29, .goto 4, 3, 0, 0, 0, 0), (32, .iconst 0, 1, 0, 0, 0, 0), (33, .ireturn, 1, 0, 0, 0, 0)]
/-- KindJudge$Flow.taken(I)I -/
def kjM_92 : mv_Me := (⟨"KindJudge$Flow", "taken", "(I)I"⟩, prog_6_method_16_code, 2, (some .int), "KindJudge$Flow", kjT_92, 0, 0, 1, 23)
def kjT_93 : List mv_E := [(0, .aload_n 0, 1, 0, 0, 0, 0), (1, .iconst 0, 1, 0, 0, 0, 0), (2, .invokevirtual 166, 3, 92, 2, 0, 8), (5, .istore_n 2, 1, 0, 0, 0, 0), (6, .aload_n 0, 1, 0, 0, 0, 0), (7, .iconst 1, 1, 0, 0, 0, 0), (8, .invokevirtual 166, 3, 92, 2, 0, 8), (11, .istore_n 3, 1, 0, 0, 0, 0), (12, .aload_n 0, 1, 0, 0, 0, 0), (13, .getfield 108, 3, 8, 5, 0, 0), (16, .iconst 3, 1, 0, 0, 0, 0), (17, .if_icmp .ne 23, 3, 0, 0, 0, 0), (20, .aload_n 0, 1, 0, 0, 0, 0), (21, .getfield 120, 3, 8, 11, 3, 0), (24, .aload_n 0, 1, 0, 0, 0, 0), (25, .getfield 111, 3, 8, 6, 0, 0), (28, .invokestatic 51, 3, 98, 2, 1, 0), (31, .ifCond .eq 7, 3, 0, 0, 0, 0), (34, .iconst 1, 1, 0, 0, 0, 0), (35, .goto 4, 3, 0, 0, 0, 0), (38, .iconst 0, 1, 0, 0, 0, 0), (39, .ireturn, 1, 0, 0, 0, 0), (40, .aload_n 0, 1, 0, 0, 0, 0), (41, .getfield 108, 3, 8, 5, 0, 0), (44, .bipush 20, 2, 0, 0, 0, 0), (46, .if_icmp .ne 24, 3, 0, 0, 0, 0), (49, .aload_n 0, 1, 0, 0, 0, 0), (50, .getfield 120, 3, 8, 11, 3, 0), (53, .aload_n 0, 1, 0, 0, 0, 0), (54, .getfield 111, 3, 8, 6, 0, 0), (57, .invokestatic 51, 3, 98, 2, 1, 0), (60, .iconst 1, 1, 0, 0, 0, 0), (61, .if_icmp .ne 7, 3, 0, 0, 0, 0), (64, .iconst 1, 1, 0, 0, 0, 0), (65, .goto 4, 3, 0, 0, 0, 0), (68, .iconst 0, 1, 0, 0, 0, 0), (69, .ireturn, 1, 0, 0, 0, 0), (70, .aload_n 0, 1, 0, 0, 0, 0), (71, .getfield 108, 3, 8, 5, 0, 0), (74, .iconst 4, 1, 0, 0, 0, 0), (75, .if_icmp .lt 35, 3, 0, 0, 0, 0), (78, .aload_n 0, 1, 0, 0, 0, 0), (79, .getfield 108, 3, 8, 5, 0, 0), (82, .bipush 7, 2, 0, 0, 0, 0), (84, .if_icmp .gt 26, 3, 0, 0, 0, 0), (87, .iload_n 2, 1, 0, 0, 0, 0), (88, .ifCond .eq 20, 3, 0, 0, 0, 0), (91, .aload_n 0, 1, 0, 0, 0, 0), (92, .getfield 108, 3, 8, 5, 0, 0), (95, .bipush 7, 2, 0, 0, 0, 0), (97, .if_icmp .ne 7, 3, 0, 0, 0, 0), (100, .iload_n 3, 1, 0, 0, 0, 0), (101, .ifCond .eq 7, 3, 0, 0, 0, 0), (104, .iconst 1, 1, 0, 0, 0, 0), (105, .goto 4, 3, 0, 0, 0, 0), (108, .iconst 0, 1, 0, 0, 0, 0), (109, .ireturn, 1, 0, 0, 0, 0), (110, .aload_n 0, 1, 0, 0, 0, 0), (111, .getfield 108, 3, 8, 5, 0, 0), (114, .bipush 33, 2, 0, 0, 0, 0), (116, .if_icmp .le 30, 3, 0, 0, 0, 0), (119, .aload_n 0, 1, 0, 0, 0, 0), (120, .getfield 108, 3, 8, 5, 0, 0), (123, .bipush 41, 2, 0, 0, 0, 0), (125, .if_icmp .eq 21, 3, 0, 0, 0, 0), (128, .aload_n 0, 1, 0, 0, 0, 0), (129, .getfield 108, 3, 8, 5, 0, 0), (132, .bipush 51, 2, 0, 0, 0, 0), (134, .if_icmp .eq 12, 3, 0, 0, 0, 0), (137, .aload_n 0, 1, 0, 0, 0, 0), (138, .getfield 108, 3, 8, 5, 0, 0), (141, .bipush 53, 2, 0, 0, 0, 0), (143, .if_icmp .ne 9, 3, 0, 0, 0, 0), (146, .aload_n 0, 1, 0, 0, 0, 0), (147, .iconst 0, 1, 0, 0, 0, 0), (148, .invokevirtual 182, 3, 95, 2, 0, 8), (151, .ireturn, 1, 0, 0, 0, 0), (152, .aload_n 0, 1, 0, 0, 0, 0), (153, .getfield 108, 3, 8, 5, 0, 0), (156, .bipush 35, 2, 0, 0, 0, 0), (158, .if_icmp .gt 8, 3, 0, 0, 0, 0), (161, .iload_n 2, 1, 0, 0, 0, 0), (162, .invokestatic 185, 3, 97, 1, 1, 0), (165, .ireturn, 1, 0, 0, 0, 0), (166, .aload_n 0, 1, 0, 0, 0, 0), (167, .getfield 108, 3, 8, 5, 0, 0), (170, .bipush 37, 2, 0, 0, 0, 0), (172, .if_icmp .gt 45, 3, 0, 0, 0, 0), (175, .iload_n 2, 1, 0, 0, 0, 0), (176, .invokestatic 185, 3, 97, 1, 1, 0), (179, .ifCond .eq 36, 3, 0, 0, 0, 0), (182, .iload_n 3, 1, 0, 0, 0, 0), (183, .invokestatic 185, 3, 97, 1, 1, 0), (186, .ifCond .eq 29, 3, 0, 0, 0, 0), (189, .iload_n 2, 1, 0, 0, 0, 0), (190, .iconst 2, 1, 0, 0, 0, 0), (191, .if_icmp .ne 9, 3, 0, 0, 0, 0), (194, .iload_n 3, 1, 0, 0, 0, 0), (195, .bipush 15, 2, 0, 0, 0, 0), (197, .if_icmp .ge 18, 3, 0, 0, 0, 0), (200, .iload_n 3, 1, 0, 0, 0, 0), (201, .iconst 2, 1, 0, 0, 0, 0), (202, .if_icmp .ne 9, 3, 0, 0, 0, 0), (205, .iload_n 2, 1, 0, 0, 0, 0), (206, .bipush 15, 2, 0, 0, 0, 0), (208, .if_icmp .ge 7, 3, 0, 0, 0, 0), (211, .iconst 1, 1, 0, 0, 0, 0), (212, .goto 4, 3, 0, 0, 0, 0), (215, .iconst 0, 1, 0, 0, 0, 0), (216, .ireturn, 1, 0, 0, 0, 0), (217, .aload_n 0, 1, 0, 0, 0, 0), (218, .iload_n 1, 1, 0, 0, 0, 0), (219, .iload_n 2, 1, 0, 0, 0, 0), (220, .iload_n 3, 1, 0, 0, 0, 0), (221, .invokevirtual 188, 3, 94, 4, 0, 8), (224, .ireturn, 1, 0, 0, 0, 0)]
/-- KindJudge$Flow.takesWhatIsFit(I)Z -/
def kjM_93 : mv_Me := (⟨"KindJudge$Flow", "takesWhatIsFit", "(I)Z"⟩, prog_6_method_17_code, 4, (some .boolean), "KindJudge$Flow", kjT_93, 0, 0, 4, 92)
def kjT_94 : List mv_E := [(0, .aload_n 0, 1, 0, 0, 0, 0), (1, .getfield 27, 3, 8, 0, 4, 0), (4, .getfield 157, 3, 3, 0, 4, 0), (7, .astore 4, 2, 0, 0, 0, 0), (9, .aload_n 0, 1, 0, 0, 0, 0), (10, .getfield 108, 3, 8, 5, 0, 0), (13, .tableswitch 282 39 50 #[63, 77, 282, 121, 121, 121, 145, 145, 163, 176, 222, 242], 63, 0, 0, 0, 0), (76, .aload 4, 2, 0, 0, 0, 0), (78, .iload_n 2, 1, 0, 0, 0, 0), (79, .bipush 16, 2, 0, 0, 0, 0), (81, .aload_n 0, 1, 0, 0, 0, 0), (82, .getfield 111, 3, 8, 6, 0, 0), (85, .iadd, 1, 0, 0, 0, 0), (86, .invokevirtual 192, 3, 44, 3, 0, 4), (89, .ireturn, 1, 0, 0, 0, 0), (90, .aload 4, 2, 0, 0, 0, 0), (92, .iload_n 2, 1, 0, 0, 0, 0), (93, .bipush 16, 2, 0, 0, 0, 0), (95, .aload_n 0, 1, 0, 0, 0, 0), (96, .getfield 111, 3, 8, 6, 0, 0), (99, .iadd, 1, 0, 0, 0, 0), (100, .invokevirtual 192, 3, 44, 3, 0, 4), (103, .ifCond .eq 29, 3, 0, 0, 0, 0), (106, .aload 4, 2, 0, 0, 0, 0), (108, .iload_n 3, 1, 0, 0, 0, 0), (109, .aload 4, 2, 0, 0, 0, 0), (111, .aload_n 0, 1, 0, 0, 0, 0), (112, .getfield 111, 3, 8, 6, 0, 0), (115, .aload_n 0, 1, 0, 0, 0, 0), (116, .getfield 114, 3, 8, 7, 0, 0), (119, .invokevirtual 173, 3, 40, 3, 0, 4), (122, .invokevirtual 192, 3, 44, 3, 0, 4), (125, .ifCond .eq 7, 3, 0, 0, 0, 0), (128, .iconst 1, 1, 0, 0, 0, 0), (129, .goto 4, 3, 0, 0, 0, 0), (132, .iconst 0, 1, 0, 0, 0, 0), (133, .ireturn, 1, 0, 0, 0, 0), (134, .aload 4, 2, 0, 0, 0, 0), (136, .iload_n 2, 1, 0, 0, 0, 0), (137, .iconst 2, 1, 0, 0, 0, 0), (138, .invokevirtual 192, 3, 44, 3, 0, 4), (141, .ifCond .eq 15, 3, 0, 0, 0, 0), (144, .aload_n 0, 1, 0, 0, 0, 0), (145, .iconst 1, 1, 0, 0, 0, 0), (146, .invokevirtual 182, 3, 95, 2, 0, 8), (149, .ifCond .eq 7, 3, 0, 0, 0, 0), (152, .iconst 1, 1, 0, 0, 0, 0), (153, .goto 4, 3, 0, 0, 0, 0), (156, .iconst 0, 1, 0, 0, 0, 0), (157, .ireturn, 1, 0, 0, 0, 0), (158, .iload_n 2, 1, 0, 0, 0, 0), (159, .invokestatic 185, 3, 97, 1, 1, 0), (162, .ifCond .eq 12, 3, 0, 0, 0, 0), (165, .iload_n 2, 1, 0, 0, 0, 0), (166, .iconst 2, 1, 0, 0, 0, 0), (167, .if_icmp .eq 7, 3, 0, 0, 0, 0), (170, .iconst 1, 1, 0, 0, 0, 0), (171, .goto 4, 3, 0, 0, 0, 0), (174, .iconst 0, 1, 0, 0, 0, 0), (175, .ireturn, 1, 0, 0, 0, 0), (176, .aload_n 0, 1, 0, 0, 0, 0), (177, .aload_n 0, 1, 0, 0, 0, 0), (178, .getfield 27, 3, 8, 0, 4, 0), (181, .getfield 86, 3, 3, 2, 4, 0), (184, .iconst 0, 1, 0, 0, 0, 0), (185, .invokevirtual 195, 3, 96, 3, 0, 8), (188, .ireturn, 1, 0, 0, 0, 0), (189, .iload_n 2, 1, 0, 0, 0, 0), (190, .bipush 16, 2, 0, 0, 0, 0), (192, .if_icmp .lt 41, 3, 0, 0, 0, 0), (195, .aload_n 0, 1, 0, 0, 0, 0), (196, .getfield 27, 3, 8, 0, 4, 0), (199, .iload_n 2, 1, 0, 0, 0, 0), (200, .bipush 16, 2, 0, 0, 0, 0), (202, .isub, 1, 0, 0, 0, 0), (203, .aload_n 0, 1, 0, 0, 0, 0), (204, .getfield 111, 3, 8, 6, 0, 0), (207, .invokevirtual 199, 3, 29, 3, 0, 3), (210, .iconst (-1), 1, 0, 0, 0, 0), (211, .if_icmp .eq 22, 3, 0, 0, 0, 0), (214, .aload_n 0, 1, 0, 0, 0, 0), (215, .aload_n 0, 1, 0, 0, 0, 0), (216, .getfield 27, 3, 8, 0, 4, 0), (219, .getfield 179, 3, 3, 1, 4, 0), (222, .iconst 1, 1, 0, 0, 0, 0), (223, .invokevirtual 195, 3, 96, 3, 0, 8), (226, .ifCond .eq 7, 3, 0, 0, 0, 0), (229, .iconst 1, 1, 0, 0, 0, 0), (230, .goto 4, 3, 0, 0, 0, 0), (233, .iconst 0, 1, 0, 0, 0, 0), (234, .ireturn, 1, 0, 0, 0, 0), (235, .aload_n 0, 1, 0, 0, 0, 0), (236, .getfield 27, 3, 8, 0, 4, 0), (239, .getfield 86, 3, 3, 2, 4, 0), (242, .iload_n 1, 1, 0, 0, 0, 0), (243, .invokevirtual 176, 3, 52, 2, 0, 5), (246, .ifCond .ne 7, 3, 0, 0, 0, 0), (249, .iconst 1, 1, 0, 0, 0, 0), (250, .goto 4, 3, 0, 0, 0, 0), (253, .iconst 0, 1, 0, 0, 0, 0), (254, .ireturn, 1, 0, 0, 0, 0), (255, .aload_n 0, 1, 0, 0, 0, 0), (256, .getfield 27, 3, 8, 0, 4, 0), (259, .getfield 86, 3, 3, 2, 4, 0), (262, .iload_n 1, 1, 0, 0, 0, 0), (263, .invokevirtual 176, 3, 52, 2, 0, 5), (266, .ifCond .eq 27, 3, 0, 0, 0, 0), (269, .aload 4, 2, 0, 0, 0, 0), (271, .iload_n 2, 1, 0, 0, 0, 0), (272, .aload_n 0, 1, 0, 0, 0, 0), (273, .getfield 27, 3, 8, 0, 4, 0), (276, .getfield 86, 3, 3, 2, 4, 0), (279, .iload_n 1, 1, 0, 0, 0, 0), (280, .invokevirtual 176, 3, 52, 2, 0, 5), (283, .invokevirtual 192, 3, 44, 3, 0, 4), (286, .ifCond .eq 7, 3, 0, 0, 0, 0), (289, .iconst 1, 1, 0, 0, 0, 0), (290, .goto 4, 3, 0, 0, 0, 0), (293, .iconst 0, 1, 0, 0, 0, 0), (294, .ireturn, 1, 0, 0, 0, 0), (295, .iconst 1, 1, 0, 0, 0, 0), (296, .ireturn, 1, 0, 0, 0, 0)]
/-- KindJudge$Flow.fitsItsTypes(III)Z -/
def kjM_94 : mv_Me := (⟨"KindJudge$Flow", "fitsItsTypes", "(III)Z"⟩, prog_6_method_18_code, 5, (some .boolean), "KindJudge$Flow", kjT_94, 0, 0, 3, 68)
def kjT_95 : List mv_E := [(0, .iload_n 1, 1, 0, 0, 0, 0), (1, .istore_n 2, 1, 0, 0, 0, 0), (2, .aload_n 0, 1, 0, 0, 0, 0), (3, .getfield 127, 3, 8, 9, 0, 0), (6, .iload_n 2, 1, 0, 0, 0, 0), (7, .iadd, 1, 0, 0, 0, 0), (8, .aload_n 0, 1, 0, 0, 0, 0), (9, .getfield 117, 3, 8, 8, 0, 0), (12, .if_icmp .ge 20, 3, 0, 0, 0, 0), (15, .aload_n 0, 1, 0, 0, 0, 0), (16, .iload_n 2, 1, 0, 0, 0, 0), (17, .invokevirtual 166, 3, 92, 2, 0, 8), (20, .iconst 1, 1, 0, 0, 0, 0), (21, .if_icmp .eq 5, 3, 0, 0, 0, 0), (24, .iconst 0, 1, 0, 0, 0, 0), (25, .ireturn, 1, 0, 0, 0, 0), (26, .iinc 2 1, 3, 0, 0, 0, 0), (29, .goto (-27), 3, 0, 0, 0, 0), (32, .iconst 1, 1, 0, 0, 0, 0), (33, .ireturn, 1, 0, 0, 0, 0)]
/-- KindJudge$Flow.areInts(I)Z -/
def kjM_95 : mv_Me := (⟨"KindJudge$Flow", "areInts", "(I)Z"⟩, prog_6_method_19_code, 3, (some .boolean), "KindJudge$Flow", kjT_95, 0, 0, 2, 44)
def kjT_96 : List mv_E := [(0, .aload_n 1, 1, 0, 0, 0, 0), (1, .aload_n 0, 1, 0, 0, 0, 0), (2, .getfield 111, 3, 8, 6, 0, 0), (5, .invokevirtual 90, 3, 50, 2, 0, 5), (8, .istore_n 3, 1, 0, 0, 0, 0), (9, .iconst 0, 1, 0, 0, 0, 0), (10, .istore 4, 2, 0, 0, 0, 0), (12, .iload 4, 2, 0, 0, 0, 0), (14, .iload_n 3, 1, 0, 0, 0, 0), (15, .if_icmp .ge 42, 3, 0, 0, 0, 0), (18, .aload_n 0, 1, 0, 0, 0, 0), (19, .getfield 27, 3, 8, 0, 4, 0), (22, .getfield 157, 3, 3, 0, 4, 0), (25, .aload_n 0, 1, 0, 0, 0, 0), (26, .iload_n 2, 1, 0, 0, 0, 0), (27, .iload 4, 2, 0, 0, 0, 0), (29, .iadd, 1, 0, 0, 0, 0), (30, .invokevirtual 166, 3, 92, 2, 0, 8), (33, .aload_n 1, 1, 0, 0, 0, 0), (34, .aload_n 0, 1, 0, 0, 0, 0), (35, .getfield 111, 3, 8, 6, 0, 0), (38, .iload 4, 2, 0, 0, 0, 0), (40, .invokevirtual 95, 3, 51, 3, 0, 5), (43, .invokevirtual 192, 3, 44, 3, 0, 4), (46, .ifCond .ne 5, 3, 0, 0, 0, 0), (49, .iconst 0, 1, 0, 0, 0, 0), (50, .ireturn, 1, 0, 0, 0, 0), (51, .iinc 4 1, 3, 0, 0, 0, 0), (54, .goto (-42), 3, 0, 0, 0, 0), (57, .iconst 1, 1, 0, 0, 0, 0), (58, .ireturn, 1, 0, 0, 0, 0)]
/-- KindJudge$Flow.areParameters(LKindJudge$Signatures;I)Z -/
def kjM_96 : mv_Me := (⟨"KindJudge$Flow", "areParameters", "(LKindJudge$Signatures;I)Z"⟩, prog_6_method_20_code, 5, (some .boolean), "KindJudge$Flow", kjT_96, 0, 0, 2, 44)
def kjT_97 : List mv_E := [(0, .iload_n 0, 1, 0, 0, 0, 0), (1, .ifCond .eq 12, 3, 0, 0, 0, 0), (4, .iload_n 0, 1, 0, 0, 0, 0), (5, .iconst 1, 1, 0, 0, 0, 0), (6, .if_icmp .eq 7, 3, 0, 0, 0, 0), (9, .iconst 1, 1, 0, 0, 0, 0), (10, .goto 4, 3, 0, 0, 0, 0), (13, .iconst 0, 1, 0, 0, 0, 0), (14, .ireturn, 1, 0, 0, 0, 0)]
/-- KindJudge$Flow.isArrayOrObject(I)Z -/
def kjM_97 : mv_Me := (⟨"KindJudge$Flow", "isArrayOrObject", "(I)Z"⟩, prog_6_method_21_code, 1, (some .boolean), "KindJudge$Flow", kjT_97, 0, 0, 0, 0)
def kjT_98 : List mv_E := [(0, .lload_n 0, 1, 0, 0, 0, 0), (1, .iconst 4, 1, 0, 0, 0, 0), (2, .iload_n 2, 1, 0, 0, 0, 0), (3, .imul, 1, 0, 0, 0, 0), (4, .lushr, 1, 0, 0, 0, 0), (5, .l2i, 1, 0, 0, 0, 0), (6, .bipush 15, 2, 0, 0, 0, 0), (8, .iand, 1, 0, 0, 0, 0), (9, .istore_n 3, 1, 0, 0, 0, 0), (10, .iload_n 3, 1, 0, 0, 0, 0), (11, .iconst 3, 1, 0, 0, 0, 0), (12, .if_icmp .gt 7, 3, 0, 0, 0, 0), (15, .iload_n 3, 1, 0, 0, 0, 0), (16, .goto 11, 3, 0, 0, 0, 0), (19, .iload_n 3, 1, 0, 0, 0, 0), (20, .bipush 15, 2, 0, 0, 0, 0), (22, .iadd, 1, 0, 0, 0, 0), (23, .iconst 3, 1, 0, 0, 0, 0), (24, .isub, 1, 0, 0, 0, 0), (25, .iconst 1, 1, 0, 0, 0, 0), (26, .isub, 1, 0, 0, 0, 0), (27, .ireturn, 1, 0, 0, 0, 0)]
/-- KindJudge$Flow.kindIn(JI)I -/
def kjM_98 : mv_Me := (⟨"KindJudge$Flow", "kindIn", "(JI)I"⟩, prog_6_method_22_code, 4, (some .int), "KindJudge$Flow", kjT_98, 0, 0, 0, 0)
def kjT_99 : List mv_E := [(0, .iload_n 3, 1, 0, 0, 0, 0), (1, .iconst 3, 1, 0, 0, 0, 0), (2, .if_icmp .gt 8, 3, 0, 0, 0, 0), (5, .iload_n 3, 1, 0, 0, 0, 0), (6, .i2l, 1, 0, 0, 0, 0), (7, .goto 12, 3, 0, 0, 0, 0), (10, .iload_n 3, 1, 0, 0, 0, 0), (11, .bipush 15, 2, 0, 0, 0, 0), (13, .isub, 1, 0, 0, 0, 0), (14, .iconst 3, 1, 0, 0, 0, 0), (15, .iadd, 1, 0, 0, 0, 0), (16, .iconst 1, 1, 0, 0, 0, 0), (17, .iadd, 1, 0, 0, 0, 0), (18, .i2l, 1, 0, 0, 0, 0), (19, .lstore 4, 2, 0, 0, 0, 0), (21, .lload_n 0, 1, 0, 0, 0, 0), (22, .ldc2_w 202, 3, 15, 0, 0, 0), (25, .iconst 4, 1, 0, 0, 0, 0), (26, .iload_n 2, 1, 0, 0, 0, 0), (27, .imul, 1, 0, 0, 0, 0), (28, .lshl, 1, 0, 0, 0, 0), (29, .ldc2_w 204, 3, 18446744073709551615, 0, 0, 0), (32, .lxor, 1, 0, 0, 0, 0), (33, .land, 1, 0, 0, 0, 0), (34, .lload 4, 2, 0, 0, 0, 0), (36, .iconst 4, 1, 0, 0, 0, 0), (37, .iload_n 2, 1, 0, 0, 0, 0), (38, .imul, 1, 0, 0, 0, 0), (39, .lshl, 1, 0, 0, 0, 0), (40, .lor, 1, 0, 0, 0, 0), (41, .lreturn, 1, 0, 0, 0, 0)]
/-- KindJudge$Flow.with(JII)J -/
def kjM_99 : mv_Me := (⟨"KindJudge$Flow", "with", "(JII)J"⟩, prog_6_method_23_code, 6, (some .long), "KindJudge$Flow", kjT_99, 0, 0, 0, 0)
def kjT_100 : List mv_E := [(0, .aload_n 0, 1, 0, 0, 0, 0), (1, .invokespecial 1, 3, 0, 0, 3, 0), (4, .aload_n 0, 1, 0, 0, 0, 0), (5, .sipush 1500, 3, 0, 0, 0, 0), (8, .newarray .int, 2, 0, 0, 0, 0), (10, .putfield 7, 3, 9, 3, 4, 0), (13, .aload_n 0, 1, 0, 0, 0, 0), (14, .sipush 1500, 3, 0, 0, 0, 0), (17, .newarray .int, 2, 0, 0, 0, 0), (19, .putfield 13, 3, 9, 4, 4, 0), (22, .aload_n 0, 1, 0, 0, 0, 0), (23, .sipush 1500, 3, 0, 0, 0, 0), (26, .newarray .int, 2, 0, 0, 0, 0), (28, .putfield 16, 3, 9, 6, 4, 0), (31, .aload_n 0, 1, 0, 0, 0, 0), (32, .bipush 8, 2, 0, 0, 0, 0), (34, .newarray .int, 2, 0, 0, 0, 0), (36, .putfield 19, 3, 9, 13, 4, 0), (39, .aload_n 0, 1, 0, 0, 0, 0), (40, .bipush 8, 2, 0, 0, 0, 0), (42, .newarray .int, 2, 0, 0, 0, 0), (44, .putfield 22, 3, 9, 14, 4, 0), (47, .aload_n 0, 1, 0, 0, 0, 0), (48, .bipush 64, 2, 0, 0, 0, 0), (50, .newarray .int, 2, 0, 0, 0, 0), (52, .putfield 25, 3, 9, 15, 4, 0), (55, .aload_n 0, 1, 0, 0, 0, 0), (56, .bipush 8, 2, 0, 0, 0, 0), (58, .newarray .int, 2, 0, 0, 0, 0), (60, .putfield 28, 3, 9, 17, 4, 0), (63, .aload_n 0, 1, 0, 0, 0, 0), (64, .bipush 24, 2, 0, 0, 0, 0), (66, .newarray .int, 2, 0, 0, 0, 0), (68, .putfield 31, 3, 9, 18, 4, 0), (71, .aload_n 0, 1, 0, 0, 0, 0), (72, .bipush 8, 2, 0, 0, 0, 0), (74, .newarray .int, 2, 0, 0, 0, 0), (76, .putfield 34, 3, 9, 19, 4, 0), (79, .aload_n 0, 1, 0, 0, 0, 0), (80, .bipush 16, 2, 0, 0, 0, 0), (82, .newarray .int, 2, 0, 0, 0, 0), (84, .putfield 37, 3, 9, 21, 4, 0), (87, .aload_n 0, 1, 0, 0, 0, 0), (88, .bipush 64, 2, 0, 0, 0, 0), (90, .newarray .int, 2, 0, 0, 0, 0), (92, .putfield 40, 3, 9, 22, 4, 0), (95, .aload_n 0, 1, 0, 0, 0, 0), (96, .bipush 16, 2, 0, 0, 0, 0), (98, .newarray .int, 2, 0, 0, 0, 0), (100, .putfield 43, 3, 9, 23, 4, 0), (103, .aload_n 0, 1, 0, 0, 0, 0), (104, .bipush 16, 2, 0, 0, 0, 0), (106, .newarray .int, 2, 0, 0, 0, 0), (108, .putfield 46, 3, 9, 24, 4, 0), (111, .aload_n 0, 1, 0, 0, 0, 0), (112, .bipush 16, 2, 0, 0, 0, 0), (114, .newarray .int, 2, 0, 0, 0, 0), (116, .putfield 49, 3, 9, 25, 4, 0), (119, .aload_n 0, 1, 0, 0, 0, 0), (120, .bipush 16, 2, 0, 0, 0, 0), (122, .newarray .int, 2, 0, 0, 0, 0), (124, .putfield 52, 3, 9, 26, 4, 0), (127, .aload_n 0, 1, 0, 0, 0, 0), (128, .sipush 1920, 3, 0, 0, 0, 0), (131, .newarray .int, 2, 0, 0, 0, 0), (133, .putfield 55, 3, 9, 27, 4, 0), (136, .aload_n 0, 1, 0, 0, 0, 0), (137, .sipush 1920, 3, 0, 0, 0, 0), (140, .newarray .boolean, 2, 0, 0, 1, 0), (142, .putfield 58, 3, 9, 28, 4, 0), (145, .aload_n 0, 1, 0, 0, 0, 0), (146, .bipush 64, 2, 0, 0, 0, 0), (148, .newarray .int, 2, 0, 0, 0, 0), (150, .putfield 62, 3, 9, 29, 4, 0), (153, .aload_n 0, 1, 0, 0, 0, 0), (154, .sipush 1920, 3, 0, 0, 0, 0), (157, .newarray .int, 2, 0, 0, 0, 0), (159, .putfield 65, 3, 9, 30, 4, 0), (162, .aload_n 0, 1, 0, 0, 0, 0), (163, .sipush 30720, 3, 0, 0, 0, 0), (166, .newarray .int, 2, 0, 0, 0, 0), (168, .putfield 68, 3, 9, 31, 4, 0), (171, .aload_n 0, 1, 0, 0, 0, 0), (172, .bipush 16, 2, 0, 0, 0, 0), (174, .newarray .int, 2, 0, 0, 0, 0), (176, .putfield 71, 3, 9, 32, 4, 0), (179, .return_, 1, 0, 0, 0, 0)]
/-- KindJudgeModel.<init>()V -/
def kjM_100 : mv_Me := (⟨"KindJudgeModel", "<init>", "()V"⟩, prog_11_method_1_code, 1, none, "KindJudgeModel", kjT_100, 21, 41324, 1, 20)
def kjT_101 : List mv_E := [(0, .aload_n 0, 1, 0, 0, 0, 0), (1, .getfield 74, 3, 9, 0, 0, 0), (4, .ireturn, 1, 0, 0, 0, 0)]
/-- KindJudgeModel.thrown()I -/
def kjM_101 : mv_Me := (⟨"KindJudgeModel", "thrown", "()I"⟩, prog_11_method_2_code, 1, (some .int), "KindJudgeModel", kjT_101, 0, 0, 0, 0)
def kjT_102 : List mv_E := [(0, .aload_n 0, 1, 0, 0, 0, 0), (1, .iload_n 1, 1, 0, 0, 0, 0), (2, .putfield 74, 3, 9, 0, 0, 0), (5, .iconst 0, 1, 0, 0, 0, 0), (6, .ireturn, 1, 0, 0, 0, 0)]
/-- KindJudgeModel.raise(I)I -/
def kjM_102 : mv_Me := (⟨"KindJudgeModel", "raise", "(I)I"⟩, prog_11_method_3_code, 2, (some .int), "KindJudgeModel", kjT_102, 0, 0, 0, 0)
def kjT_103 : List mv_E := [(0, .iload_n 0, 1, 0, 0, 0, 0), (1, .iload_n 1, 1, 0, 0, 0, 0), (2, .if_icmp .lt 12, 3, 0, 0, 0, 0), (5, .iload_n 0, 1, 0, 0, 0, 0), (6, .iload_n 2, 1, 0, 0, 0, 0), (7, .if_icmp .gt 7, 3, 0, 0, 0, 0), (10, .iconst 1, 1, 0, 0, 0, 0), (11, .goto 4, 3, 0, 0, 0, 0), (14, .iconst 0, 1, 0, 0, 0, 0), (15, .ireturn, 1, 0, 0, 0, 0)]
/-- KindJudgeModel.within(III)Z -/
def kjM_103 : mv_Me := (⟨"KindJudgeModel", "within", "(III)Z"⟩, prog_11_method_4_code, 3, (some .boolean), "KindJudgeModel", kjT_103, 0, 0, 0, 0)
def kjT_104 : List mv_E := [(0, .aload_n 0, 1, 0, 0, 0, 0), (1, .iconst 0, 1, 0, 0, 0, 0), (2, .putfield 74, 3, 9, 0, 0, 0), (5, .iload_n 3, 1, 0, 0, 0, 0), (6, .iconst 1, 1, 0, 0, 0, 0), (7, .if_icmp .lt 21, 3, 0, 0, 0, 0), (10, .iload_n 3, 1, 0, 0, 0, 0), (11, .bipush 8, 2, 0, 0, 0, 0), (13, .if_icmp .gt 15, 3, 0, 0, 0, 0), (16, .aload_n 0, 1, 0, 0, 0, 0), (17, .getfield 78, 3, 9, 2, 0, 0), (20, .iload_n 3, 1, 0, 0, 0, 0), (21, .iadd, 1, 0, 0, 0, 0), (22, .sipush 1500, 3, 0, 0, 0, 0), (25, .if_icmp .le 5, 3, 0, 0, 0, 0), (28, .iconst 0, 1, 0, 0, 0, 0), (29, .ireturn, 1, 0, 0, 0, 0), (30, .iload_n 3, 1, 0, 0, 0, 0), (31, .iconst 1, 1, 0, 0, 0, 0), (32, .isub, 1, 0, 0, 0, 0), (33, .istore 4, 2, 0, 0, 0, 0), (35, .iload 4, 2, 0, 0, 0, 0), (37, .ifCond .lt 40, 3, 0, 0, 0, 0), (40, .aload_n 0, 1, 0, 0, 0, 0), (41, .getfield 7, 3, 9, 3, 4, 0), (44, .aload_n 0, 1, 0, 0, 0, 0), (45, .getfield 78, 3, 9, 2, 0, 0), (48, .lload_n 1, 1, 0, 0, 0, 0), (49, .bipush 8, 2, 0, 0, 0, 0), (51, .iload 4, 2, 0, 0, 0, 0), (53, .imul, 1, 0, 0, 0, 0), (54, .lshr, 1, 0, 0, 0, 0), (55, .ldc2_w 81, 3, 255, 0, 0, 0), (58, .land, 1, 0, 0, 0, 0), (59, .l2i, 1, 0, 0, 0, 0), (60, .iastore, 1, 0, 0, 0, 0), (61, .aload_n 0, 1, 0, 0, 0, 0), (62, .dup, 1, 0, 0, 0, 0), (63, .getfield 78, 3, 9, 2, 0, 0), (66, .iconst 1, 1, 0, 0, 0, 0), (67, .iadd, 1, 0, 0, 0, 0), (68, .putfield 78, 3, 9, 2, 0, 0), (71, .iinc 4 (-1), 3, 0, 0, 0, 0), (74, .goto (-39), 3, 0, 0, 0, 0), (77, .iconst 1, 1, 0, 0, 0, 0), (78, .ireturn, 1, 0, 0, 0, 0)]
/-- KindJudgeModel.put(JI)Z -/
def kjM_104 : mv_Me := (⟨"KindJudgeModel", "put", "(JI)Z"⟩, prog_11_method_5_code, 5, (some .boolean), "KindJudgeModel", kjT_104, 0, 0, 0, 0)
def kjT_105 : List mv_E := [(0, .aload_n 0, 1, 0, 0, 0, 0), (1, .getfield 83, 3, 9, 36, 1, 0), (4, .ifCond .eq 5, 3, 0, 0, 0, 0), (7, .iconst 0, 1, 0, 0, 0, 0), (8, .ireturn, 1, 0, 0, 0, 0), (9, .aload_n 0, 1, 0, 0, 0, 0), (10, .getfield 87, 3, 9, 35, 0, 0), (13, .aload_n 0, 1, 0, 0, 0, 0), (14, .getfield 90, 3, 9, 5, 0, 0), (17, .if_icmp .ge 20, 3, 0, 0, 0, 0), (20, .aload_n 0, 1, 0, 0, 0, 0), (21, .getfield 13, 3, 9, 4, 4, 0), (24, .aload_n 0, 1, 0, 0, 0, 0), (25, .getfield 87, 3, 9, 35, 0, 0), (28, .iaload, 1, 0, 0, 0, 0), (29, .iload_n 1, 1, 0, 0, 0, 0), (30, .iload_n 2, 1, 0, 0, 0, 0), (31, .invokestatic 93, 3, 103, 3, 1, 0), (34, .ifCond .ne 10, 3, 0, 0, 0, 0), (37, .aload_n 0, 1, 0, 0, 0, 0), (38, .iconst 1, 1, 0, 0, 0, 0), (39, .putfield 83, 3, 9, 36, 1, 0), (42, .iconst 0, 1, 0, 0, 0, 0), (43, .ireturn, 1, 0, 0, 0, 0), (44, .aload_n 0, 1, 0, 0, 0, 0), (45, .dup, 1, 0, 0, 0, 0), (46, .getfield 87, 3, 9, 35, 0, 0), (49, .iconst 1, 1, 0, 0, 0, 0), (50, .iadd, 1, 0, 0, 0, 0), (51, .putfield 87, 3, 9, 35, 0, 0), (54, .aload_n 0, 1, 0, 0, 0, 0), (55, .getfield 13, 3, 9, 4, 4, 0), (58, .aload_n 0, 1, 0, 0, 0, 0), (59, .getfield 87, 3, 9, 35, 0, 0), (62, .iconst 1, 1, 0, 0, 0, 0), (63, .isub, 1, 0, 0, 0, 0), (64, .iaload, 1, 0, 0, 0, 0), (65, .ireturn, 1, 0, 0, 0, 0)]
/-- KindJudgeModel.next(II)I -/
def kjM_105 : mv_Me := (⟨"KindJudgeModel", "next", "(II)I"⟩, prog_11_method_6_code, 3, (some .int), "KindJudgeModel", kjT_105, 0, 0, 1, 22)
def kjT_106 : List mv_E := [(0, .aload_n 0, 1, 0, 0, 0, 0), (1, .getfield 83, 3, 9, 36, 1, 0), (4, .ifCond .eq 5, 3, 0, 0, 0, 0), (7, .iconst 0, 1, 0, 0, 0, 0), (8, .ireturn, 1, 0, 0, 0, 0), (9, .aload_n 0, 1, 0, 0, 0, 0), (10, .getfield 87, 3, 9, 35, 0, 0), (13, .aload_n 0, 1, 0, 0, 0, 0), (14, .getfield 90, 3, 9, 5, 0, 0), (17, .if_icmp .ge 15, 3, 0, 0, 0, 0), (20, .aload_n 0, 1, 0, 0, 0, 0), (21, .getfield 13, 3, 9, 4, 4, 0), (24, .aload_n 0, 1, 0, 0, 0, 0), (25, .getfield 87, 3, 9, 35, 0, 0), (28, .iaload, 1, 0, 0, 0, 0), (29, .goto 4, 3, 0, 0, 0, 0), (32, .iconst (-1), 1, 0, 0, 0, 0), (33, .istore_n 2, 1, 0, 0, 0, 0), (34, .iload_n 2, 1, 0, 0, 0, 0), (35, .iconst 1, 1, 0, 0, 0, 0), (36, .if_icmp .eq 33, 3, 0, 0, 0, 0), (39, .iload_n 2, 1, 0, 0, 0, 0), (40, .iconst 2, 1, 0, 0, 0, 0), (41, .if_icmp .eq 28, 3, 0, 0, 0, 0), (44, .iload_n 2, 1, 0, 0, 0, 0), (45, .bipush 16, 2, 0, 0, 0, 0), (47, .if_icmp .lt 14, 3, 0, 0, 0, 0), (50, .iload_n 2, 1, 0, 0, 0, 0), (51, .bipush 16, 2, 0, 0, 0, 0), (53, .aload_n 0, 1, 0, 0, 0, 0), (54, .getfield 97, 3, 9, 12, 0, 0), (57, .iadd, 1, 0, 0, 0, 0), (58, .if_icmp .lt 11, 3, 0, 0, 0, 0), (61, .iload_n 1, 1, 0, 0, 0, 0), (62, .ifCond .eq 11, 3, 0, 0, 0, 0), (65, .iload_n 2, 1, 0, 0, 0, 0), (66, .ifCond .ne 7, 3, 0, 0, 0, 0), (69, .iconst 1, 1, 0, 0, 0, 0), (70, .goto 4, 3, 0, 0, 0, 0), (73, .iconst 0, 1, 0, 0, 0, 0), (74, .istore_n 3, 1, 0, 0, 0, 0), (75, .iload_n 3, 1, 0, 0, 0, 0), (76, .ifCond .ne 10, 3, 0, 0, 0, 0), (79, .aload_n 0, 1, 0, 0, 0, 0), (80, .iconst 1, 1, 0, 0, 0, 0), (81, .putfield 83, 3, 9, 36, 1, 0), (84, .iconst 0, 1, 0, 0, 0, 0), (85, .ireturn, 1, 0, 0, 0, 0), (86, .aload_n 0, 1, 0, 0, 0, 0), (87, .dup, 1, 0, 0, 0, 0), (88, .getfield 87, 3, 9, 35, 0, 0), (91, .iconst 1, 1, 0, 0, 0, 0), (92, .iadd, 1, 0, 0, 0, 0), (93, .putfield 87, 3, 9, 35, 0, 0), (96, .iload_n 2, 1, 0, 0, 0, 0), (97, .ireturn, 1, 0, 0, 0, 0)]
/-- KindJudgeModel.readType(Z)I -/
def kjM_106 : mv_Me := (⟨"KindJudgeModel", "readType", "(Z)I"⟩, prog_11_method_7_code, 4, (some .int), "KindJudgeModel", kjT_106, 0, 0, 0, 0)
def kjT_107 : List mv_E := [(0, .aload_n 0, 1, 0, 0, 0, 0), (1, .iconst 0, 1, 0, 0, 0, 0), (2, .iload_n 1, 1, 0, 0, 0, 0), (3, .invokevirtual 100, 3, 105, 3, 0, 9), (6, .istore_n 2, 1, 0, 0, 0, 0), (7, .aload_n 0, 1, 0, 0, 0, 0), (8, .getfield 19, 3, 9, 13, 4, 0), (11, .iload_n 1, 1, 0, 0, 0, 0), (12, .iload_n 2, 1, 0, 0, 0, 0), (13, .iconst 1, 1, 0, 0, 0, 0), (14, .isub, 1, 0, 0, 0, 0), (15, .iastore, 1, 0, 0, 0, 0), (16, .iload_n 2, 1, 0, 0, 0, 0), (17, .ifCond .ne 7, 3, 0, 0, 0, 0), (20, .iconst 0, 1, 0, 0, 0, 0), (21, .goto 11, 3, 0, 0, 0, 0), (24, .aload_n 0, 1, 0, 0, 0, 0), (25, .getfield 22, 3, 9, 14, 4, 0), (28, .iload_n 2, 1, 0, 0, 0, 0), (29, .iconst 1, 1, 0, 0, 0, 0), (30, .isub, 1, 0, 0, 0, 0), (31, .iaload, 1, 0, 0, 0, 0), (32, .istore_n 3, 1, 0, 0, 0, 0), (33, .bipush 8, 2, 0, 0, 0, 0), (35, .iload_n 3, 1, 0, 0, 0, 0), (36, .isub, 1, 0, 0, 0, 0), (37, .istore 4, 2, 0, 0, 0, 0), (39, .aload_n 0, 1, 0, 0, 0, 0), (40, .iconst 0, 1, 0, 0, 0, 0), (41, .iload 4, 2, 0, 0, 0, 0), (43, .iconst 4, 1, 0, 0, 0, 0), (44, .if_icmp .ge 8, 3, 0, 0, 0, 0), (47, .iload 4, 2, 0, 0, 0, 0), (49, .goto 4, 3, 0, 0, 0, 0), (52, .iconst 4, 1, 0, 0, 0, 0), (53, .invokevirtual 100, 3, 105, 3, 0, 9), (56, .istore 5, 2, 0, 0, 0, 0), (58, .aload_n 0, 1, 0, 0, 0, 0), (59, .getfield 22, 3, 9, 14, 4, 0), (62, .iload_n 1, 1, 0, 0, 0, 0), (63, .iload_n 3, 1, 0, 0, 0, 0), (64, .iload 5, 2, 0, 0, 0, 0), (66, .iadd, 1, 0, 0, 0, 0), (67, .iastore, 1, 0, 0, 0, 0), (68, .iconst 0, 1, 0, 0, 0, 0), (69, .istore 6, 2, 0, 0, 0, 0), (71, .iload 6, 2, 0, 0, 0, 0), (73, .iload_n 3, 1, 0, 0, 0, 0), (74, .if_icmp .ge 35, 3, 0, 0, 0, 0), (77, .aload_n 0, 1, 0, 0, 0, 0), (78, .getfield 25, 3, 9, 15, 4, 0), (81, .bipush 8, 2, 0, 0, 0, 0), (83, .iload_n 1, 1, 0, 0, 0, 0), (84, .imul, 1, 0, 0, 0, 0), (85, .iload 6, 2, 0, 0, 0, 0), (87, .iadd, 1, 0, 0, 0, 0), (88, .aload_n 0, 1, 0, 0, 0, 0), (89, .getfield 25, 3, 9, 15, 4, 0), (92, .bipush 8, 2, 0, 0, 0, 0), (94, .iload_n 2, 1, 0, 0, 0, 0), (95, .iconst 1, 1, 0, 0, 0, 0), (96, .isub, 1, 0, 0, 0, 0), (97, .imul, 1, 0, 0, 0, 0), (98, .iload 6, 2, 0, 0, 0, 0), (100, .iadd, 1, 0, 0, 0, 0), (101, .iaload, 1, 0, 0, 0, 0), (102, .iastore, 1, 0, 0, 0, 0), (103, .iinc 6 1, 3, 0, 0, 0, 0), (106, .goto (-35), 3, 0, 0, 0, 0), (109, .iload_n 3, 1, 0, 0, 0, 0), (110, .istore 6, 2, 0, 0, 0, 0), (112, .iload 6, 2, 0, 0, 0, 0), (114, .iload_n 3, 1, 0, 0, 0, 0), (115, .iload 5, 2, 0, 0, 0, 0), (117, .iadd, 1, 0, 0, 0, 0), (118, .if_icmp .ge 26, 3, 0, 0, 0, 0), (121, .aload_n 0, 1, 0, 0, 0, 0), (122, .getfield 25, 3, 9, 15, 4, 0), (125, .bipush 8, 2, 0, 0, 0, 0), (127, .iload_n 1, 1, 0, 0, 0, 0), (128, .imul, 1, 0, 0, 0, 0), (129, .iload 6, 2, 0, 0, 0, 0), (131, .iadd, 1, 0, 0, 0, 0), (132, .aload_n 0, 1, 0, 0, 0, 0), (133, .iconst 0, 1, 0, 0, 0, 0), (134, .invokevirtual 103, 3, 106, 2, 0, 9), (137, .iastore, 1, 0, 0, 0, 0), (138, .iinc 6 1, 3, 0, 0, 0, 0), (141, .goto (-29), 3, 0, 0, 0, 0), (144, .return_, 1, 0, 0, 0, 0)]
/-- KindJudgeModel.readClass(I)V -/
def kjM_107 : mv_Me := (⟨"KindJudgeModel", "readClass", "(I)V"⟩, prog_11_method_8_code, 7, none, "KindJudgeModel", kjT_107, 0, 0, 2, 44)
def kjT_108 : List mv_E := [(0, .aload_n 0, 1, 0, 0, 0, 0), (1, .getfield 28, 3, 9, 17, 4, 0), (4, .iload_n 1, 1, 0, 0, 0, 0), (5, .aload_n 0, 1, 0, 0, 0, 0), (6, .iconst 0, 1, 0, 0, 0, 0), (7, .iconst 3, 1, 0, 0, 0, 0), (8, .invokevirtual 100, 3, 105, 3, 0, 9), (11, .iastore, 1, 0, 0, 0, 0), (12, .iconst 0, 1, 0, 0, 0, 0), (13, .istore_n 2, 1, 0, 0, 0, 0), (14, .iload_n 2, 1, 0, 0, 0, 0), (15, .aload_n 0, 1, 0, 0, 0, 0), (16, .getfield 28, 3, 9, 17, 4, 0), (19, .iload_n 1, 1, 0, 0, 0, 0), (20, .iaload, 1, 0, 0, 0, 0), (21, .if_icmp .ge 24, 3, 0, 0, 0, 0), (24, .aload_n 0, 1, 0, 0, 0, 0), (25, .getfield 31, 3, 9, 18, 4, 0), (28, .iconst 3, 1, 0, 0, 0, 0), (29, .iload_n 1, 1, 0, 0, 0, 0), (30, .imul, 1, 0, 0, 0, 0), (31, .iload_n 2, 1, 0, 0, 0, 0), (32, .iadd, 1, 0, 0, 0, 0), (33, .aload_n 0, 1, 0, 0, 0, 0), (34, .iconst 0, 1, 0, 0, 0, 0), (35, .invokevirtual 103, 3, 106, 2, 0, 9), (38, .iastore, 1, 0, 0, 0, 0), (39, .iinc 2 1, 3, 0, 0, 0, 0), (42, .goto (-28), 3, 0, 0, 0, 0), (45, .aload_n 0, 1, 0, 0, 0, 0), (46, .getfield 34, 3, 9, 19, 4, 0), (49, .iload_n 1, 1, 0, 0, 0, 0), (50, .aload_n 0, 1, 0, 0, 0, 0), (51, .iconst 1, 1, 0, 0, 0, 0), (52, .invokevirtual 103, 3, 106, 2, 0, 9), (55, .iastore, 1, 0, 0, 0, 0), (56, .return_, 1, 0, 0, 0, 0)]
/-- KindJudgeModel.readSelector(I)V -/
def kjM_108 : mv_Me := (⟨"KindJudgeModel", "readSelector", "(I)V"⟩, prog_11_method_9_code, 3, none, "KindJudgeModel", kjT_108, 0, 0, 2, 44)
def kjT_109 : List mv_E := [(0, .aload_n 0, 1, 0, 0, 0, 0), (1, .getfield 37, 3, 9, 21, 4, 0), (4, .iload_n 1, 1, 0, 0, 0, 0), (5, .aload_n 0, 1, 0, 0, 0, 0), (6, .iconst 0, 1, 0, 0, 0, 0), (7, .iconst 4, 1, 0, 0, 0, 0), (8, .invokevirtual 100, 3, 105, 3, 0, 9), (11, .iastore, 1, 0, 0, 0, 0), (12, .iconst 0, 1, 0, 0, 0, 0), (13, .istore_n 2, 1, 0, 0, 0, 0), (14, .iload_n 2, 1, 0, 0, 0, 0), (15, .aload_n 0, 1, 0, 0, 0, 0), (16, .getfield 37, 3, 9, 21, 4, 0), (19, .iload_n 1, 1, 0, 0, 0, 0), (20, .iaload, 1, 0, 0, 0, 0), (21, .if_icmp .ge 24, 3, 0, 0, 0, 0), (24, .aload_n 0, 1, 0, 0, 0, 0), (25, .getfield 40, 3, 9, 22, 4, 0), (28, .iconst 4, 1, 0, 0, 0, 0), (29, .iload_n 1, 1, 0, 0, 0, 0), (30, .imul, 1, 0, 0, 0, 0), (31, .iload_n 2, 1, 0, 0, 0, 0), (32, .iadd, 1, 0, 0, 0, 0), (33, .aload_n 0, 1, 0, 0, 0, 0), (34, .iconst 0, 1, 0, 0, 0, 0), (35, .invokevirtual 103, 3, 106, 2, 0, 9), (38, .iastore, 1, 0, 0, 0, 0), (39, .iinc 2 1, 3, 0, 0, 0, 0), (42, .goto (-28), 3, 0, 0, 0, 0), (45, .aload_n 0, 1, 0, 0, 0, 0), (46, .getfield 43, 3, 9, 23, 4, 0), (49, .iload_n 1, 1, 0, 0, 0, 0), (50, .aload_n 0, 1, 0, 0, 0, 0), (51, .iconst 1, 1, 0, 0, 0, 0), (52, .invokevirtual 103, 3, 106, 2, 0, 9), (55, .iastore, 1, 0, 0, 0, 0), (56, .aload_n 0, 1, 0, 0, 0, 0), (57, .getfield 46, 3, 9, 24, 4, 0), (60, .iload_n 1, 1, 0, 0, 0, 0), (61, .aload_n 0, 1, 0, 0, 0, 0), (62, .aload_n 0, 1, 0, 0, 0, 0), (63, .getfield 37, 3, 9, 21, 4, 0), (66, .iload_n 1, 1, 0, 0, 0, 0), (67, .iaload, 1, 0, 0, 0, 0), (68, .bipush 8, 2, 0, 0, 0, 0), (70, .invokevirtual 100, 3, 105, 3, 0, 9), (73, .iastore, 1, 0, 0, 0, 0), (74, .aload_n 0, 1, 0, 0, 0, 0), (75, .getfield 49, 3, 9, 25, 4, 0), (78, .iload_n 1, 1, 0, 0, 0, 0), (79, .aload_n 0, 1, 0, 0, 0, 0), (80, .iconst 0, 1, 0, 0, 0, 0), (81, .bipush 8, 2, 0, 0, 0, 0), (83, .invokevirtual 100, 3, 105, 3, 0, 9), (86, .iastore, 1, 0, 0, 0, 0), (87, .aload_n 0, 1, 0, 0, 0, 0), (88, .getfield 52, 3, 9, 26, 4, 0), (91, .iload_n 1, 1, 0, 0, 0, 0), (92, .aload_n 0, 1, 0, 0, 0, 0), (93, .iconst 1, 1, 0, 0, 0, 0), (94, .bipush 120, 2, 0, 0, 0, 0), (96, .invokevirtual 100, 3, 105, 3, 0, 9), (99, .iastore, 1, 0, 0, 0, 0), (100, .iconst 0, 1, 0, 0, 0, 0), (101, .istore_n 2, 1, 0, 0, 0, 0), (102, .iload_n 2, 1, 0, 0, 0, 0), (103, .aload_n 0, 1, 0, 0, 0, 0), (104, .getfield 52, 3, 9, 26, 4, 0), (107, .iload_n 1, 1, 0, 0, 0, 0), (108, .iaload, 1, 0, 0, 0, 0), (109, .if_icmp .ge 28, 3, 0, 0, 0, 0), (112, .aload_n 0, 1, 0, 0, 0, 0), (113, .getfield 55, 3, 9, 27, 4, 0), (116, .bipush 120, 2, 0, 0, 0, 0), (118, .iload_n 1, 1, 0, 0, 0, 0), (119, .imul, 1, 0, 0, 0, 0), (120, .iload_n 2, 1, 0, 0, 0, 0), (121, .iadd, 1, 0, 0, 0, 0), (122, .aload_n 0, 1, 0, 0, 0, 0), (123, .iconst 0, 1, 0, 0, 0, 0), (124, .sipush 255, 3, 0, 0, 0, 0), (127, .invokevirtual 100, 3, 105, 3, 0, 9), (130, .iastore, 1, 0, 0, 0, 0), (131, .iinc 2 1, 3, 0, 0, 0, 0), (134, .goto (-32), 3, 0, 0, 0, 0), (137, .return_, 1, 0, 0, 0, 0)]
/-- KindJudgeModel.readMethod(I)V -/
def kjM_109 : mv_Me := (⟨"KindJudgeModel", "readMethod", "(I)V"⟩, prog_11_method_10_code, 3, none, "KindJudgeModel", kjT_109, 0, 0, 2, 44)
def kjT_110 : List mv_E := [(0, .aload_n 0, 1, 0, 0, 0, 0), (1, .getfield 19, 3, 9, 13, 4, 0), (4, .iload_n 1, 1, 0, 0, 0, 0), (5, .iaload, 1, 0, 0, 0, 0), (6, .istore_n 3, 1, 0, 0, 0, 0), (7, .iload_n 3, 1, 0, 0, 0, 0), (8, .ifCond .lt 18, 3, 0, 0, 0, 0), (11, .iload_n 3, 1, 0, 0, 0, 0), (12, .iload_n 2, 1, 0, 0, 0, 0), (13, .if_icmp .eq 13, 3, 0, 0, 0, 0), (16, .aload_n 0, 1, 0, 0, 0, 0), (17, .getfield 19, 3, 9, 13, 4, 0), (20, .iload_n 3, 1, 0, 0, 0, 0), (21, .iaload, 1, 0, 0, 0, 0), (22, .istore_n 3, 1, 0, 0, 0, 0), (23, .goto (-16), 3, 0, 0, 0, 0), (26, .iload_n 3, 1, 0, 0, 0, 0), (27, .ifCond .lt 7, 3, 0, 0, 0, 0), (30, .iconst 1, 1, 0, 0, 0, 0), (31, .goto 4, 3, 0, 0, 0, 0), (34, .iconst 0, 1, 0, 0, 0, 0), (35, .ireturn, 1, 0, 0, 0, 0)]
/-- KindJudgeModel.isBelow(II)Z -/
def kjM_110 : mv_Me := (⟨"KindJudgeModel", "isBelow", "(II)Z"⟩, prog_11_method_11_code, 4, (some .boolean), "KindJudgeModel", kjT_110, 0, 0, 0, 0)
def kjT_111 : List mv_E := [(0, .iload_n 1, 1, 0, 0, 0, 0), (1, .iload_n 2, 1, 0, 0, 0, 0), (2, .if_icmp .eq 12, 3, 0, 0, 0, 0), (5, .aload_n 0, 1, 0, 0, 0, 0), (6, .iload_n 1, 1, 0, 0, 0, 0), (7, .iload_n 2, 1, 0, 0, 0, 0), (8, .invokevirtual 107, 3, 110, 3, 0, 9), (11, .ifCond .eq 7, 3, 0, 0, 0, 0), (14, .iconst 1, 1, 0, 0, 0, 0), (15, .goto 4, 3, 0, 0, 0, 0), (18, .iconst 0, 1, 0, 0, 0, 0), (19, .ireturn, 1, 0, 0, 0, 0)]
/-- KindJudgeModel.isOf(II)Z -/
def kjM_111 : mv_Me := (⟨"KindJudgeModel", "isOf", "(II)Z"⟩, prog_11_method_12_code, 3, (some .boolean), "KindJudgeModel", kjT_111, 0, 0, 1, 23)
def kjT_112 : List mv_E := [(0, .aload_n 0, 1, 0, 0, 0, 0), (1, .getfield 37, 3, 9, 21, 4, 0), (4, .iload_n 3, 1, 0, 0, 0, 0), (5, .iaload, 1, 0, 0, 0, 0), (6, .aload_n 0, 1, 0, 0, 0, 0), (7, .getfield 28, 3, 9, 17, 4, 0), (10, .iload_n 2, 1, 0, 0, 0, 0), (11, .iaload, 1, 0, 0, 0, 0), (12, .iconst 1, 1, 0, 0, 0, 0), (13, .iadd, 1, 0, 0, 0, 0), (14, .if_icmp .ne 50, 3, 0, 0, 0, 0), (17, .aload_n 0, 1, 0, 0, 0, 0), (18, .getfield 43, 3, 9, 23, 4, 0), (21, .iload_n 3, 1, 0, 0, 0, 0), (22, .iaload, 1, 0, 0, 0, 0), (23, .aload_n 0, 1, 0, 0, 0, 0), (24, .getfield 34, 3, 9, 19, 4, 0), (27, .iload_n 2, 1, 0, 0, 0, 0), (28, .iaload, 1, 0, 0, 0, 0), (29, .if_icmp .ne 35, 3, 0, 0, 0, 0), (32, .aload_n 0, 1, 0, 0, 0, 0), (33, .getfield 40, 3, 9, 22, 4, 0), (36, .iconst 4, 1, 0, 0, 0, 0), (37, .iload_n 3, 1, 0, 0, 0, 0), (38, .imul, 1, 0, 0, 0, 0), (39, .iaload, 1, 0, 0, 0, 0), (40, .bipush 16, 2, 0, 0, 0, 0), (42, .if_icmp .lt 22, 3, 0, 0, 0, 0), (45, .aload_n 0, 1, 0, 0, 0, 0), (46, .iload_n 1, 1, 0, 0, 0, 0), (47, .aload_n 0, 1, 0, 0, 0, 0), (48, .getfield 40, 3, 9, 22, 4, 0), (51, .iconst 4, 1, 0, 0, 0, 0), (52, .iload_n 3, 1, 0, 0, 0, 0), (53, .imul, 1, 0, 0, 0, 0), (54, .iaload, 1, 0, 0, 0, 0), (55, .bipush 16, 2, 0, 0, 0, 0), (57, .isub, 1, 0, 0, 0, 0), (58, .invokevirtual 111, 3, 111, 3, 0, 9), (61, .ifCond .ne 5, 3, 0, 0, 0, 0), (64, .iconst 0, 1, 0, 0, 0, 0), (65, .ireturn, 1, 0, 0, 0, 0), (66, .iconst 0, 1, 0, 0, 0, 0), (67, .istore 4, 2, 0, 0, 0, 0), (69, .iload 4, 2, 0, 0, 0, 0), (71, .aload_n 0, 1, 0, 0, 0, 0), (72, .getfield 28, 3, 9, 17, 4, 0), (75, .iload_n 2, 1, 0, 0, 0, 0), (76, .iaload, 1, 0, 0, 0, 0), (77, .if_icmp .ge 38, 3, 0, 0, 0, 0), (80, .aload_n 0, 1, 0, 0, 0, 0), (81, .getfield 40, 3, 9, 22, 4, 0), (84, .iconst 4, 1, 0, 0, 0, 0), (85, .iload_n 3, 1, 0, 0, 0, 0), (86, .imul, 1, 0, 0, 0, 0), (87, .iconst 1, 1, 0, 0, 0, 0), (88, .iadd, 1, 0, 0, 0, 0), (89, .iload 4, 2, 0, 0, 0, 0), (91, .iadd, 1, 0, 0, 0, 0), (92, .iaload, 1, 0, 0, 0, 0), (93, .aload_n 0, 1, 0, 0, 0, 0), (94, .getfield 31, 3, 9, 18, 4, 0), (97, .iconst 3, 1, 0, 0, 0, 0), (98, .iload_n 2, 1, 0, 0, 0, 0), (99, .imul, 1, 0, 0, 0, 0), (100, .iload 4, 2, 0, 0, 0, 0), (102, .iadd, 1, 0, 0, 0, 0), (103, .iaload, 1, 0, 0, 0, 0), (104, .if_icmp .eq 5, 3, 0, 0, 0, 0), (107, .iconst 0, 1, 0, 0, 0, 0), (108, .ireturn, 1, 0, 0, 0, 0), (109, .iinc 4 1, 3, 0, 0, 0, 0), (112, .goto (-43), 3, 0, 0, 0, 0), (115, .iconst 1, 1, 0, 0, 0, 0), (116, .ireturn, 1, 0, 0, 0, 0)]
/-- KindJudgeModel.mayStand(III)Z -/
def kjM_112 : mv_Me := (⟨"KindJudgeModel", "mayStand", "(III)Z"⟩, prog_11_method_13_code, 5, (some .boolean), "KindJudgeModel", kjT_112, 0, 0, 2, 45)
def kjT_113 : List mv_E := [(0, .aload_n 0, 1, 0, 0, 0, 0), (1, .iconst 0, 1, 0, 0, 0, 0), (2, .aload_n 0, 1, 0, 0, 0, 0), (3, .getfield 114, 3, 9, 20, 0, 0), (6, .invokevirtual 100, 3, 105, 3, 0, 9), (9, .istore_n 3, 1, 0, 0, 0, 0), (10, .aload_n 0, 1, 0, 0, 0, 0), (11, .getfield 62, 3, 9, 29, 4, 0), (14, .bipush 8, 2, 0, 0, 0, 0), (16, .iload_n 1, 1, 0, 0, 0, 0), (17, .imul, 1, 0, 0, 0, 0), (18, .iload_n 2, 1, 0, 0, 0, 0), (19, .iadd, 1, 0, 0, 0, 0), (20, .iload_n 3, 1, 0, 0, 0, 0), (21, .iastore, 1, 0, 0, 0, 0), (22, .aload_n 0, 1, 0, 0, 0, 0), (23, .getfield 83, 3, 9, 36, 1, 0), (26, .ifCond .ne 19, 3, 0, 0, 0, 0), (29, .iload_n 3, 1, 0, 0, 0, 0), (30, .ifCond .eq 15, 3, 0, 0, 0, 0), (33, .aload_n 0, 1, 0, 0, 0, 0), (34, .iload_n 1, 1, 0, 0, 0, 0), (35, .iload_n 2, 1, 0, 0, 0, 0), (36, .iload_n 3, 1, 0, 0, 0, 0), (37, .iconst 1, 1, 0, 0, 0, 0), (38, .isub, 1, 0, 0, 0, 0), (39, .invokevirtual 117, 3, 112, 4, 0, 9), (42, .ifCond .eq 4, 3, 0, 0, 0, 0), (45, .return_, 1, 0, 0, 0, 0), (46, .aload_n 0, 1, 0, 0, 0, 0), (47, .dup, 1, 0, 0, 0, 0), (48, .getfield 87, 3, 9, 35, 0, 0), (51, .iconst 1, 1, 0, 0, 0, 0), (52, .isub, 1, 0, 0, 0, 0), (53, .putfield 87, 3, 9, 35, 0, 0), (56, .aload_n 0, 1, 0, 0, 0, 0), (57, .iconst 1, 1, 0, 0, 0, 0), (58, .putfield 83, 3, 9, 36, 1, 0), (61, .return_, 1, 0, 0, 0, 0)]
/-- KindJudgeModel.readTable(II)V -/
def kjM_113 : mv_Me := (⟨"KindJudgeModel", "readTable", "(II)V"⟩, prog_11_method_14_code, 4, none, "KindJudgeModel", kjT_113, 0, 0, 3, 69)
def kjT_114 : List mv_E := [(0, .aload_n 0, 1, 0, 0, 0, 0), (1, .iconst 0, 1, 0, 0, 0, 0), (2, .putfield 87, 3, 9, 35, 0, 0), (5, .aload_n 0, 1, 0, 0, 0, 0), (6, .iconst 0, 1, 0, 0, 0, 0), (7, .putfield 83, 3, 9, 36, 1, 0), (10, .aload_n 0, 1, 0, 0, 0, 0), (11, .iconst 0, 1, 0, 0, 0, 0), (12, .putfield 97, 3, 9, 12, 0, 0), (15, .aload_n 0, 1, 0, 0, 0, 0), (16, .aload_n 0, 1, 0, 0, 0, 0), (17, .iconst 0, 1, 0, 0, 0, 0), (18, .bipush 8, 2, 0, 0, 0, 0), (20, .invokevirtual 100, 3, 105, 3, 0, 9), (23, .putfield 97, 3, 9, 12, 0, 0), (26, .iconst 0, 1, 0, 0, 0, 0), (27, .istore_n 1, 1, 0, 0, 0, 0), (28, .iload_n 1, 1, 0, 0, 0, 0), (29, .aload_n 0, 1, 0, 0, 0, 0), (30, .getfield 97, 3, 9, 12, 0, 0), (33, .if_icmp .ge 21, 3, 0, 0, 0, 0), (36, .aload_n 0, 1, 0, 0, 0, 0), (37, .getfield 83, 3, 9, 36, 1, 0), (40, .ifCond .ne 14, 3, 0, 0, 0, 0), (43, .aload_n 0, 1, 0, 0, 0, 0), (44, .iload_n 1, 1, 0, 0, 0, 0), (45, .invokevirtual 120, 3, 107, 2, 0, 9), (48, .iinc 1 1, 3, 0, 0, 0, 0), (51, .goto (-23), 3, 0, 0, 0, 0), (54, .aload_n 0, 1, 0, 0, 0, 0), (55, .aload_n 0, 1, 0, 0, 0, 0), (56, .iconst 0, 1, 0, 0, 0, 0), (57, .bipush 8, 2, 0, 0, 0, 0), (59, .invokevirtual 100, 3, 105, 3, 0, 9), (62, .putfield 124, 3, 9, 16, 0, 0), (65, .iconst 0, 1, 0, 0, 0, 0), (66, .istore_n 1, 1, 0, 0, 0, 0), (67, .iload_n 1, 1, 0, 0, 0, 0), (68, .aload_n 0, 1, 0, 0, 0, 0), (69, .getfield 124, 3, 9, 16, 0, 0), (72, .if_icmp .ge 21, 3, 0, 0, 0, 0), (75, .aload_n 0, 1, 0, 0, 0, 0), (76, .getfield 83, 3, 9, 36, 1, 0), (79, .ifCond .ne 14, 3, 0, 0, 0, 0), (82, .aload_n 0, 1, 0, 0, 0, 0), (83, .iload_n 1, 1, 0, 0, 0, 0), (84, .invokevirtual 127, 3, 108, 2, 0, 9), (87, .iinc 1 1, 3, 0, 0, 0, 0), (90, .goto (-23), 3, 0, 0, 0, 0), (93, .aload_n 0, 1, 0, 0, 0, 0), (94, .aload_n 0, 1, 0, 0, 0, 0), (95, .iconst 1, 1, 0, 0, 0, 0), (96, .bipush 16, 2, 0, 0, 0, 0), (98, .invokevirtual 100, 3, 105, 3, 0, 9), (101, .putfield 114, 3, 9, 20, 0, 0), (104, .iconst 0, 1, 0, 0, 0, 0), (105, .istore_n 1, 1, 0, 0, 0, 0), (106, .iload_n 1, 1, 0, 0, 0, 0), (107, .aload_n 0, 1, 0, 0, 0, 0), (108, .getfield 114, 3, 9, 20, 0, 0), (111, .if_icmp .ge 21, 3, 0, 0, 0, 0), (114, .aload_n 0, 1, 0, 0, 0, 0), (115, .getfield 83, 3, 9, 36, 1, 0), (118, .ifCond .ne 14, 3, 0, 0, 0, 0), (121, .aload_n 0, 1, 0, 0, 0, 0), (122, .iload_n 1, 1, 0, 0, 0, 0), (123, .invokevirtual 130, 3, 109, 2, 0, 9), (126, .iinc 1 1, 3, 0, 0, 0, 0), (129, .goto (-23), 3, 0, 0, 0, 0), (132, .iconst 0, 1, 0, 0, 0, 0), (133, .istore_n 1, 1, 0, 0, 0, 0), (134, .iload_n 1, 1, 0, 0, 0, 0), (135, .aload_n 0, 1, 0, 0, 0, 0), (136, .getfield 97, 3, 9, 12, 0, 0), (139, .aload_n 0, 1, 0, 0, 0, 0), (140, .getfield 124, 3, 9, 16, 0, 0), (143, .imul, 1, 0, 0, 0, 0), (144, .if_icmp .ge 32, 3, 0, 0, 0, 0), (147, .aload_n 0, 1, 0, 0, 0, 0), (148, .getfield 83, 3, 9, 36, 1, 0), (151, .ifCond .ne 25, 3, 0, 0, 0, 0), (154, .aload_n 0, 1, 0, 0, 0, 0), (155, .iload_n 1, 1, 0, 0, 0, 0), (156, .aload_n 0, 1, 0, 0, 0, 0), (157, .getfield 124, 3, 9, 16, 0, 0), (160, .idiv, 1, 0, 0, 0, 0), (161, .iload_n 1, 1, 0, 0, 0, 0), (162, .aload_n 0, 1, 0, 0, 0, 0), (163, .getfield 124, 3, 9, 16, 0, 0), (166, .irem, 1, 0, 0, 0, 0), (167, .invokevirtual 133, 3, 113, 3, 0, 9), (170, .iinc 1 1, 3, 0, 0, 0, 0), (173, .goto (-39), 3, 0, 0, 0, 0), (176, .aload_n 0, 1, 0, 0, 0, 0), (177, .getfield 83, 3, 9, 36, 1, 0), (180, .ifCond .ne 19, 3, 0, 0, 0, 0), (183, .aload_n 0, 1, 0, 0, 0, 0), (184, .getfield 87, 3, 9, 35, 0, 0), (187, .aload_n 0, 1, 0, 0, 0, 0), (188, .getfield 90, 3, 9, 5, 0, 0), (191, .if_icmp .ge 8, 3, 0, 0, 0, 0), (194, .aload_n 0, 1, 0, 0, 0, 0), (195, .iconst 1, 1, 0, 0, 0, 0), (196, .putfield 83, 3, 9, 36, 1, 0), (199, .aload_n 0, 1, 0, 0, 0, 0), (200, .getfield 83, 3, 9, 36, 1, 0), (203, .ifCond .ne 7, 3, 0, 0, 0, 0), (206, .iconst 1, 1, 0, 0, 0, 0), (207, .goto 4, 3, 0, 0, 0, 0), (210, .iconst 0, 1, 0, 0, 0, 0), (211, .ireturn, 1, 0, 0, 0, 0)]
/-- KindJudgeModel.takeApart()Z -/
def kjM_114 : mv_Me := (⟨"KindJudgeModel", "takeApart", "()Z"⟩, prog_11_method_15_code, 2, (some .boolean), "KindJudgeModel", kjT_114, 0, 0, 4, 92)
def kjT_115 : List mv_E := [(0, .iload_n 0, 1, 0, 0, 0, 0), (1, .tableswitch 215 0 48 #[213, 211, 215, 213, 213, 215, 215, 215, 215, 215, 215, 215, 215, 215, 215, 215, 215, 215, 215, 215, 211, 215, 215, 215, 215, 215, 215, 215, 215, 215, 215, 215, 215, 215, 215, 215, 215, 215, 213, 211, 211, 215, 215, 215, 215, 213, 213, 213, 213], 211, 0, 0, 0, 0), (212, .iconst 3, 1, 0, 0, 0, 0), (213, .ireturn, 1, 0, 0, 0, 0), (214, .iconst 2, 1, 0, 0, 0, 0), (215, .ireturn, 1, 0, 0, 0, 0), (216, .iload_n 0, 1, 0, 0, 0, 0), (217, .bipush 21, 2, 0, 0, 0, 0), (219, .if_icmp .lt 13, 3, 0, 0, 0, 0), (222, .iload_n 0, 1, 0, 0, 0, 0), (223, .bipush 37, 2, 0, 0, 0, 0), (225, .if_icmp .gt 7, 3, 0, 0, 0, 0), (228, .iconst 2, 1, 0, 0, 0, 0), (229, .goto 4, 3, 0, 0, 0, 0), (232, .iconst 1, 1, 0, 0, 0, 0), (233, .ireturn, 1, 0, 0, 0, 0)]
/-- KindJudgeModel.opLong(I)I -/
def kjM_115 : mv_Me := (⟨"KindJudgeModel", "opLong", "(I)I"⟩, prog_11_method_16_code, 1, (some .int), "KindJudgeModel", kjT_115, 0, 0, 0, 0)
def kjT_116 : List mv_E := [(0, .aload_n 0, 1, 0, 0, 0, 0), (1, .getfield 55, 3, 9, 27, 4, 0), (4, .bipush 120, 2, 0, 0, 0, 0), (6, .iload_n 1, 1, 0, 0, 0, 0), (7, .imul, 1, 0, 0, 0, 0), (8, .iload_n 2, 1, 0, 0, 0, 0), (9, .iadd, 1, 0, 0, 0, 0), (10, .iaload, 1, 0, 0, 0, 0), (11, .ireturn, 1, 0, 0, 0, 0)]
/-- KindJudgeModel.byteAt(II)I -/
def kjM_116 : mv_Me := (⟨"KindJudgeModel", "byteAt", "(II)I"⟩, prog_11_method_17_code, 3, (some .int), "KindJudgeModel", kjT_116, 0, 0, 0, 0)
def kjT_117 : List mv_E := [(0, .aload_n 0, 1, 0, 0, 0, 0), (1, .iload_n 1, 1, 0, 0, 0, 0), (2, .iload_n 2, 1, 0, 0, 0, 0), (3, .invokevirtual 137, 3, 116, 3, 0, 9), (6, .istore_n 3, 1, 0, 0, 0, 0), (7, .iload_n 3, 1, 0, 0, 0, 0), (8, .bipush 53, 2, 0, 0, 0, 0), (10, .if_icmp .gt 21, 3, 0, 0, 0, 0), (13, .iload_n 3, 1, 0, 0, 0, 0), (14, .bipush 53, 2, 0, 0, 0, 0), (16, .if_icmp .ne 17, 3, 0, 0, 0, 0), (19, .iload_n 2, 1, 0, 0, 0, 0), (20, .iconst 1, 1, 0, 0, 0, 0), (21, .iadd, 1, 0, 0, 0, 0), (22, .aload_n 0, 1, 0, 0, 0, 0), (23, .getfield 52, 3, 9, 26, 4, 0), (26, .iload_n 1, 1, 0, 0, 0, 0), (27, .iaload, 1, 0, 0, 0, 0), (28, .if_icmp .lt 5, 3, 0, 0, 0, 0), (31, .iconst (-1), 1, 0, 0, 0, 0), (32, .ireturn, 1, 0, 0, 0, 0), (33, .iload_n 3, 1, 0, 0, 0, 0), (34, .bipush 53, 2, 0, 0, 0, 0), (36, .if_icmp .ne 16, 3, 0, 0, 0, 0), (39, .iconst 3, 1, 0, 0, 0, 0), (40, .aload_n 0, 1, 0, 0, 0, 0), (41, .iload_n 1, 1, 0, 0, 0, 0), (42, .iload_n 2, 1, 0, 0, 0, 0), (43, .iconst 1, 1, 0, 0, 0, 0), (44, .iadd, 1, 0, 0, 0, 0), (45, .invokevirtual 137, 3, 116, 3, 0, 9), (48, .iadd, 1, 0, 0, 0, 0), (49, .goto 7, 3, 0, 0, 0, 0), (52, .iload_n 3, 1, 0, 0, 0, 0), (53, .invokestatic 140, 3, 115, 1, 1, 0), (56, .istore 4, 2, 0, 0, 0, 0), (58, .iload_n 2, 1, 0, 0, 0, 0), (59, .iload 4, 2, 0, 0, 0, 0), (61, .iadd, 1, 0, 0, 0, 0), (62, .aload_n 0, 1, 0, 0, 0, 0), (63, .getfield 52, 3, 9, 26, 4, 0), (66, .iload_n 1, 1, 0, 0, 0, 0), (67, .iaload, 1, 0, 0, 0, 0), (68, .if_icmp .le 7, 3, 0, 0, 0, 0), (71, .iconst (-1), 1, 0, 0, 0, 0), (72, .goto 5, 3, 0, 0, 0, 0), (75, .iload 4, 2, 0, 0, 0, 0), (77, .ireturn, 1, 0, 0, 0, 0)]
/-- KindJudgeModel.longOf(II)I -/
def kjM_117 : mv_Me := (⟨"KindJudgeModel", "longOf", "(II)I"⟩, prog_11_method_18_code, 5, (some .int), "KindJudgeModel", kjT_117, 0, 0, 1, 22)
def kjT_118 : List mv_E := [(0, .iconst 0, 1, 0, 0, 0, 0), (1, .istore_n 2, 1, 0, 0, 0, 0), (2, .iload_n 2, 1, 0, 0, 0, 0), (3, .bipush 120, 2, 0, 0, 0, 0), (5, .if_icmp .ge 21, 3, 0, 0, 0, 0), (8, .aload_n 0, 1, 0, 0, 0, 0), (9, .getfield 58, 3, 9, 28, 4, 0), (12, .bipush 120, 2, 0, 0, 0, 0), (14, .iload_n 1, 1, 0, 0, 0, 0), (15, .imul, 1, 0, 0, 0, 0), (16, .iload_n 2, 1, 0, 0, 0, 0), (17, .iadd, 1, 0, 0, 0, 0), (18, .iconst 0, 1, 0, 0, 0, 0), (19, .bastore, 1, 0, 0, 0, 0), (20, .iinc 2 1, 3, 0, 0, 0, 0), (23, .goto (-21), 3, 0, 0, 0, 0), (26, .iconst 0, 1, 0, 0, 0, 0), (27, .istore_n 2, 1, 0, 0, 0, 0), (28, .iload_n 2, 1, 0, 0, 0, 0), (29, .ifCond .lt 48, 3, 0, 0, 0, 0), (32, .iload_n 2, 1, 0, 0, 0, 0), (33, .aload_n 0, 1, 0, 0, 0, 0), (34, .getfield 52, 3, 9, 26, 4, 0), (37, .iload_n 1, 1, 0, 0, 0, 0), (38, .iaload, 1, 0, 0, 0, 0), (39, .if_icmp .ge 38, 3, 0, 0, 0, 0), (42, .aload_n 0, 1, 0, 0, 0, 0), (43, .getfield 58, 3, 9, 28, 4, 0), (46, .bipush 120, 2, 0, 0, 0, 0), (48, .iload_n 1, 1, 0, 0, 0, 0), (49, .imul, 1, 0, 0, 0, 0), (50, .iload_n 2, 1, 0, 0, 0, 0), (51, .iadd, 1, 0, 0, 0, 0), (52, .iconst 1, 1, 0, 0, 0, 0), (53, .bastore, 1, 0, 0, 0, 0), (54, .aload_n 0, 1, 0, 0, 0, 0), (55, .iload_n 1, 1, 0, 0, 0, 0), (56, .iload_n 2, 1, 0, 0, 0, 0), (57, .invokevirtual 144, 3, 117, 3, 0, 9), (60, .istore_n 3, 1, 0, 0, 0, 0), (61, .iload_n 3, 1, 0, 0, 0, 0), (62, .iconst (-1), 1, 0, 0, 0, 0), (63, .if_icmp .ne 7, 3, 0, 0, 0, 0), (66, .iconst (-1), 1, 0, 0, 0, 0), (67, .goto 6, 3, 0, 0, 0, 0), (70, .iload_n 2, 1, 0, 0, 0, 0), (71, .iload_n 3, 1, 0, 0, 0, 0), (72, .iadd, 1, 0, 0, 0, 0), (73, .istore_n 2, 1, 0, 0, 0, 0), (74, .goto (-46), 3, 0, 0, 0, 0), (77, .return_, 1, 0, 0, 0, 0)]
/-- KindJudgeModel.findBegins(I)V -/
def kjM_118 : mv_Me := (⟨"KindJudgeModel", "findBegins", "(I)V"⟩, prog_11_method_19_code, 4, none, "KindJudgeModel", kjT_118, 0, 0, 2, 46)
def kjT_119 : List mv_E := [(0, .iload_n 2, 1, 0, 0, 0, 0), (1, .aload_n 0, 1, 0, 0, 0, 0), (2, .getfield 52, 3, 9, 26, 4, 0), (5, .iload_n 1, 1, 0, 0, 0, 0), (6, .iaload, 1, 0, 0, 0, 0), (7, .if_icmp .ge 21, 3, 0, 0, 0, 0), (10, .aload_n 0, 1, 0, 0, 0, 0), (11, .getfield 58, 3, 9, 28, 4, 0), (14, .bipush 120, 2, 0, 0, 0, 0), (16, .iload_n 1, 1, 0, 0, 0, 0), (17, .imul, 1, 0, 0, 0, 0), (18, .iload_n 2, 1, 0, 0, 0, 0), (19, .iadd, 1, 0, 0, 0, 0), (20, .baload, 1, 0, 0, 0, 0), (21, .ifCond .eq 7, 3, 0, 0, 0, 0), (24, .iconst 1, 1, 0, 0, 0, 0), (25, .goto 4, 3, 0, 0, 0, 0), (28, .iconst 0, 1, 0, 0, 0, 0), (29, .ireturn, 1, 0, 0, 0, 0)]
/-- KindJudgeModel.isPlace(II)Z -/
def kjM_119 : mv_Me := (⟨"KindJudgeModel", "isPlace", "(II)Z"⟩, prog_11_method_20_code, 3, (some .boolean), "KindJudgeModel", kjT_119, 0, 0, 0, 0)
def kjT_120 : List mv_E := [(0, .aload_n 0, 1, 0, 0, 0, 0), (1, .iload_n 1, 1, 0, 0, 0, 0), (2, .iload_n 2, 1, 0, 0, 0, 0), (3, .invokevirtual 144, 3, 117, 3, 0, 9), (6, .istore_n 3, 1, 0, 0, 0, 0), (7, .iload_n 3, 1, 0, 0, 0, 0), (8, .iconst (-1), 1, 0, 0, 0, 0), (9, .if_icmp .ne 5, 3, 0, 0, 0, 0), (12, .iconst 0, 1, 0, 0, 0, 0), (13, .ireturn, 1, 0, 0, 0, 0), (14, .aload_n 0, 1, 0, 0, 0, 0), (15, .iload_n 1, 1, 0, 0, 0, 0), (16, .iload_n 2, 1, 0, 0, 0, 0), (17, .invokevirtual 137, 3, 116, 3, 0, 9), (20, .istore 4, 2, 0, 0, 0, 0), (22, .iload_n 3, 1, 0, 0, 0, 0), (23, .iconst 1, 1, 0, 0, 0, 0), (24, .if_icmp .le 14, 3, 0, 0, 0, 0), (27, .aload_n 0, 1, 0, 0, 0, 0), (28, .iload_n 1, 1, 0, 0, 0, 0), (29, .iload_n 2, 1, 0, 0, 0, 0), (30, .iconst 1, 1, 0, 0, 0, 0), (31, .iadd, 1, 0, 0, 0, 0), (32, .invokevirtual 137, 3, 116, 3, 0, 9), (35, .goto 4, 3, 0, 0, 0, 0), (38, .iconst 0, 1, 0, 0, 0, 0), (39, .istore 5, 2, 0, 0, 0, 0), (41, .iload_n 2, 1, 0, 0, 0, 0), (42, .iload_n 3, 1, 0, 0, 0, 0), (43, .iadd, 1, 0, 0, 0, 0), (44, .aload_n 0, 1, 0, 0, 0, 0), (45, .getfield 52, 3, 9, 26, 4, 0), (48, .iload_n 1, 1, 0, 0, 0, 0), (49, .iaload, 1, 0, 0, 0, 0), (50, .if_icmp .ne 33, 3, 0, 0, 0, 0), (53, .iload 4, 2, 0, 0, 0, 0), (55, .bipush 21, 2, 0, 0, 0, 0), (57, .if_icmp .eq 26, 3, 0, 0, 0, 0), (60, .iload 4, 2, 0, 0, 0, 0), (62, .bipush 49, 2, 0, 0, 0, 0), (64, .if_icmp .eq 19, 3, 0, 0, 0, 0), (67, .iload 4, 2, 0, 0, 0, 0), (69, .bipush 50, 2, 0, 0, 0, 0), (71, .if_icmp .eq 12, 3, 0, 0, 0, 0), (74, .iload 4, 2, 0, 0, 0, 0), (76, .bipush 53, 2, 0, 0, 0, 0), (78, .if_icmp .eq 5, 3, 0, 0, 0, 0), (81, .iconst 0, 1, 0, 0, 0, 0), (82, .ireturn, 1, 0, 0, 0, 0), (83, .iload 4, 2, 0, 0, 0, 0), (85, .lookupswitch 248 #[(3, 99), (4, 99), (20, 99), (38, 116), (39, 131), (40, 131), (45, 116), (46, 116), (47, 164), (48, 179), (53, 194)], 99, 0, 0, 0, 0), (184, .iload 5, 2, 0, 0, 0, 0), (186, .aload_n 0, 1, 0, 0, 0, 0), (187, .getfield 46, 3, 9, 24, 4, 0), (190, .iload_n 1, 1, 0, 0, 0, 0), (191, .iaload, 1, 0, 0, 0, 0), (192, .if_icmp .ge 7, 3, 0, 0, 0, 0), (195, .iconst 1, 1, 0, 0, 0, 0), (196, .goto 4, 3, 0, 0, 0, 0), (199, .iconst 0, 1, 0, 0, 0, 0), (200, .ireturn, 1, 0, 0, 0, 0), (201, .iload 5, 2, 0, 0, 0, 0), (203, .aload_n 0, 1, 0, 0, 0, 0), (204, .getfield 97, 3, 9, 12, 0, 0), (207, .if_icmp .ge 7, 3, 0, 0, 0, 0), (210, .iconst 1, 1, 0, 0, 0, 0), (211, .goto 4, 3, 0, 0, 0, 0), (214, .iconst 0, 1, 0, 0, 0, 0), (215, .ireturn, 1, 0, 0, 0, 0), (216, .iload 5, 2, 0, 0, 0, 0), (218, .aload_n 0, 1, 0, 0, 0, 0), (219, .getfield 97, 3, 9, 12, 0, 0), (222, .if_icmp .ge 25, 3, 0, 0, 0, 0), (225, .aload_n 0, 1, 0, 0, 0, 0), (226, .iload_n 1, 1, 0, 0, 0, 0), (227, .iload_n 2, 1, 0, 0, 0, 0), (228, .iconst 2, 1, 0, 0, 0, 0), (229, .iadd, 1, 0, 0, 0, 0), (230, .invokevirtual 137, 3, 116, 3, 0, 9), (233, .aload_n 0, 1, 0, 0, 0, 0), (234, .getfield 22, 3, 9, 14, 4, 0), (237, .iload 5, 2, 0, 0, 0, 0), (239, .iaload, 1, 0, 0, 0, 0), (240, .if_icmp .ge 7, 3, 0, 0, 0, 0), (243, .iconst 1, 1, 0, 0, 0, 0), (244, .goto 4, 3, 0, 0, 0, 0), (247, .iconst 0, 1, 0, 0, 0, 0), (248, .ireturn, 1, 0, 0, 0, 0), (249, .iload 5, 2, 0, 0, 0, 0), (251, .aload_n 0, 1, 0, 0, 0, 0), (252, .getfield 114, 3, 9, 20, 0, 0), (255, .if_icmp .ge 7, 3, 0, 0, 0, 0), (258, .iconst 1, 1, 0, 0, 0, 0), (259, .goto 4, 3, 0, 0, 0, 0), (262, .iconst 0, 1, 0, 0, 0, 0), (263, .ireturn, 1, 0, 0, 0, 0), (264, .iload 5, 2, 0, 0, 0, 0), (266, .aload_n 0, 1, 0, 0, 0, 0), (267, .getfield 124, 3, 9, 16, 0, 0), (270, .if_icmp .ge 7, 3, 0, 0, 0, 0), (273, .iconst 1, 1, 0, 0, 0, 0), (274, .goto 4, 3, 0, 0, 0, 0), (277, .iconst 0, 1, 0, 0, 0, 0), (278, .ireturn, 1, 0, 0, 0, 0), (279, .iload 5, 2, 0, 0, 0, 0), (281, .iconst 1, 1, 0, 0, 0, 0), (282, .if_icmp .lt 10, 3, 0, 0, 0, 0), (285, .iload 5, 2, 0, 0, 0, 0), (287, .bipush 8, 2, 0, 0, 0, 0), (289, .if_icmp .le 5, 3, 0, 0, 0, 0), (292, .iconst 0, 1, 0, 0, 0, 0), (293, .ireturn, 1, 0, 0, 0, 0), (294, .iconst 0, 1, 0, 0, 0, 0), (295, .istore 6, 2, 0, 0, 0, 0), (297, .iload 6, 2, 0, 0, 0, 0), (299, .iload 5, 2, 0, 0, 0, 0), (301, .if_icmp .gt 30, 3, 0, 0, 0, 0), (304, .aload_n 0, 1, 0, 0, 0, 0), (305, .iload_n 1, 1, 0, 0, 0, 0), (306, .aload_n 0, 1, 0, 0, 0, 0), (307, .iload_n 1, 1, 0, 0, 0, 0), (308, .iload_n 2, 1, 0, 0, 0, 0), (309, .iconst 2, 1, 0, 0, 0, 0), (310, .iadd, 1, 0, 0, 0, 0), (311, .iload 6, 2, 0, 0, 0, 0), (313, .iadd, 1, 0, 0, 0, 0), (314, .invokevirtual 137, 3, 116, 3, 0, 9), (317, .invokevirtual 147, 3, 119, 3, 0, 9), (320, .ifCond .ne 5, 3, 0, 0, 0, 0), (323, .iconst 0, 1, 0, 0, 0, 0), (324, .ireturn, 1, 0, 0, 0, 0), (325, .iinc 6 1, 3, 0, 0, 0, 0), (328, .goto (-31), 3, 0, 0, 0, 0), (331, .iconst 1, 1, 0, 0, 0, 0), (332, .ireturn, 1, 0, 0, 0, 0), (333, .iload 4, 2, 0, 0, 0, 0), (335, .bipush 21, 2, 0, 0, 0, 0), (337, .if_icmp .lt 20, 3, 0, 0, 0, 0), (340, .iload 4, 2, 0, 0, 0, 0), (342, .bipush 37, 2, 0, 0, 0, 0), (344, .if_icmp .gt 13, 3, 0, 0, 0, 0), (347, .aload_n 0, 1, 0, 0, 0, 0), (348, .iload_n 1, 1, 0, 0, 0, 0), (349, .iload 5, 2, 0, 0, 0, 0), (351, .invokevirtual 147, 3, 119, 3, 0, 9), (354, .ifCond .eq 7, 3, 0, 0, 0, 0), (357, .iconst 1, 1, 0, 0, 0, 0), (358, .goto 4, 3, 0, 0, 0, 0), (361, .iconst 0, 1, 0, 0, 0, 0), (362, .ireturn, 1, 0, 0, 0, 0)]
/-- KindJudgeModel.isGood(II)Z -/
def kjM_120 : mv_Me := (⟨"KindJudgeModel", "isGood", "(II)Z"⟩, prog_11_method_21_code, 7, (some .boolean), "KindJudgeModel", kjT_120, 0, 0, 2, 46)
def kjT_121 : List mv_E := [(0, .aload_n 0, 1, 0, 0, 0, 0), (1, .iload_n 1, 1, 0, 0, 0, 0), (2, .putfield 150, 3, 9, 9, 0, 0), (5, .aload_n 0, 1, 0, 0, 0, 0), (6, .iload_n 2, 1, 0, 0, 0, 0), (7, .putfield 153, 3, 9, 11, 0, 0), (10, .aload_n 0, 1, 0, 0, 0, 0), (11, .iload_n 3, 1, 0, 0, 0, 0), (12, .putfield 156, 3, 9, 10, 0, 0), (15, .iconst 0, 1, 0, 0, 0, 0), (16, .ireturn, 1, 0, 0, 0, 0)]
/-- KindJudgeModel.findFault(III)Z -/
def kjM_121 : mv_Me := (⟨"KindJudgeModel", "findFault", "(III)Z"⟩, prog_11_method_22_code, 4, (some .boolean), "KindJudgeModel", kjT_121, 0, 0, 0, 0)
def kjT_122 : List mv_E := [(0, .aload_n 0, 1, 0, 0, 0, 0), (1, .invokevirtual 159, 3, 114, 1, 0, 9), (4, .ifCond .ne 14, 3, 0, 0, 0, 0), (7, .aload_n 0, 1, 0, 0, 0, 0), (8, .iconst 1, 1, 0, 0, 0, 0), (9, .iconst 0, 1, 0, 0, 0, 0), (10, .aload_n 0, 1, 0, 0, 0, 0), (11, .getfield 87, 3, 9, 35, 0, 0), (14, .invokevirtual 163, 3, 121, 4, 0, 9), (17, .ireturn, 1, 0, 0, 0, 0), (18, .iconst 0, 1, 0, 0, 0, 0), (19, .istore_n 1, 1, 0, 0, 0, 0), (20, .iload_n 1, 1, 0, 0, 0, 0), (21, .aload_n 0, 1, 0, 0, 0, 0), (22, .getfield 114, 3, 9, 20, 0, 0), (25, .if_icmp .ge 14, 3, 0, 0, 0, 0), (28, .aload_n 0, 1, 0, 0, 0, 0), (29, .iload_n 1, 1, 0, 0, 0, 0), (30, .invokevirtual 166, 3, 118, 2, 0, 9), (33, .iinc 1 1, 3, 0, 0, 0, 0), (36, .goto (-16), 3, 0, 0, 0, 0), (39, .iconst 0, 1, 0, 0, 0, 0), (40, .istore_n 1, 1, 0, 0, 0, 0), (41, .iload_n 1, 1, 0, 0, 0, 0), (42, .aload_n 0, 1, 0, 0, 0, 0), (43, .getfield 114, 3, 9, 20, 0, 0), (46, .if_icmp .ge 58, 3, 0, 0, 0, 0), (49, .iconst 0, 1, 0, 0, 0, 0), (50, .istore_n 2, 1, 0, 0, 0, 0), (51, .iload_n 2, 1, 0, 0, 0, 0), (52, .aload_n 0, 1, 0, 0, 0, 0), (53, .getfield 52, 3, 9, 26, 4, 0), (56, .iload_n 1, 1, 0, 0, 0, 0), (57, .iaload, 1, 0, 0, 0, 0), (58, .if_icmp .ge 40, 3, 0, 0, 0, 0), (61, .aload_n 0, 1, 0, 0, 0, 0), (62, .getfield 58, 3, 9, 28, 4, 0), (65, .bipush 120, 2, 0, 0, 0, 0), (67, .iload_n 1, 1, 0, 0, 0, 0), (68, .imul, 1, 0, 0, 0, 0), (69, .iload_n 2, 1, 0, 0, 0, 0), (70, .iadd, 1, 0, 0, 0, 0), (71, .baload, 1, 0, 0, 0, 0), (72, .ifCond .eq 20, 3, 0, 0, 0, 0), (75, .aload_n 0, 1, 0, 0, 0, 0), (76, .iload_n 1, 1, 0, 0, 0, 0), (77, .iload_n 2, 1, 0, 0, 0, 0), (78, .invokevirtual 169, 3, 120, 3, 0, 9), (81, .ifCond .ne 11, 3, 0, 0, 0, 0), (84, .aload_n 0, 1, 0, 0, 0, 0), (85, .iconst 2, 1, 0, 0, 0, 0), (86, .iload_n 1, 1, 0, 0, 0, 0), (87, .iload_n 2, 1, 0, 0, 0, 0), (88, .invokevirtual 163, 3, 121, 4, 0, 9), (91, .ireturn, 1, 0, 0, 0, 0), (92, .iinc 2 1, 3, 0, 0, 0, 0), (95, .goto (-44), 3, 0, 0, 0, 0), (98, .iinc 1 1, 3, 0, 0, 0, 0), (101, .goto (-60), 3, 0, 0, 0, 0), (104, .iconst 0, 1, 0, 0, 0, 0), (105, .istore_n 1, 1, 0, 0, 0, 0), (106, .iload_n 1, 1, 0, 0, 0, 0), (107, .aload_n 0, 1, 0, 0, 0, 0), (108, .getfield 114, 3, 9, 20, 0, 0), (111, .if_icmp .ge 64, 3, 0, 0, 0, 0), (114, .aload_n 0, 1, 0, 0, 0, 0), (115, .iload_n 1, 1, 0, 0, 0, 0), (116, .invokevirtual 172, 3, 129, 2, 0, 9), (119, .iconst 0, 1, 0, 0, 0, 0), (120, .istore_n 2, 1, 0, 0, 0, 0), (121, .iload_n 2, 1, 0, 0, 0, 0), (122, .aload_n 0, 1, 0, 0, 0, 0), (123, .getfield 52, 3, 9, 26, 4, 0), (126, .iload_n 1, 1, 0, 0, 0, 0), (127, .iaload, 1, 0, 0, 0, 0), (128, .if_icmp .ge 41, 3, 0, 0, 0, 0), (131, .aload_n 0, 1, 0, 0, 0, 0), (132, .getfield 65, 3, 9, 30, 4, 0), (135, .bipush 120, 2, 0, 0, 0, 0), (137, .iload_n 1, 1, 0, 0, 0, 0), (138, .imul, 1, 0, 0, 0, 0), (139, .iload_n 2, 1, 0, 0, 0, 0), (140, .iadd, 1, 0, 0, 0, 0), (141, .iaload, 1, 0, 0, 0, 0), (142, .iconst (-1), 1, 0, 0, 0, 0), (143, .if_icmp .eq 20, 3, 0, 0, 0, 0), (146, .aload_n 0, 1, 0, 0, 0, 0), (147, .iload_n 1, 1, 0, 0, 0, 0), (148, .iload_n 2, 1, 0, 0, 0, 0), (149, .invokevirtual 175, 3, 138, 3, 0, 9), (152, .ifCond .eq 11, 3, 0, 0, 0, 0), (155, .aload_n 0, 1, 0, 0, 0, 0), (156, .iconst 3, 1, 0, 0, 0, 0), (157, .iload_n 1, 1, 0, 0, 0, 0), (158, .iload_n 2, 1, 0, 0, 0, 0), (159, .invokevirtual 163, 3, 121, 4, 0, 9), (162, .ireturn, 1, 0, 0, 0, 0), (163, .iinc 2 1, 3, 0, 0, 0, 0), (166, .goto (-45), 3, 0, 0, 0, 0), (169, .iinc 1 1, 3, 0, 0, 0, 0), (172, .goto (-66), 3, 0, 0, 0, 0), (175, .iconst 1, 1, 0, 0, 0, 0), (176, .ireturn, 1, 0, 0, 0, 0)]
/-- KindJudgeModel.isFine()Z -/
def kjM_122 : mv_Me := (⟨"KindJudgeModel", "isFine", "()Z"⟩, prog_11_method_23_code, 3, (some .boolean), "KindJudgeModel", kjT_122, 0, 0, 6, 146)
def kjT_123 : List mv_E := [(0, .aload_n 0, 1, 0, 0, 0, 0), (1, .aload_n 0, 1, 0, 0, 0, 0), (2, .getfield 78, 3, 9, 2, 0, 0), (5, .putfield 90, 3, 9, 5, 0, 0), (8, .iconst 0, 1, 0, 0, 0, 0), (9, .istore_n 1, 1, 0, 0, 0, 0), (10, .iload_n 1, 1, 0, 0, 0, 0), (11, .aload_n 0, 1, 0, 0, 0, 0), (12, .getfield 78, 3, 9, 2, 0, 0), (15, .if_icmp .ge 21, 3, 0, 0, 0, 0), (18, .aload_n 0, 1, 0, 0, 0, 0), (19, .getfield 13, 3, 9, 4, 4, 0), (22, .iload_n 1, 1, 0, 0, 0, 0), (23, .aload_n 0, 1, 0, 0, 0, 0), (24, .getfield 7, 3, 9, 3, 4, 0), (27, .iload_n 1, 1, 0, 0, 0, 0), (28, .iaload, 1, 0, 0, 0, 0), (29, .iastore, 1, 0, 0, 0, 0), (30, .iinc 1 1, 3, 0, 0, 0, 0), (33, .goto (-23), 3, 0, 0, 0, 0), (36, .aload_n 0, 1, 0, 0, 0, 0), (37, .iconst 0, 1, 0, 0, 0, 0), (38, .putfield 78, 3, 9, 2, 0, 0), (41, .aload_n 0, 1, 0, 0, 0, 0), (42, .invokevirtual 178, 3, 122, 1, 0, 9), (45, .istore_n 1, 1, 0, 0, 0, 0), (46, .iload_n 1, 1, 0, 0, 0, 0), (47, .ifCond .eq 79, 3, 0, 0, 0, 0), (50, .aload_n 0, 1, 0, 0, 0, 0), (51, .iconst 0, 1, 0, 0, 0, 0), (52, .putfield 150, 3, 9, 9, 0, 0), (55, .aload_n 0, 1, 0, 0, 0, 0), (56, .iconst 0, 1, 0, 0, 0, 0), (57, .putfield 156, 3, 9, 10, 0, 0), (60, .aload_n 0, 1, 0, 0, 0, 0), (61, .iconst 0, 1, 0, 0, 0, 0), (62, .putfield 153, 3, 9, 11, 0, 0), (65, .iconst 0, 1, 0, 0, 0, 0), (66, .istore_n 2, 1, 0, 0, 0, 0), (67, .iload_n 2, 1, 0, 0, 0, 0), (68, .aload_n 0, 1, 0, 0, 0, 0), (69, .getfield 90, 3, 9, 5, 0, 0), (72, .if_icmp .ge 21, 3, 0, 0, 0, 0), (75, .aload_n 0, 1, 0, 0, 0, 0), (76, .getfield 16, 3, 9, 6, 4, 0), (79, .iload_n 2, 1, 0, 0, 0, 0), (80, .aload_n 0, 1, 0, 0, 0, 0), (81, .getfield 13, 3, 9, 4, 4, 0), (84, .iload_n 2, 1, 0, 0, 0, 0), (85, .iaload, 1, 0, 0, 0, 0), (86, .iastore, 1, 0, 0, 0, 0), (87, .iinc 2 1, 3, 0, 0, 0, 0), (90, .goto (-23), 3, 0, 0, 0, 0), (93, .aload_n 0, 1, 0, 0, 0, 0), (94, .aload_n 0, 1, 0, 0, 0, 0), (95, .getfield 90, 3, 9, 5, 0, 0), (98, .putfield 181, 3, 9, 7, 0, 0), (101, .aload_n 0, 1, 0, 0, 0, 0), (102, .iconst 1, 1, 0, 0, 0, 0), (103, .putfield 184, 3, 9, 8, 1, 0), (106, .aload_n 0, 1, 0, 0, 0, 0), (107, .dup, 1, 0, 0, 0, 0), (108, .getfield 187, 3, 9, 1, 0, 0), (111, .iconst 1, 1, 0, 0, 0, 0), (112, .iadd, 1, 0, 0, 0, 0), (113, .putfield 187, 3, 9, 1, 0, 0), (116, .aload_n 0, 1, 0, 0, 0, 0), (117, .iconst 0, 1, 0, 0, 0, 0), (118, .putfield 74, 3, 9, 0, 0, 0), (121, .aload_n 0, 1, 0, 0, 0, 0), (122, .getfield 114, 3, 9, 20, 0, 0), (125, .ireturn, 1, 0, 0, 0, 0), (126, .aload_n 0, 1, 0, 0, 0, 0), (127, .getfield 184, 3, 9, 8, 1, 0), (130, .ifCond .eq 7, 3, 0, 0, 0, 0), (133, .aload_n 0, 1, 0, 0, 0, 0), (134, .invokevirtual 190, 3, 124, 1, 0, 9), (137, .aload_n 0, 1, 0, 0, 0, 0), (138, .iconst 1, 1, 0, 0, 0, 0), (139, .invokevirtual 193, 3, 102, 2, 0, 9), (142, .ireturn, 1, 0, 0, 0, 0)]
/-- KindJudgeModel.load()I -/
def kjM_123 : mv_Me := (⟨"KindJudgeModel", "load", "()I"⟩, prog_11_method_24_code, 3, (some .int), "KindJudgeModel", kjT_123, 0, 0, 8, 192)
def kjT_124 : List mv_E := [(0, .aload_n 0, 1, 0, 0, 0, 0), (1, .getfield 150, 3, 9, 9, 0, 0), (4, .istore_n 1, 1, 0, 0, 0, 0), (5, .aload_n 0, 1, 0, 0, 0, 0), (6, .getfield 153, 3, 9, 11, 0, 0), (9, .istore_n 2, 1, 0, 0, 0, 0), (10, .aload_n 0, 1, 0, 0, 0, 0), (11, .getfield 156, 3, 9, 10, 0, 0), (14, .istore_n 3, 1, 0, 0, 0, 0), (15, .aload_n 0, 1, 0, 0, 0, 0), (16, .aload_n 0, 1, 0, 0, 0, 0), (17, .getfield 181, 3, 9, 7, 0, 0), (20, .putfield 90, 3, 9, 5, 0, 0), (23, .iconst 0, 1, 0, 0, 0, 0), (24, .istore 4, 2, 0, 0, 0, 0), (26, .iload 4, 2, 0, 0, 0, 0), (28, .aload_n 0, 1, 0, 0, 0, 0), (29, .getfield 181, 3, 9, 7, 0, 0), (32, .if_icmp .ge 23, 3, 0, 0, 0, 0), (35, .aload_n 0, 1, 0, 0, 0, 0), (36, .getfield 13, 3, 9, 4, 4, 0), (39, .iload 4, 2, 0, 0, 0, 0), (41, .aload_n 0, 1, 0, 0, 0, 0), (42, .getfield 16, 3, 9, 6, 4, 0), (45, .iload 4, 2, 0, 0, 0, 0), (47, .iaload, 1, 0, 0, 0, 0), (48, .iastore, 1, 0, 0, 0, 0), (49, .iinc 4 1, 3, 0, 0, 0, 0), (52, .goto (-26), 3, 0, 0, 0, 0), (55, .aload_n 0, 1, 0, 0, 0, 0), (56, .invokevirtual 178, 3, 122, 1, 0, 9), (59, .istore 4, 2, 0, 0, 0, 0), (61, .aload_n 0, 1, 0, 0, 0, 0), (62, .iload_n 1, 1, 0, 0, 0, 0), (63, .putfield 150, 3, 9, 9, 0, 0), (66, .aload_n 0, 1, 0, 0, 0, 0), (67, .iload_n 2, 1, 0, 0, 0, 0), (68, .putfield 153, 3, 9, 11, 0, 0), (71, .aload_n 0, 1, 0, 0, 0, 0), (72, .iload_n 3, 1, 0, 0, 0, 0), (73, .putfield 156, 3, 9, 10, 0, 0), (76, .return_, 1, 0, 0, 0, 0)]
/-- KindJudgeModel.again()V -/
def kjM_124 : mv_Me := (⟨"KindJudgeModel", "again", "()V"⟩, prog_11_method_25_code, 5, none, "KindJudgeModel", kjT_124, 0, 0, 7, 168)
def kjT_125 : List mv_E := [(0, .aload_n 0, 1, 0, 0, 0, 0), (1, .iconst 0, 1, 0, 0, 0, 0), (2, .putfield 74, 3, 9, 0, 0, 0), (5, .iload_n 1, 1, 0, 0, 0, 0), (6, .ifCond .ne 10, 3, 0, 0, 0, 0), (9, .aload_n 0, 1, 0, 0, 0, 0), (10, .getfield 150, 3, 9, 9, 0, 0), (13, .goto 28, 3, 0, 0, 0, 0), (16, .iload_n 1, 1, 0, 0, 0, 0), (17, .iconst 1, 1, 0, 0, 0, 0), (18, .if_icmp .ne 10, 3, 0, 0, 0, 0), (21, .aload_n 0, 1, 0, 0, 0, 0), (22, .getfield 156, 3, 9, 10, 0, 0), (25, .goto 16, 3, 0, 0, 0, 0), (28, .iload_n 1, 1, 0, 0, 0, 0), (29, .iconst 2, 1, 0, 0, 0, 0), (30, .if_icmp .ne 10, 3, 0, 0, 0, 0), (33, .aload_n 0, 1, 0, 0, 0, 0), (34, .getfield 153, 3, 9, 11, 0, 0), (37, .goto 4, 3, 0, 0, 0, 0), (40, .iconst (-1), 1, 0, 0, 0, 0), (41, .ireturn, 1, 0, 0, 0, 0)]
/-- KindJudgeModel.fault(I)I -/
def kjM_125 : mv_Me := (⟨"KindJudgeModel", "fault", "(I)I"⟩, prog_11_method_26_code, 2, (some .int), "KindJudgeModel", kjT_125, 0, 0, 0, 0)
def kjT_126 : List mv_E := [(0, .iload_n 1, 1, 0, 0, 0, 0), (1, .istore_n 3, 1, 0, 0, 0, 0), (2, .iload_n 3, 1, 0, 0, 0, 0), (3, .ifCond .lt 41, 3, 0, 0, 0, 0), (6, .aload_n 0, 1, 0, 0, 0, 0), (7, .getfield 62, 3, 9, 29, 4, 0), (10, .bipush 8, 2, 0, 0, 0, 0), (12, .iload_n 3, 1, 0, 0, 0, 0), (13, .imul, 1, 0, 0, 0, 0), (14, .iload_n 2, 1, 0, 0, 0, 0), (15, .iadd, 1, 0, 0, 0, 0), (16, .iaload, 1, 0, 0, 0, 0), (17, .ifCond .le 17, 3, 0, 0, 0, 0), (20, .aload_n 0, 1, 0, 0, 0, 0), (21, .getfield 62, 3, 9, 29, 4, 0), (24, .bipush 8, 2, 0, 0, 0, 0), (26, .iload_n 3, 1, 0, 0, 0, 0), (27, .imul, 1, 0, 0, 0, 0), (28, .iload_n 2, 1, 0, 0, 0, 0), (29, .iadd, 1, 0, 0, 0, 0), (30, .iaload, 1, 0, 0, 0, 0), (31, .iconst 1, 1, 0, 0, 0, 0), (32, .isub, 1, 0, 0, 0, 0), (33, .ireturn, 1, 0, 0, 0, 0), (34, .aload_n 0, 1, 0, 0, 0, 0), (35, .getfield 19, 3, 9, 13, 4, 0), (38, .iload_n 3, 1, 0, 0, 0, 0), (39, .iaload, 1, 0, 0, 0, 0), (40, .istore_n 3, 1, 0, 0, 0, 0), (41, .goto (-39), 3, 0, 0, 0, 0), (44, .iconst (-1), 1, 0, 0, 0, 0), (45, .ireturn, 1, 0, 0, 0, 0)]
/-- KindJudgeModel.resolve(II)I -/
def kjM_126 : mv_Me := (⟨"KindJudgeModel", "resolve", "(II)I"⟩, prog_11_method_27_code, 4, (some .int), "KindJudgeModel", kjT_126, 0, 0, 0, 0)
def kjT_127 : List mv_E := [(0, .iload_n 1, 1, 0, 0, 0, 0), (1, .iload_n 2, 1, 0, 0, 0, 0), (2, .if_icmp .ne 5, 3, 0, 0, 0, 0), (5, .iload_n 1, 1, 0, 0, 0, 0), (6, .ireturn, 1, 0, 0, 0, 0), (7, .iload_n 1, 1, 0, 0, 0, 0), (8, .iconst 3, 1, 0, 0, 0, 0), (9, .if_icmp .ne 16, 3, 0, 0, 0, 0), (12, .iload_n 2, 1, 0, 0, 0, 0), (13, .iconst 2, 1, 0, 0, 0, 0), (14, .if_icmp .eq 9, 3, 0, 0, 0, 0), (17, .iload_n 2, 1, 0, 0, 0, 0), (18, .bipush 15, 2, 0, 0, 0, 0), (20, .if_icmp .lt 5, 3, 0, 0, 0, 0), (23, .iload_n 2, 1, 0, 0, 0, 0), (24, .ireturn, 1, 0, 0, 0, 0), (25, .iload_n 2, 1, 0, 0, 0, 0), (26, .iconst 3, 1, 0, 0, 0, 0), (27, .if_icmp .ne 16, 3, 0, 0, 0, 0), (30, .iload_n 1, 1, 0, 0, 0, 0), (31, .iconst 2, 1, 0, 0, 0, 0), (32, .if_icmp .eq 9, 3, 0, 0, 0, 0), (35, .iload_n 1, 1, 0, 0, 0, 0), (36, .bipush 15, 2, 0, 0, 0, 0), (38, .if_icmp .lt 5, 3, 0, 0, 0, 0), (41, .iload_n 1, 1, 0, 0, 0, 0), (42, .ireturn, 1, 0, 0, 0, 0), (43, .iload_n 1, 1, 0, 0, 0, 0), (44, .bipush 15, 2, 0, 0, 0, 0), (46, .if_icmp .lt 9, 3, 0, 0, 0, 0), (49, .iload_n 2, 1, 0, 0, 0, 0), (50, .bipush 15, 2, 0, 0, 0, 0), (52, .if_icmp .ge 5, 3, 0, 0, 0, 0), (55, .iconst 0, 1, 0, 0, 0, 0), (56, .ireturn, 1, 0, 0, 0, 0), (57, .iload_n 1, 1, 0, 0, 0, 0), (58, .bipush 15, 2, 0, 0, 0, 0), (60, .if_icmp .eq 9, 3, 0, 0, 0, 0), (63, .iload_n 2, 1, 0, 0, 0, 0), (64, .bipush 15, 2, 0, 0, 0, 0), (66, .if_icmp .ne 6, 3, 0, 0, 0, 0), (69, .bipush 15, 2, 0, 0, 0, 0), (71, .ireturn, 1, 0, 0, 0, 0), (72, .iload_n 1, 1, 0, 0, 0, 0), (73, .bipush 16, 2, 0, 0, 0, 0), (75, .isub, 1, 0, 0, 0, 0), (76, .istore_n 3, 1, 0, 0, 0, 0), (77, .iload_n 3, 1, 0, 0, 0, 0), (78, .ifCond .lt 30, 3, 0, 0, 0, 0), (81, .aload_n 0, 1, 0, 0, 0, 0), (82, .iload_n 2, 1, 0, 0, 0, 0), (83, .bipush 16, 2, 0, 0, 0, 0), (85, .isub, 1, 0, 0, 0, 0), (86, .iload_n 3, 1, 0, 0, 0, 0), (87, .invokevirtual 111, 3, 111, 3, 0, 9), (90, .ifCond .eq 8, 3, 0, 0, 0, 0), (93, .bipush 16, 2, 0, 0, 0, 0), (95, .iload_n 3, 1, 0, 0, 0, 0), (96, .iadd, 1, 0, 0, 0, 0), (97, .ireturn, 1, 0, 0, 0, 0), (98, .aload_n 0, 1, 0, 0, 0, 0), (99, .getfield 19, 3, 9, 13, 4, 0), (102, .iload_n 3, 1, 0, 0, 0, 0), (103, .iaload, 1, 0, 0, 0, 0), (104, .istore_n 3, 1, 0, 0, 0, 0), (105, .goto (-28), 3, 0, 0, 0, 0), (108, .bipush 15, 2, 0, 0, 0, 0), (110, .ireturn, 1, 0, 0, 0, 0)]
/-- KindJudgeModel.joined(II)I -/
def kjM_127 : mv_Me := (⟨"KindJudgeModel", "joined", "(II)I"⟩, prog_11_method_28_code, 4, (some .int), "KindJudgeModel", kjT_127, 0, 0, 2, 45)
def kjT_128 : List mv_E := [(0, .bipush 120, 2, 0, 0, 0, 0), (2, .iload_n 1, 1, 0, 0, 0, 0), (3, .imul, 1, 0, 0, 0, 0), (4, .iload_n 2, 1, 0, 0, 0, 0), (5, .iadd, 1, 0, 0, 0, 0), (6, .istore 4, 2, 0, 0, 0, 0), (8, .aload_n 0, 1, 0, 0, 0, 0), (9, .getfield 65, 3, 9, 30, 4, 0), (12, .iload 4, 2, 0, 0, 0, 0), (14, .iaload, 1, 0, 0, 0, 0), (15, .bipush (-2), 2, 0, 0, 0, 0), (17, .if_icmp .ne 5, 3, 0, 0, 0, 0), (20, .iconst 0, 1, 0, 0, 0, 0), (21, .ireturn, 1, 0, 0, 0, 0), (22, .iload_n 3, 1, 0, 0, 0, 0), (23, .ifCond .ne 28, 3, 0, 0, 0, 0), (26, .aload_n 0, 1, 0, 0, 0, 0), (27, .getfield 65, 3, 9, 30, 4, 0), (30, .iload 4, 2, 0, 0, 0, 0), (32, .iaload, 1, 0, 0, 0, 0), (33, .iconst (-1), 1, 0, 0, 0, 0), (34, .if_icmp .eq 28, 3, 0, 0, 0, 0), (37, .aload_n 0, 1, 0, 0, 0, 0), (38, .getfield 65, 3, 9, 30, 4, 0), (41, .iload 4, 2, 0, 0, 0, 0), (43, .iaload, 1, 0, 0, 0, 0), (44, .aload_n 0, 1, 0, 0, 0, 0), (45, .getfield 196, 3, 9, 33, 0, 0), (48, .if_icmp .eq 14, 3, 0, 0, 0, 0), (51, .aload_n 0, 1, 0, 0, 0, 0), (52, .getfield 65, 3, 9, 30, 4, 0), (55, .iload 4, 2, 0, 0, 0, 0), (57, .bipush (-2), 2, 0, 0, 0, 0), (59, .iastore, 1, 0, 0, 0, 0), (60, .iconst 1, 1, 0, 0, 0, 0), (61, .ireturn, 1, 0, 0, 0, 0), (62, .aload_n 0, 1, 0, 0, 0, 0), (63, .getfield 65, 3, 9, 30, 4, 0), (66, .iload 4, 2, 0, 0, 0, 0), (68, .iaload, 1, 0, 0, 0, 0), (69, .iconst (-1), 1, 0, 0, 0, 0), (70, .if_icmp .ne 7, 3, 0, 0, 0, 0), (73, .iconst 1, 1, 0, 0, 0, 0), (74, .goto 4, 3, 0, 0, 0, 0), (77, .iconst 0, 1, 0, 0, 0, 0), (78, .istore 5, 2, 0, 0, 0, 0), (80, .iconst 0, 1, 0, 0, 0, 0), (81, .istore 6, 2, 0, 0, 0, 0), (83, .iload 6, 2, 0, 0, 0, 0), (85, .bipush 16, 2, 0, 0, 0, 0), (87, .if_icmp .ge 110, 3, 0, 0, 0, 0), (90, .iload 5, 2, 0, 0, 0, 0), (92, .ifCond .eq 13, 3, 0, 0, 0, 0), (95, .aload_n 0, 1, 0, 0, 0, 0), (96, .getfield 71, 3, 9, 32, 4, 0), (99, .iload 6, 2, 0, 0, 0, 0), (101, .iaload, 1, 0, 0, 0, 0), (102, .goto 27, 3, 0, 0, 0, 0), (105, .aload_n 0, 1, 0, 0, 0, 0), (106, .aload_n 0, 1, 0, 0, 0, 0), (107, .getfield 68, 3, 9, 31, 4, 0), (110, .bipush 16, 2, 0, 0, 0, 0), (112, .iload 4, 2, 0, 0, 0, 0), (114, .imul, 1, 0, 0, 0, 0), (115, .iload 6, 2, 0, 0, 0, 0), (117, .iadd, 1, 0, 0, 0, 0), (118, .iaload, 1, 0, 0, 0, 0), (119, .aload_n 0, 1, 0, 0, 0, 0), (120, .getfield 71, 3, 9, 32, 4, 0), (123, .iload 6, 2, 0, 0, 0, 0), (125, .iaload, 1, 0, 0, 0, 0), (126, .invokevirtual 199, 3, 127, 3, 0, 9), (129, .istore 7, 2, 0, 0, 0, 0), (131, .iload 6, 2, 0, 0, 0, 0), (133, .bipush 8, 2, 0, 0, 0, 0), (135, .aload_n 0, 1, 0, 0, 0, 0), (136, .getfield 196, 3, 9, 33, 0, 0), (139, .iadd, 1, 0, 0, 0, 0), (140, .if_icmp .lt 6, 3, 0, 0, 0, 0), (143, .iconst 0, 1, 0, 0, 0, 0), (144, .istore 7, 2, 0, 0, 0, 0), (146, .iload 5, 2, 0, 0, 0, 0), (148, .ifCond .ne 21, 3, 0, 0, 0, 0), (151, .iload 7, 2, 0, 0, 0, 0), (153, .aload_n 0, 1, 0, 0, 0, 0), (154, .getfield 68, 3, 9, 31, 4, 0), (157, .bipush 16, 2, 0, 0, 0, 0), (159, .iload 4, 2, 0, 0, 0, 0), (161, .imul, 1, 0, 0, 0, 0), (162, .iload 6, 2, 0, 0, 0, 0), (164, .iadd, 1, 0, 0, 0, 0), (165, .iaload, 1, 0, 0, 0, 0), (166, .if_icmp .eq 7, 3, 0, 0, 0, 0), (169, .iconst 1, 1, 0, 0, 0, 0), (170, .goto 4, 3, 0, 0, 0, 0), (173, .iconst 0, 1, 0, 0, 0, 0), (174, .istore 5, 2, 0, 0, 0, 0), (176, .aload_n 0, 1, 0, 0, 0, 0), (177, .getfield 68, 3, 9, 31, 4, 0), (180, .bipush 16, 2, 0, 0, 0, 0), (182, .iload 4, 2, 0, 0, 0, 0), (184, .imul, 1, 0, 0, 0, 0), (185, .iload 6, 2, 0, 0, 0, 0), (187, .iadd, 1, 0, 0, 0, 0), (188, .iload 7, 2, 0, 0, 0, 0), (190, .iastore, 1, 0, 0, 0, 0), (191, .iinc 6 1, 3, 0, 0, 0, 0), (194, .goto (-111), 3, 0, 0, 0, 0), (197, .aload_n 0, 1, 0, 0, 0, 0), (198, .getfield 65, 3, 9, 30, 4, 0), (201, .iload 4, 2, 0, 0, 0, 0), (203, .aload_n 0, 1, 0, 0, 0, 0), (204, .getfield 196, 3, 9, 33, 0, 0), (207, .iastore, 1, 0, 0, 0, 0), (208, .iload 5, 2, 0, 0, 0, 0), (210, .ireturn, 1, 0, 0, 0, 0)]
/-- KindJudgeModel.merge(IIZ)Z -/
def kjM_128 : mv_Me := (⟨"KindJudgeModel", "merge", "(IIZ)Z"⟩, prog_11_method_29_code, 8, (some .boolean), "KindJudgeModel", kjT_128, 0, 0, 3, 68)
def kjT_129 : List mv_E := [(0, .iconst 0, 1, 0, 0, 0, 0), (1, .istore_n 2, 1, 0, 0, 0, 0), (2, .iload_n 2, 1, 0, 0, 0, 0), (3, .bipush 120, 2, 0, 0, 0, 0), (5, .if_icmp .ge 21, 3, 0, 0, 0, 0), (8, .aload_n 0, 1, 0, 0, 0, 0), (9, .getfield 65, 3, 9, 30, 4, 0), (12, .bipush 120, 2, 0, 0, 0, 0), (14, .iload_n 1, 1, 0, 0, 0, 0), (15, .imul, 1, 0, 0, 0, 0), (16, .iload_n 2, 1, 0, 0, 0, 0), (17, .iadd, 1, 0, 0, 0, 0), (18, .iconst (-1), 1, 0, 0, 0, 0), (19, .iastore, 1, 0, 0, 0, 0), (20, .iinc 2 1, 3, 0, 0, 0, 0), (23, .goto (-21), 3, 0, 0, 0, 0), (26, .iconst 0, 1, 0, 0, 0, 0), (27, .istore_n 2, 1, 0, 0, 0, 0), (28, .iload_n 2, 1, 0, 0, 0, 0), (29, .bipush 16, 2, 0, 0, 0, 0), (31, .if_icmp .ge 39, 3, 0, 0, 0, 0), (34, .aload_n 0, 1, 0, 0, 0, 0), (35, .getfield 71, 3, 9, 32, 4, 0), (38, .iload_n 2, 1, 0, 0, 0, 0), (39, .iload_n 2, 1, 0, 0, 0, 0), (40, .aload_n 0, 1, 0, 0, 0, 0), (41, .getfield 37, 3, 9, 21, 4, 0), (44, .iload_n 1, 1, 0, 0, 0, 0), (45, .iaload, 1, 0, 0, 0, 0), (46, .if_icmp .ge 16, 3, 0, 0, 0, 0), (49, .aload_n 0, 1, 0, 0, 0, 0), (50, .getfield 40, 3, 9, 22, 4, 0), (53, .iconst 4, 1, 0, 0, 0, 0), (54, .iload_n 1, 1, 0, 0, 0, 0), (55, .imul, 1, 0, 0, 0, 0), (56, .iload_n 2, 1, 0, 0, 0, 0), (57, .iadd, 1, 0, 0, 0, 0), (58, .iaload, 1, 0, 0, 0, 0), (59, .goto 4, 3, 0, 0, 0, 0), (62, .iconst 0, 1, 0, 0, 0, 0), (63, .iastore, 1, 0, 0, 0, 0), (64, .iinc 2 1, 3, 0, 0, 0, 0), (67, .goto (-39), 3, 0, 0, 0, 0), (70, .aload_n 0, 1, 0, 0, 0, 0), (71, .iconst 0, 1, 0, 0, 0, 0), (72, .putfield 196, 3, 9, 33, 0, 0), (75, .aload_n 0, 1, 0, 0, 0, 0), (76, .iload_n 1, 1, 0, 0, 0, 0), (77, .iconst 0, 1, 0, 0, 0, 0), (78, .iconst 0, 1, 0, 0, 0, 0), (79, .invokevirtual 202, 3, 128, 4, 0, 9), (82, .istore_n 2, 1, 0, 0, 0, 0), (83, .iload_n 2, 1, 0, 0, 0, 0), (84, .ifCond .eq 67, 3, 0, 0, 0, 0), (87, .iconst 0, 1, 0, 0, 0, 0), (88, .istore_n 2, 1, 0, 0, 0, 0), (89, .iconst 0, 1, 0, 0, 0, 0), (90, .istore_n 3, 1, 0, 0, 0, 0), (91, .iload_n 3, 1, 0, 0, 0, 0), (92, .aload_n 0, 1, 0, 0, 0, 0), (93, .getfield 52, 3, 9, 26, 4, 0), (96, .iload_n 1, 1, 0, 0, 0, 0), (97, .iaload, 1, 0, 0, 0, 0), (98, .if_icmp .ge 50, 3, 0, 0, 0, 0), (101, .aload_n 0, 1, 0, 0, 0, 0), (102, .getfield 65, 3, 9, 30, 4, 0), (105, .bipush 120, 2, 0, 0, 0, 0), (107, .iload_n 1, 1, 0, 0, 0, 0), (108, .imul, 1, 0, 0, 0, 0), (109, .iload_n 3, 1, 0, 0, 0, 0), (110, .iadd, 1, 0, 0, 0, 0), (111, .iaload, 1, 0, 0, 0, 0), (112, .iconst (-1), 1, 0, 0, 0, 0), (113, .if_icmp .ne 6, 3, 0, 0, 0, 0), (116, .goto 26, 3, 0, 0, 0, 0), (119, .aload_n 0, 1, 0, 0, 0, 0), (120, .iload_n 1, 1, 0, 0, 0, 0), (121, .iload_n 3, 1, 0, 0, 0, 0), (122, .invokevirtual 206, 3, 130, 3, 0, 9), (125, .istore 4, 2, 0, 0, 0, 0), (127, .iload_n 2, 1, 0, 0, 0, 0), (128, .ifCond .ne 8, 3, 0, 0, 0, 0), (131, .iload 4, 2, 0, 0, 0, 0), (133, .ifCond .eq 7, 3, 0, 0, 0, 0), (136, .iconst 1, 1, 0, 0, 0, 0), (137, .goto 4, 3, 0, 0, 0, 0), (140, .iconst 0, 1, 0, 0, 0, 0), (141, .istore_n 2, 1, 0, 0, 0, 0), (142, .iinc 3 1, 3, 0, 0, 0, 0), (145, .goto (-54), 3, 0, 0, 0, 0), (148, .goto (-65), 3, 0, 0, 0, 0), (151, .return_, 1, 0, 0, 0, 0)]
/-- KindJudgeModel.flow(I)V -/
def kjM_129 : mv_Me := (⟨"KindJudgeModel", "flow", "(I)V"⟩, prog_11_method_30_code, 5, none, "KindJudgeModel", kjT_129, 0, 0, 5, 122)
def kjT_130 : List mv_E := [(0, .aload_n 0, 1, 0, 0, 0, 0), (1, .iload_n 1, 1, 0, 0, 0, 0), (2, .iload_n 2, 1, 0, 0, 0, 0), (3, .invokevirtual 137, 3, 116, 3, 0, 9), (6, .istore_n 3, 1, 0, 0, 0, 0), (7, .aload_n 0, 1, 0, 0, 0, 0), (8, .getfield 65, 3, 9, 30, 4, 0), (11, .bipush 120, 2, 0, 0, 0, 0), (13, .iload_n 1, 1, 0, 0, 0, 0), (14, .imul, 1, 0, 0, 0, 0), (15, .iload_n 2, 1, 0, 0, 0, 0), (16, .iadd, 1, 0, 0, 0, 0), (17, .iaload, 1, 0, 0, 0, 0), (18, .bipush (-2), 2, 0, 0, 0, 0), (20, .if_icmp .ne 7, 3, 0, 0, 0, 0), (23, .iconst 1, 1, 0, 0, 0, 0), (24, .goto 4, 3, 0, 0, 0, 0), (27, .iconst 0, 1, 0, 0, 0, 0), (28, .istore 4, 2, 0, 0, 0, 0), (30, .iload 4, 2, 0, 0, 0, 0), (32, .ifCond .ne 36, 3, 0, 0, 0, 0), (35, .aload_n 0, 1, 0, 0, 0, 0), (36, .iload_n 1, 1, 0, 0, 0, 0), (37, .iload_n 2, 1, 0, 0, 0, 0), (38, .invokevirtual 209, 3, 135, 3, 0, 9), (41, .aload_n 0, 1, 0, 0, 0, 0), (42, .getfield 212, 3, 9, 34, 1, 0), (45, .ifCond .ne 16, 3, 0, 0, 0, 0), (48, .aload_n 0, 1, 0, 0, 0, 0), (49, .getfield 196, 3, 9, 33, 0, 0), (52, .aload_n 0, 1, 0, 0, 0, 0), (53, .getfield 49, 3, 9, 25, 4, 0), (56, .iload_n 1, 1, 0, 0, 0, 0), (57, .iaload, 1, 0, 0, 0, 0), (58, .if_icmp .le 7, 3, 0, 0, 0, 0), (61, .iconst 1, 1, 0, 0, 0, 0), (62, .goto 4, 3, 0, 0, 0, 0), (65, .iconst 0, 1, 0, 0, 0, 0), (66, .istore 4, 2, 0, 0, 0, 0), (68, .iconst 0, 1, 0, 0, 0, 0), (69, .istore 5, 2, 0, 0, 0, 0), (71, .iload_n 3, 1, 0, 0, 0, 0), (72, .bipush 21, 2, 0, 0, 0, 0), (74, .if_icmp .lt 26, 3, 0, 0, 0, 0), (77, .iload_n 3, 1, 0, 0, 0, 0), (78, .bipush 37, 2, 0, 0, 0, 0), (80, .if_icmp .gt 20, 3, 0, 0, 0, 0), (83, .aload_n 0, 1, 0, 0, 0, 0), (84, .iload_n 1, 1, 0, 0, 0, 0), (85, .aload_n 0, 1, 0, 0, 0, 0), (86, .iload_n 1, 1, 0, 0, 0, 0), (87, .iload_n 2, 1, 0, 0, 0, 0), (88, .iconst 1, 1, 0, 0, 0, 0), (89, .iadd, 1, 0, 0, 0, 0), (90, .invokevirtual 137, 3, 116, 3, 0, 9), (93, .iload 4, 2, 0, 0, 0, 0), (95, .invokevirtual 202, 3, 128, 4, 0, 9), (98, .istore 5, 2, 0, 0, 0, 0), (100, .iconst 0, 1, 0, 0, 0, 0), (101, .istore 6, 2, 0, 0, 0, 0), (103, .iload_n 3, 1, 0, 0, 0, 0), (104, .bipush 53, 2, 0, 0, 0, 0), (106, .if_icmp .ne 59, 3, 0, 0, 0, 0), (109, .iload 6, 2, 0, 0, 0, 0), (111, .aload_n 0, 1, 0, 0, 0, 0), (112, .iload_n 1, 1, 0, 0, 0, 0), (113, .iload_n 2, 1, 0, 0, 0, 0), (114, .iconst 1, 1, 0, 0, 0, 0), (115, .iadd, 1, 0, 0, 0, 0), (116, .invokevirtual 137, 3, 116, 3, 0, 9), (119, .if_icmp .gt 46, 3, 0, 0, 0, 0), (122, .aload_n 0, 1, 0, 0, 0, 0), (123, .iload_n 1, 1, 0, 0, 0, 0), (124, .aload_n 0, 1, 0, 0, 0, 0), (125, .iload_n 1, 1, 0, 0, 0, 0), (126, .iload_n 2, 1, 0, 0, 0, 0), (127, .iconst 2, 1, 0, 0, 0, 0), (128, .iadd, 1, 0, 0, 0, 0), (129, .iload 6, 2, 0, 0, 0, 0), (131, .iadd, 1, 0, 0, 0, 0), (132, .invokevirtual 137, 3, 116, 3, 0, 9), (135, .iload 4, 2, 0, 0, 0, 0), (137, .invokevirtual 202, 3, 128, 4, 0, 9), (140, .istore 7, 2, 0, 0, 0, 0), (142, .iload 5, 2, 0, 0, 0, 0), (144, .ifCond .ne 8, 3, 0, 0, 0, 0), (147, .iload 7, 2, 0, 0, 0, 0), (149, .ifCond .eq 7, 3, 0, 0, 0, 0), (152, .iconst 1, 1, 0, 0, 0, 0), (153, .goto 4, 3, 0, 0, 0, 0), (156, .iconst 0, 1, 0, 0, 0, 0), (157, .istore 5, 2, 0, 0, 0, 0), (159, .iinc 6 1, 3, 0, 0, 0, 0), (162, .goto (-59), 3, 0, 0, 0, 0), (165, .iload_n 3, 1, 0, 0, 0, 0), (166, .bipush 21, 2, 0, 0, 0, 0), (168, .if_icmp .eq 55, 3, 0, 0, 0, 0), (171, .iload_n 3, 1, 0, 0, 0, 0), (172, .bipush 49, 2, 0, 0, 0, 0), (174, .if_icmp .eq 49, 3, 0, 0, 0, 0), (177, .iload_n 3, 1, 0, 0, 0, 0), (178, .bipush 50, 2, 0, 0, 0, 0), (180, .if_icmp .eq 43, 3, 0, 0, 0, 0), (183, .iload_n 3, 1, 0, 0, 0, 0), (184, .bipush 53, 2, 0, 0, 0, 0), (186, .if_icmp .eq 37, 3, 0, 0, 0, 0), (189, .aload_n 0, 1, 0, 0, 0, 0), (190, .iload_n 1, 1, 0, 0, 0, 0), (191, .iload_n 2, 1, 0, 0, 0, 0), (192, .aload_n 0, 1, 0, 0, 0, 0), (193, .iload_n 1, 1, 0, 0, 0, 0), (194, .iload_n 2, 1, 0, 0, 0, 0), (195, .invokevirtual 144, 3, 117, 3, 0, 9), (198, .iadd, 1, 0, 0, 0, 0), (199, .iload 4, 2, 0, 0, 0, 0), (201, .invokevirtual 202, 3, 128, 4, 0, 9), (204, .istore 6, 2, 0, 0, 0, 0), (206, .iload 5, 2, 0, 0, 0, 0), (208, .ifCond .ne 8, 3, 0, 0, 0, 0), (211, .iload 6, 2, 0, 0, 0, 0), (213, .ifCond .eq 7, 3, 0, 0, 0, 0), (216, .iconst 1, 1, 0, 0, 0, 0), (217, .goto 4, 3, 0, 0, 0, 0), (220, .iconst 0, 1, 0, 0, 0, 0), (221, .istore 5, 2, 0, 0, 0, 0), (223, .iload 5, 2, 0, 0, 0, 0), (225, .ireturn, 1, 0, 0, 0, 0)]
/-- KindJudgeModel.goOn(II)Z -/
def kjM_130 : mv_Me := (⟨"KindJudgeModel", "goOn", "(II)Z"⟩, prog_11_method_31_code, 8, (some .boolean), "KindJudgeModel", kjT_130, 0, 0, 4, 95)
def kjT_131 : List mv_E := [(0, .aload_n 0, 1, 0, 0, 0, 0), (1, .getfield 196, 3, 9, 33, 0, 0), (4, .ifCond .ne 10, 3, 0, 0, 0, 0), (7, .aload_n 0, 1, 0, 0, 0, 0), (8, .iconst 1, 1, 0, 0, 0, 0), (9, .putfield 212, 3, 9, 34, 1, 0), (12, .iconst 0, 1, 0, 0, 0, 0), (13, .ireturn, 1, 0, 0, 0, 0), (14, .aload_n 0, 1, 0, 0, 0, 0), (15, .dup, 1, 0, 0, 0, 0), (16, .getfield 196, 3, 9, 33, 0, 0), (19, .iconst 1, 1, 0, 0, 0, 0), (20, .isub, 1, 0, 0, 0, 0), (21, .putfield 196, 3, 9, 33, 0, 0), (24, .aload_n 0, 1, 0, 0, 0, 0), (25, .getfield 71, 3, 9, 32, 4, 0), (28, .bipush 8, 2, 0, 0, 0, 0), (30, .aload_n 0, 1, 0, 0, 0, 0), (31, .getfield 196, 3, 9, 33, 0, 0), (34, .iadd, 1, 0, 0, 0, 0), (35, .iaload, 1, 0, 0, 0, 0), (36, .ireturn, 1, 0, 0, 0, 0)]
/-- KindJudgeModel.popKind()I -/
def kjM_131 : mv_Me := (⟨"KindJudgeModel", "popKind", "()I"⟩, prog_11_method_32_code, 1, (some .int), "KindJudgeModel", kjT_131, 0, 0, 0, 0)
def kjT_132 : List mv_E := [(0, .aload_n 0, 1, 0, 0, 0, 0), (1, .getfield 196, 3, 9, 33, 0, 0), (4, .bipush 8, 2, 0, 0, 0, 0), (6, .if_icmp .ge 16, 3, 0, 0, 0, 0), (9, .aload_n 0, 1, 0, 0, 0, 0), (10, .getfield 71, 3, 9, 32, 4, 0), (13, .bipush 8, 2, 0, 0, 0, 0), (15, .aload_n 0, 1, 0, 0, 0, 0), (16, .getfield 196, 3, 9, 33, 0, 0), (19, .iadd, 1, 0, 0, 0, 0), (20, .iload_n 1, 1, 0, 0, 0, 0), (21, .iastore, 1, 0, 0, 0, 0), (22, .aload_n 0, 1, 0, 0, 0, 0), (23, .dup, 1, 0, 0, 0, 0), (24, .getfield 196, 3, 9, 33, 0, 0), (27, .iconst 1, 1, 0, 0, 0, 0), (28, .iadd, 1, 0, 0, 0, 0), (29, .putfield 196, 3, 9, 33, 0, 0), (32, .return_, 1, 0, 0, 0, 0)]
/-- KindJudgeModel.pushKind(I)V -/
def kjM_132 : mv_Me := (⟨"KindJudgeModel", "pushKind", "(I)V"⟩, prog_11_method_33_code, 2, none, "KindJudgeModel", kjT_132, 0, 0, 0, 0)
def kjT_133 : List mv_E := [(0, .iconst 0, 1, 0, 0, 0, 0), (1, .istore_n 2, 1, 0, 0, 0, 0), (2, .iload_n 2, 1, 0, 0, 0, 0), (3, .iload_n 1, 1, 0, 0, 0, 0), (4, .if_icmp .ge 14, 3, 0, 0, 0, 0), (7, .aload_n 0, 1, 0, 0, 0, 0), (8, .invokevirtual 215, 3, 131, 1, 0, 9), (11, .pop, 1, 0, 0, 0, 0), (12, .iinc 2 1, 3, 0, 0, 0, 0), (15, .goto (-13), 3, 0, 0, 0, 0), (18, .return_, 1, 0, 0, 0, 0)]
/-- KindJudgeModel.drop(I)V -/
def kjM_133 : mv_Me := (⟨"KindJudgeModel", "drop", "(I)V"⟩, prog_11_method_34_code, 3, none, "KindJudgeModel", kjT_133, 0, 0, 1, 20)
def kjT_134 : List mv_E := [(0, .aload_n 0, 1, 0, 0, 0, 0), (1, .iload_n 1, 1, 0, 0, 0, 0), (2, .iload_n 2, 1, 0, 0, 0, 0), (3, .invokevirtual 137, 3, 116, 3, 0, 9), (6, .istore_n 3, 1, 0, 0, 0, 0), (7, .iload_n 3, 1, 0, 0, 0, 0), (8, .tableswitch 252 4 53 #[216, 216, 216, 218, 252, 252, 252, 252, 252, 252, 252, 252, 252, 252, 252, 216, 252, 252, 252, 252, 252, 252, 252, 252, 252, 252, 252, 252, 252, 252, 216, 216, 218, 218, 252, 216, 218, 216, 218, 220, 216, 216, 216, 222, 236, 252, 216, 216, 252, 216], 216, 0, 0, 0, 0), (224, .iconst 1, 1, 0, 0, 0, 0), (225, .ireturn, 1, 0, 0, 0, 0), (226, .iconst 2, 1, 0, 0, 0, 0), (227, .ireturn, 1, 0, 0, 0, 0), (228, .iconst 3, 1, 0, 0, 0, 0), (229, .ireturn, 1, 0, 0, 0, 0), (230, .aload_n 0, 1, 0, 0, 0, 0), (231, .getfield 37, 3, 9, 21, 4, 0), (234, .aload_n 0, 1, 0, 0, 0, 0), (235, .iload_n 1, 1, 0, 0, 0, 0), (236, .iload_n 2, 1, 0, 0, 0, 0), (237, .iconst 1, 1, 0, 0, 0, 0), (238, .iadd, 1, 0, 0, 0, 0), (239, .invokevirtual 137, 3, 116, 3, 0, 9), (242, .iaload, 1, 0, 0, 0, 0), (243, .ireturn, 1, 0, 0, 0, 0), (244, .iconst 1, 1, 0, 0, 0, 0), (245, .aload_n 0, 1, 0, 0, 0, 0), (246, .getfield 28, 3, 9, 17, 4, 0), (249, .aload_n 0, 1, 0, 0, 0, 0), (250, .iload_n 1, 1, 0, 0, 0, 0), (251, .iload_n 2, 1, 0, 0, 0, 0), (252, .iconst 1, 1, 0, 0, 0, 0), (253, .iadd, 1, 0, 0, 0, 0), (254, .invokevirtual 137, 3, 116, 3, 0, 9), (257, .iaload, 1, 0, 0, 0, 0), (258, .iadd, 1, 0, 0, 0, 0), (259, .ireturn, 1, 0, 0, 0, 0), (260, .iload_n 3, 1, 0, 0, 0, 0), (261, .bipush 8, 2, 0, 0, 0, 0), (263, .if_icmp .lt 9, 3, 0, 0, 0, 0), (266, .iload_n 3, 1, 0, 0, 0, 0), (267, .bipush 18, 2, 0, 0, 0, 0), (269, .if_icmp .le 15, 3, 0, 0, 0, 0), (272, .iload_n 3, 1, 0, 0, 0, 0), (273, .bipush 28, 2, 0, 0, 0, 0), (275, .if_icmp .lt 13, 3, 0, 0, 0, 0), (278, .iload_n 3, 1, 0, 0, 0, 0), (279, .bipush 33, 2, 0, 0, 0, 0), (281, .if_icmp .gt 7, 3, 0, 0, 0, 0), (284, .iconst 2, 1, 0, 0, 0, 0), (285, .goto 20, 3, 0, 0, 0, 0), (288, .iload_n 3, 1, 0, 0, 0, 0), (289, .bipush 22, 2, 0, 0, 0, 0), (291, .if_icmp .lt 13, 3, 0, 0, 0, 0), (294, .iload_n 3, 1, 0, 0, 0, 0), (295, .bipush 27, 2, 0, 0, 0, 0), (297, .if_icmp .gt 7, 3, 0, 0, 0, 0), (300, .iconst 1, 1, 0, 0, 0, 0), (301, .goto 4, 3, 0, 0, 0, 0), (304, .iconst 0, 1, 0, 0, 0, 0), (305, .ireturn, 1, 0, 0, 0, 0)]
/-- KindJudgeModel.takes(II)I -/
def kjM_134 : mv_Me := (⟨"KindJudgeModel", "takes", "(II)I"⟩, prog_11_method_35_code, 4, (some .int), "KindJudgeModel", kjT_134, 0, 0, 1, 22)
def kjT_135 : List mv_E := [(0, .bipush 120, 2, 0, 0, 0, 0), (2, .iload_n 1, 1, 0, 0, 0, 0), (3, .imul, 1, 0, 0, 0, 0), (4, .iload_n 2, 1, 0, 0, 0, 0), (5, .iadd, 1, 0, 0, 0, 0), (6, .istore_n 3, 1, 0, 0, 0, 0), (7, .aload_n 0, 1, 0, 0, 0, 0), (8, .iload_n 1, 1, 0, 0, 0, 0), (9, .iload_n 2, 1, 0, 0, 0, 0), (10, .invokevirtual 137, 3, 116, 3, 0, 9), (13, .istore 4, 2, 0, 0, 0, 0), (15, .aload_n 0, 1, 0, 0, 0, 0), (16, .getfield 52, 3, 9, 26, 4, 0), (19, .iload_n 1, 1, 0, 0, 0, 0), (20, .iaload, 1, 0, 0, 0, 0), (21, .iload_n 2, 1, 0, 0, 0, 0), (22, .iconst 1, 1, 0, 0, 0, 0), (23, .iadd, 1, 0, 0, 0, 0), (24, .if_icmp .le 14, 3, 0, 0, 0, 0), (27, .aload_n 0, 1, 0, 0, 0, 0), (28, .iload_n 1, 1, 0, 0, 0, 0), (29, .iload_n 2, 1, 0, 0, 0, 0), (30, .iconst 1, 1, 0, 0, 0, 0), (31, .iadd, 1, 0, 0, 0, 0), (32, .invokevirtual 137, 3, 116, 3, 0, 9), (35, .goto 4, 3, 0, 0, 0, 0), (38, .iconst 0, 1, 0, 0, 0, 0), (39, .istore 5, 2, 0, 0, 0, 0), (41, .iconst 0, 1, 0, 0, 0, 0), (42, .istore 6, 2, 0, 0, 0, 0), (44, .iload 6, 2, 0, 0, 0, 0), (46, .bipush 16, 2, 0, 0, 0, 0), (48, .if_icmp .ge 28, 3, 0, 0, 0, 0), (51, .aload_n 0, 1, 0, 0, 0, 0), (52, .getfield 71, 3, 9, 32, 4, 0), (55, .iload 6, 2, 0, 0, 0, 0), (57, .aload_n 0, 1, 0, 0, 0, 0), (58, .getfield 68, 3, 9, 31, 4, 0), (61, .bipush 16, 2, 0, 0, 0, 0), (63, .iload_n 3, 1, 0, 0, 0, 0), (64, .imul, 1, 0, 0, 0, 0), (65, .iload 6, 2, 0, 0, 0, 0), (67, .iadd, 1, 0, 0, 0, 0), (68, .iaload, 1, 0, 0, 0, 0), (69, .iastore, 1, 0, 0, 0, 0), (70, .iinc 6 1, 3, 0, 0, 0, 0), (73, .goto (-29), 3, 0, 0, 0, 0), (76, .aload_n 0, 1, 0, 0, 0, 0), (77, .aload_n 0, 1, 0, 0, 0, 0), (78, .getfield 65, 3, 9, 30, 4, 0), (81, .iload_n 3, 1, 0, 0, 0, 0), (82, .iaload, 1, 0, 0, 0, 0), (83, .putfield 196, 3, 9, 33, 0, 0), (86, .aload_n 0, 1, 0, 0, 0, 0), (87, .iconst 0, 1, 0, 0, 0, 0), (88, .putfield 212, 3, 9, 34, 1, 0), (91, .aload_n 0, 1, 0, 0, 0, 0), (92, .getfield 196, 3, 9, 33, 0, 0), (95, .ifCond .le 18, 3, 0, 0, 0, 0), (98, .aload_n 0, 1, 0, 0, 0, 0), (99, .getfield 71, 3, 9, 32, 4, 0), (102, .bipush 7, 2, 0, 0, 0, 0), (104, .aload_n 0, 1, 0, 0, 0, 0), (105, .getfield 196, 3, 9, 33, 0, 0), (108, .iadd, 1, 0, 0, 0, 0), (109, .iaload, 1, 0, 0, 0, 0), (110, .goto 4, 3, 0, 0, 0, 0), (113, .iconst 0, 1, 0, 0, 0, 0), (114, .istore 6, 2, 0, 0, 0, 0), (116, .aload_n 0, 1, 0, 0, 0, 0), (117, .getfield 196, 3, 9, 33, 0, 0), (120, .iconst 1, 1, 0, 0, 0, 0), (121, .if_icmp .le 18, 3, 0, 0, 0, 0), (124, .aload_n 0, 1, 0, 0, 0, 0), (125, .getfield 71, 3, 9, 32, 4, 0), (128, .bipush 6, 2, 0, 0, 0, 0), (130, .aload_n 0, 1, 0, 0, 0, 0), (131, .getfield 196, 3, 9, 33, 0, 0), (134, .iadd, 1, 0, 0, 0, 0), (135, .iaload, 1, 0, 0, 0, 0), (136, .goto 4, 3, 0, 0, 0, 0), (139, .iconst 0, 1, 0, 0, 0, 0), (140, .istore 7, 2, 0, 0, 0, 0), (142, .aload_n 0, 1, 0, 0, 0, 0), (143, .aload_n 0, 1, 0, 0, 0, 0), (144, .iload_n 1, 1, 0, 0, 0, 0), (145, .iload_n 2, 1, 0, 0, 0, 0), (146, .invokevirtual 219, 3, 134, 3, 0, 9), (149, .invokevirtual 222, 3, 133, 2, 0, 9), (152, .iload 4, 2, 0, 0, 0, 0), (154, .tableswitch 392 0 52 #[226, 226, 234, 242, 256, 392, 268, 283, 392, 392, 392, 392, 392, 392, 392, 392, 392, 392, 392, 392, 392, 392, 392, 392, 392, 392, 392, 392, 392, 392, 392, 392, 392, 392, 392, 392, 392, 392, 298, 310, 392, 336, 226, 392, 226, 226, 298, 344, 368, 392, 392, 392, 226], 226, 0, 0, 0, 0), (380, .aload_n 0, 1, 0, 0, 0, 0), (381, .iconst 1, 1, 0, 0, 0, 0), (382, .invokevirtual 225, 3, 132, 2, 0, 9), (385, .goto 180, 3, 0, 0, 0, 0), (388, .aload_n 0, 1, 0, 0, 0, 0), (389, .iconst 3, 1, 0, 0, 0, 0), (390, .invokevirtual 225, 3, 132, 2, 0, 9), (393, .goto 172, 3, 0, 0, 0, 0), (396, .aload_n 0, 1, 0, 0, 0, 0), (397, .aload_n 0, 1, 0, 0, 0, 0), (398, .getfield 71, 3, 9, 32, 4, 0), (401, .iload 5, 2, 0, 0, 0, 0), (403, .iaload, 1, 0, 0, 0, 0), (404, .invokevirtual 225, 3, 132, 2, 0, 9), (407, .goto 158, 3, 0, 0, 0, 0), (410, .aload_n 0, 1, 0, 0, 0, 0), (411, .getfield 71, 3, 9, 32, 4, 0), (414, .iload 5, 2, 0, 0, 0, 0), (416, .iload 6, 2, 0, 0, 0, 0), (418, .iastore, 1, 0, 0, 0, 0), (419, .goto 146, 3, 0, 0, 0, 0), (422, .aload_n 0, 1, 0, 0, 0, 0), (423, .iload 6, 2, 0, 0, 0, 0), (425, .invokevirtual 225, 3, 132, 2, 0, 9), (428, .aload_n 0, 1, 0, 0, 0, 0), (429, .iload 6, 2, 0, 0, 0, 0), (431, .invokevirtual 225, 3, 132, 2, 0, 9), (434, .goto 131, 3, 0, 0, 0, 0), (437, .aload_n 0, 1, 0, 0, 0, 0), (438, .iload 6, 2, 0, 0, 0, 0), (440, .invokevirtual 225, 3, 132, 2, 0, 9), (443, .aload_n 0, 1, 0, 0, 0, 0), (444, .iload 7, 2, 0, 0, 0, 0), (446, .invokevirtual 225, 3, 132, 2, 0, 9), (449, .goto 116, 3, 0, 0, 0, 0), (452, .aload_n 0, 1, 0, 0, 0, 0), (453, .bipush 16, 2, 0, 0, 0, 0), (455, .iload 5, 2, 0, 0, 0, 0), (457, .iadd, 1, 0, 0, 0, 0), (458, .invokevirtual 225, 3, 132, 2, 0, 9), (461, .goto 104, 3, 0, 0, 0, 0), (464, .aload_n 0, 1, 0, 0, 0, 0), (465, .aload_n 0, 1, 0, 0, 0, 0), (466, .getfield 25, 3, 9, 15, 4, 0), (469, .bipush 8, 2, 0, 0, 0, 0), (471, .iload 5, 2, 0, 0, 0, 0), (473, .imul, 1, 0, 0, 0, 0), (474, .aload_n 0, 1, 0, 0, 0, 0), (475, .iload_n 1, 1, 0, 0, 0, 0), (476, .iload_n 2, 1, 0, 0, 0, 0), (477, .iconst 2, 1, 0, 0, 0, 0), (478, .iadd, 1, 0, 0, 0, 0), (479, .invokevirtual 137, 3, 116, 3, 0, 9), (482, .iadd, 1, 0, 0, 0, 0), (483, .iaload, 1, 0, 0, 0, 0), (484, .invokevirtual 225, 3, 132, 2, 0, 9), (487, .goto 78, 3, 0, 0, 0, 0), (490, .aload_n 0, 1, 0, 0, 0, 0), (491, .iconst 2, 1, 0, 0, 0, 0), (492, .invokevirtual 225, 3, 132, 2, 0, 9), (495, .goto 70, 3, 0, 0, 0, 0), (498, .aload_n 0, 1, 0, 0, 0, 0), (499, .getfield 43, 3, 9, 23, 4, 0), (502, .iload 5, 2, 0, 0, 0, 0), (504, .iaload, 1, 0, 0, 0, 0), (505, .ifCond .le 60, 3, 0, 0, 0, 0), (508, .aload_n 0, 1, 0, 0, 0, 0), (509, .aload_n 0, 1, 0, 0, 0, 0), (510, .getfield 43, 3, 9, 23, 4, 0), (513, .iload 5, 2, 0, 0, 0, 0), (515, .iaload, 1, 0, 0, 0, 0), (516, .invokevirtual 225, 3, 132, 2, 0, 9), (519, .goto 46, 3, 0, 0, 0, 0), (522, .aload_n 0, 1, 0, 0, 0, 0), (523, .getfield 34, 3, 9, 19, 4, 0), (526, .iload 5, 2, 0, 0, 0, 0), (528, .iaload, 1, 0, 0, 0, 0), (529, .ifCond .le 36, 3, 0, 0, 0, 0), (532, .aload_n 0, 1, 0, 0, 0, 0), (533, .aload_n 0, 1, 0, 0, 0, 0), (534, .getfield 34, 3, 9, 19, 4, 0), (537, .iload 5, 2, 0, 0, 0, 0), (539, .iaload, 1, 0, 0, 0, 0), (540, .invokevirtual 225, 3, 132, 2, 0, 9), (543, .goto 22, 3, 0, 0, 0, 0), (546, .iload 4, 2, 0, 0, 0, 0), (548, .bipush 8, 2, 0, 0, 0, 0), (550, .if_icmp .lt 15, 3, 0, 0, 0, 0), (553, .iload 4, 2, 0, 0, 0, 0), (555, .bipush 19, 2, 0, 0, 0, 0), (557, .if_icmp .gt 8, 3, 0, 0, 0, 0), (560, .aload_n 0, 1, 0, 0, 0, 0), (561, .iconst 1, 1, 0, 0, 0, 0), (562, .invokevirtual 225, 3, 132, 2, 0, 9), (565, .return_, 1, 0, 0, 0, 0)]
/-- KindJudgeModel.behind(II)V -/
def kjM_135 : mv_Me := (⟨"KindJudgeModel", "behind", "(II)V"⟩, prog_11_method_36_code, 8, none, "KindJudgeModel", kjT_135, 0, 0, 2, 45)
def kjT_136 : List mv_E := [(0, .iload_n 1, 1, 0, 0, 0, 0), (1, .iload_n 2, 1, 0, 0, 0, 0), (2, .if_icmp .eq 40, 3, 0, 0, 0, 0), (5, .iload_n 1, 1, 0, 0, 0, 0), (6, .iconst 3, 1, 0, 0, 0, 0), (7, .if_icmp .ne 8, 3, 0, 0, 0, 0), (10, .iload_n 2, 1, 0, 0, 0, 0), (11, .iconst 1, 1, 0, 0, 0, 0), (12, .if_icmp .ne 30, 3, 0, 0, 0, 0), (15, .iload_n 1, 1, 0, 0, 0, 0), (16, .bipush 16, 2, 0, 0, 0, 0), (18, .if_icmp .lt 28, 3, 0, 0, 0, 0), (21, .iload_n 2, 1, 0, 0, 0, 0), (22, .bipush 16, 2, 0, 0, 0, 0), (24, .if_icmp .lt 22, 3, 0, 0, 0, 0), (27, .aload_n 0, 1, 0, 0, 0, 0), (28, .iload_n 1, 1, 0, 0, 0, 0), (29, .bipush 16, 2, 0, 0, 0, 0), (31, .isub, 1, 0, 0, 0, 0), (32, .iload_n 2, 1, 0, 0, 0, 0), (33, .bipush 16, 2, 0, 0, 0, 0), (35, .isub, 1, 0, 0, 0, 0), (36, .invokevirtual 107, 3, 110, 3, 0, 9), (39, .ifCond .eq 7, 3, 0, 0, 0, 0), (42, .iconst 1, 1, 0, 0, 0, 0), (43, .goto 4, 3, 0, 0, 0, 0), (46, .iconst 0, 1, 0, 0, 0, 0), (47, .ireturn, 1, 0, 0, 0, 0)]
/-- KindJudgeModel.isFit(II)Z -/
def kjM_136 : mv_Me := (⟨"KindJudgeModel", "isFit", "(II)Z"⟩, prog_11_method_37_code, 3, (some .boolean), "KindJudgeModel", kjT_136, 0, 0, 1, 23)
def kjT_137 : List mv_E := [(0, .iload_n 0, 1, 0, 0, 0, 0), (1, .iconst 1, 1, 0, 0, 0, 0), (2, .if_icmp .eq 11, 3, 0, 0, 0, 0), (5, .iload_n 0, 1, 0, 0, 0, 0), (6, .ifCond .eq 7, 3, 0, 0, 0, 0), (9, .iconst 1, 1, 0, 0, 0, 0), (10, .goto 4, 3, 0, 0, 0, 0), (13, .iconst 0, 1, 0, 0, 0, 0), (14, .ireturn, 1, 0, 0, 0, 0)]
/-- KindJudgeModel.isThing(I)Z -/
def kjM_137 : mv_Me := (⟨"KindJudgeModel", "isThing", "(I)Z"⟩, prog_11_method_38_code, 1, (some .boolean), "KindJudgeModel", kjT_137, 0, 0, 0, 0)
def kjT_138 : List mv_E := [(0, .bipush 120, 2, 0, 0, 0, 0), (2, .iload_n 1, 1, 0, 0, 0, 0), (3, .imul, 1, 0, 0, 0, 0), (4, .iload_n 2, 1, 0, 0, 0, 0), (5, .iadd, 1, 0, 0, 0, 0), (6, .istore_n 3, 1, 0, 0, 0, 0), (7, .aload_n 0, 1, 0, 0, 0, 0), (8, .getfield 65, 3, 9, 30, 4, 0), (11, .iload_n 3, 1, 0, 0, 0, 0), (12, .iaload, 1, 0, 0, 0, 0), (13, .bipush (-2), 2, 0, 0, 0, 0), (15, .if_icmp .ne 5, 3, 0, 0, 0, 0), (18, .iconst 1, 1, 0, 0, 0, 0), (19, .ireturn, 1, 0, 0, 0, 0), (20, .aload_n 0, 1, 0, 0, 0, 0), (21, .iload_n 1, 1, 0, 0, 0, 0), (22, .iload_n 2, 1, 0, 0, 0, 0), (23, .invokevirtual 209, 3, 135, 3, 0, 9), (26, .aload_n 0, 1, 0, 0, 0, 0), (27, .getfield 212, 3, 9, 34, 1, 0), (30, .ifCond .ne 16, 3, 0, 0, 0, 0), (33, .aload_n 0, 1, 0, 0, 0, 0), (34, .getfield 196, 3, 9, 33, 0, 0), (37, .aload_n 0, 1, 0, 0, 0, 0), (38, .getfield 49, 3, 9, 25, 4, 0), (41, .iload_n 1, 1, 0, 0, 0, 0), (42, .iaload, 1, 0, 0, 0, 0), (43, .if_icmp .le 5, 3, 0, 0, 0, 0), (46, .iconst 1, 1, 0, 0, 0, 0), (47, .ireturn, 1, 0, 0, 0, 0), (48, .bipush 16, 2, 0, 0, 0, 0), (50, .iload_n 3, 1, 0, 0, 0, 0), (51, .imul, 1, 0, 0, 0, 0), (52, .bipush 8, 2, 0, 0, 0, 0), (54, .iadd, 1, 0, 0, 0, 0), (55, .aload_n 0, 1, 0, 0, 0, 0), (56, .getfield 65, 3, 9, 30, 4, 0), (59, .iload_n 3, 1, 0, 0, 0, 0), (60, .iaload, 1, 0, 0, 0, 0), (61, .iadd, 1, 0, 0, 0, 0), (62, .istore 4, 2, 0, 0, 0, 0), (64, .aload_n 0, 1, 0, 0, 0, 0), (65, .iload_n 1, 1, 0, 0, 0, 0), (66, .iload_n 2, 1, 0, 0, 0, 0), (67, .invokevirtual 137, 3, 116, 3, 0, 9), (70, .istore 5, 2, 0, 0, 0, 0), (72, .aload_n 0, 1, 0, 0, 0, 0), (73, .getfield 52, 3, 9, 26, 4, 0), (76, .iload_n 1, 1, 0, 0, 0, 0), (77, .iaload, 1, 0, 0, 0, 0), (78, .iload_n 2, 1, 0, 0, 0, 0), (79, .iconst 1, 1, 0, 0, 0, 0), (80, .iadd, 1, 0, 0, 0, 0), (81, .if_icmp .le 14, 3, 0, 0, 0, 0), (84, .aload_n 0, 1, 0, 0, 0, 0), (85, .iload_n 1, 1, 0, 0, 0, 0), (86, .iload_n 2, 1, 0, 0, 0, 0), (87, .iconst 1, 1, 0, 0, 0, 0), (88, .iadd, 1, 0, 0, 0, 0), (89, .invokevirtual 137, 3, 116, 3, 0, 9), (92, .goto 4, 3, 0, 0, 0, 0), (95, .iconst 0, 1, 0, 0, 0, 0), (96, .istore 6, 2, 0, 0, 0, 0), (98, .aload_n 0, 1, 0, 0, 0, 0), (99, .getfield 65, 3, 9, 30, 4, 0), (102, .iload_n 3, 1, 0, 0, 0, 0), (103, .iaload, 1, 0, 0, 0, 0), (104, .ifCond .le 15, 3, 0, 0, 0, 0), (107, .aload_n 0, 1, 0, 0, 0, 0), (108, .getfield 68, 3, 9, 31, 4, 0), (111, .iload 4, 2, 0, 0, 0, 0), (113, .iconst 1, 1, 0, 0, 0, 0), (114, .isub, 1, 0, 0, 0, 0), (115, .iaload, 1, 0, 0, 0, 0), (116, .goto 4, 3, 0, 0, 0, 0), (119, .iconst 0, 1, 0, 0, 0, 0), (120, .istore 7, 2, 0, 0, 0, 0), (122, .aload_n 0, 1, 0, 0, 0, 0), (123, .getfield 65, 3, 9, 30, 4, 0), (126, .iload_n 3, 1, 0, 0, 0, 0), (127, .iaload, 1, 0, 0, 0, 0), (128, .iconst 1, 1, 0, 0, 0, 0), (129, .if_icmp .le 15, 3, 0, 0, 0, 0), (132, .aload_n 0, 1, 0, 0, 0, 0), (133, .getfield 68, 3, 9, 31, 4, 0), (136, .iload 4, 2, 0, 0, 0, 0), (138, .iconst 2, 1, 0, 0, 0, 0), (139, .isub, 1, 0, 0, 0, 0), (140, .iaload, 1, 0, 0, 0, 0), (141, .goto 4, 3, 0, 0, 0, 0), (144, .iconst 0, 1, 0, 0, 0, 0), (145, .istore 8, 2, 0, 0, 0, 0), (147, .iload 5, 2, 0, 0, 0, 0), (149, .tableswitch 738 3 53 #[219, 240, 240, 240, 251, 738, 738, 738, 738, 738, 738, 738, 738, 738, 738, 738, 267, 279, 738, 738, 738, 738, 738, 738, 738, 738, 738, 738, 738, 738, 738, 301, 301, 315, 315, 738, 363, 383, 267, 431, 453, 488, 504, 504, 524, 586, 693, 708, 267, 738, 267], 219, 0, 0, 0, 0), (368, .aload_n 0, 1, 0, 0, 0, 0), (369, .getfield 68, 3, 9, 31, 4, 0), (372, .bipush 16, 2, 0, 0, 0, 0), (374, .iload_n 3, 1, 0, 0, 0, 0), (375, .imul, 1, 0, 0, 0, 0), (376, .iload 6, 2, 0, 0, 0, 0), (378, .iadd, 1, 0, 0, 0, 0), (379, .iaload, 1, 0, 0, 0, 0), (380, .ifCond .ne 7, 3, 0, 0, 0, 0), (383, .iconst 1, 1, 0, 0, 0, 0), (384, .goto 4, 3, 0, 0, 0, 0), (387, .iconst 0, 1, 0, 0, 0, 0), (388, .ireturn, 1, 0, 0, 0, 0), (389, .iload 7, 2, 0, 0, 0, 0), (391, .ifCond .ne 7, 3, 0, 0, 0, 0), (394, .iconst 1, 1, 0, 0, 0, 0), (395, .goto 4, 3, 0, 0, 0, 0), (398, .iconst 0, 1, 0, 0, 0, 0), (399, .ireturn, 1, 0, 0, 0, 0), (400, .iload 7, 2, 0, 0, 0, 0), (402, .ifCond .eq 8, 3, 0, 0, 0, 0), (405, .iload 8, 2, 0, 0, 0, 0), (407, .ifCond .ne 7, 3, 0, 0, 0, 0), (410, .iconst 1, 1, 0, 0, 0, 0), (411, .goto 4, 3, 0, 0, 0, 0), (414, .iconst 0, 1, 0, 0, 0, 0), (415, .ireturn, 1, 0, 0, 0, 0), (416, .iload 7, 2, 0, 0, 0, 0), (418, .iconst 1, 1, 0, 0, 0, 0), (419, .if_icmp .eq 7, 3, 0, 0, 0, 0), (422, .iconst 1, 1, 0, 0, 0, 0), (423, .goto 4, 3, 0, 0, 0, 0), (426, .iconst 0, 1, 0, 0, 0, 0), (427, .ireturn, 1, 0, 0, 0, 0), (428, .aload_n 0, 1, 0, 0, 0, 0), (429, .getfield 68, 3, 9, 31, 4, 0), (432, .bipush 16, 2, 0, 0, 0, 0), (434, .iload_n 3, 1, 0, 0, 0, 0), (435, .imul, 1, 0, 0, 0, 0), (436, .iload 6, 2, 0, 0, 0, 0), (438, .iadd, 1, 0, 0, 0, 0), (439, .iaload, 1, 0, 0, 0, 0), (440, .iconst 1, 1, 0, 0, 0, 0), (441, .if_icmp .eq 7, 3, 0, 0, 0, 0), (444, .iconst 1, 1, 0, 0, 0, 0), (445, .goto 4, 3, 0, 0, 0, 0), (448, .iconst 0, 1, 0, 0, 0, 0), (449, .ireturn, 1, 0, 0, 0, 0), (450, .iload 7, 2, 0, 0, 0, 0), (452, .invokestatic 228, 3, 137, 1, 1, 0), (455, .ifCond .ne 7, 3, 0, 0, 0, 0), (458, .iconst 1, 1, 0, 0, 0, 0), (459, .goto 4, 3, 0, 0, 0, 0), (462, .iconst 0, 1, 0, 0, 0, 0), (463, .ireturn, 1, 0, 0, 0, 0), (464, .iload 7, 2, 0, 0, 0, 0), (466, .invokestatic 228, 3, 137, 1, 1, 0), (469, .ifCond .eq 37, 3, 0, 0, 0, 0), (472, .iload 8, 2, 0, 0, 0, 0), (474, .invokestatic 228, 3, 137, 1, 1, 0), (477, .ifCond .eq 29, 3, 0, 0, 0, 0), (480, .iload 7, 2, 0, 0, 0, 0), (482, .iconst 2, 1, 0, 0, 0, 0), (483, .if_icmp .ne 10, 3, 0, 0, 0, 0), (486, .iload 8, 2, 0, 0, 0, 0), (488, .bipush 15, 2, 0, 0, 0, 0), (490, .if_icmp .ge 16, 3, 0, 0, 0, 0), (493, .iload 8, 2, 0, 0, 0, 0), (495, .iconst 2, 1, 0, 0, 0, 0), (496, .if_icmp .ne 14, 3, 0, 0, 0, 0), (499, .iload 7, 2, 0, 0, 0, 0), (501, .bipush 15, 2, 0, 0, 0, 0), (503, .if_icmp .lt 7, 3, 0, 0, 0, 0), (506, .iconst 1, 1, 0, 0, 0, 0), (507, .goto 4, 3, 0, 0, 0, 0), (510, .iconst 0, 1, 0, 0, 0, 0), (511, .ireturn, 1, 0, 0, 0, 0), (512, .aload_n 0, 1, 0, 0, 0, 0), (513, .iload 7, 2, 0, 0, 0, 0), (515, .bipush 16, 2, 0, 0, 0, 0), (517, .iload 6, 2, 0, 0, 0, 0), (519, .iadd, 1, 0, 0, 0, 0), (520, .invokevirtual 232, 3, 136, 3, 0, 9), (523, .ifCond .ne 7, 3, 0, 0, 0, 0), (526, .iconst 1, 1, 0, 0, 0, 0), (527, .goto 4, 3, 0, 0, 0, 0), (530, .iconst 0, 1, 0, 0, 0, 0), (531, .ireturn, 1, 0, 0, 0, 0), (532, .aload_n 0, 1, 0, 0, 0, 0), (533, .iload 8, 2, 0, 0, 0, 0), (535, .bipush 16, 2, 0, 0, 0, 0), (537, .iload 6, 2, 0, 0, 0, 0), (539, .iadd, 1, 0, 0, 0, 0), (540, .invokevirtual 232, 3, 136, 3, 0, 9), (543, .ifCond .eq 31, 3, 0, 0, 0, 0), (546, .aload_n 0, 1, 0, 0, 0, 0), (547, .iload 7, 2, 0, 0, 0, 0), (549, .aload_n 0, 1, 0, 0, 0, 0), (550, .getfield 25, 3, 9, 15, 4, 0), (553, .bipush 8, 2, 0, 0, 0, 0), (555, .iload 6, 2, 0, 0, 0, 0), (557, .imul, 1, 0, 0, 0, 0), (558, .aload_n 0, 1, 0, 0, 0, 0), (559, .iload_n 1, 1, 0, 0, 0, 0), (560, .iload_n 2, 1, 0, 0, 0, 0), (561, .iconst 2, 1, 0, 0, 0, 0), (562, .iadd, 1, 0, 0, 0, 0), (563, .invokevirtual 137, 3, 116, 3, 0, 9), (566, .iadd, 1, 0, 0, 0, 0), (567, .iaload, 1, 0, 0, 0, 0), (568, .invokevirtual 232, 3, 136, 3, 0, 9), (571, .ifCond .ne 7, 3, 0, 0, 0, 0), (574, .iconst 1, 1, 0, 0, 0, 0), (575, .goto 4, 3, 0, 0, 0, 0), (578, .iconst 0, 1, 0, 0, 0, 0), (579, .ireturn, 1, 0, 0, 0, 0), (580, .iload 7, 2, 0, 0, 0, 0), (582, .iconst 1, 1, 0, 0, 0, 0), (583, .if_icmp .ne 13, 3, 0, 0, 0, 0), (586, .aload_n 0, 1, 0, 0, 0, 0), (587, .iload 8, 2, 0, 0, 0, 0), (589, .iconst 2, 1, 0, 0, 0, 0), (590, .invokevirtual 232, 3, 136, 3, 0, 9), (593, .ifCond .ne 7, 3, 0, 0, 0, 0), (596, .iconst 1, 1, 0, 0, 0, 0), (597, .goto 4, 3, 0, 0, 0, 0), (600, .iconst 0, 1, 0, 0, 0, 0), (601, .ireturn, 1, 0, 0, 0, 0), (602, .iload 7, 2, 0, 0, 0, 0), (604, .iconst 1, 1, 0, 0, 0, 0), (605, .if_icmp .ne 26, 3, 0, 0, 0, 0), (608, .iload 8, 2, 0, 0, 0, 0), (610, .iconst 1, 1, 0, 0, 0, 0), (611, .if_icmp .ne 20, 3, 0, 0, 0, 0), (614, .aload_n 0, 1, 0, 0, 0, 0), (615, .aload_n 0, 1, 0, 0, 0, 0), (616, .getfield 68, 3, 9, 31, 4, 0), (619, .iload 4, 2, 0, 0, 0, 0), (621, .iconst 3, 1, 0, 0, 0, 0), (622, .isub, 1, 0, 0, 0, 0), (623, .iaload, 1, 0, 0, 0, 0), (624, .iconst 2, 1, 0, 0, 0, 0), (625, .invokevirtual 232, 3, 136, 3, 0, 9), (628, .ifCond .ne 7, 3, 0, 0, 0, 0), (631, .iconst 1, 1, 0, 0, 0, 0), (632, .goto 4, 3, 0, 0, 0, 0), (635, .iconst 0, 1, 0, 0, 0, 0), (636, .ireturn, 1, 0, 0, 0, 0), (637, .aload_n 0, 1, 0, 0, 0, 0), (638, .iload 7, 2, 0, 0, 0, 0), (640, .iconst 2, 1, 0, 0, 0, 0), (641, .invokevirtual 232, 3, 136, 3, 0, 9), (644, .ifCond .ne 7, 3, 0, 0, 0, 0), (647, .iconst 1, 1, 0, 0, 0, 0), (648, .goto 4, 3, 0, 0, 0, 0), (651, .iconst 0, 1, 0, 0, 0, 0), (652, .ireturn, 1, 0, 0, 0, 0), (653, .iload 7, 2, 0, 0, 0, 0), (655, .invokestatic 228, 3, 137, 1, 1, 0), (658, .ifCond .eq 9, 3, 0, 0, 0, 0), (661, .iload 7, 2, 0, 0, 0, 0), (663, .iconst 2, 1, 0, 0, 0, 0), (664, .if_icmp .ne 7, 3, 0, 0, 0, 0), (667, .iconst 1, 1, 0, 0, 0, 0), (668, .goto 4, 3, 0, 0, 0, 0), (671, .iconst 0, 1, 0, 0, 0, 0), (672, .ireturn, 1, 0, 0, 0, 0), (673, .iconst 0, 1, 0, 0, 0, 0), (674, .istore 9, 2, 0, 0, 0, 0), (676, .iload 9, 2, 0, 0, 0, 0), (678, .aload_n 0, 1, 0, 0, 0, 0), (679, .getfield 37, 3, 9, 21, 4, 0), (682, .iload 6, 2, 0, 0, 0, 0), (684, .iaload, 1, 0, 0, 0, 0), (685, .if_icmp .ge 48, 3, 0, 0, 0, 0), (688, .aload_n 0, 1, 0, 0, 0, 0), (689, .aload_n 0, 1, 0, 0, 0, 0), (690, .getfield 68, 3, 9, 31, 4, 0), (693, .iload 4, 2, 0, 0, 0, 0), (695, .aload_n 0, 1, 0, 0, 0, 0), (696, .getfield 37, 3, 9, 21, 4, 0), (699, .iload 6, 2, 0, 0, 0, 0), (701, .iaload, 1, 0, 0, 0, 0), (702, .isub, 1, 0, 0, 0, 0), (703, .iload 9, 2, 0, 0, 0, 0), (705, .iadd, 1, 0, 0, 0, 0), (706, .iaload, 1, 0, 0, 0, 0), (707, .aload_n 0, 1, 0, 0, 0, 0), (708, .getfield 40, 3, 9, 22, 4, 0), (711, .iconst 4, 1, 0, 0, 0, 0), (712, .iload 6, 2, 0, 0, 0, 0), (714, .imul, 1, 0, 0, 0, 0), (715, .iload 9, 2, 0, 0, 0, 0), (717, .iadd, 1, 0, 0, 0, 0), (718, .iaload, 1, 0, 0, 0, 0), (719, .invokevirtual 232, 3, 136, 3, 0, 9), (722, .ifCond .ne 5, 3, 0, 0, 0, 0), (725, .iconst 1, 1, 0, 0, 0, 0), (726, .ireturn, 1, 0, 0, 0, 0), (727, .iinc 9 1, 3, 0, 0, 0, 0), (730, .goto (-54), 3, 0, 0, 0, 0), (733, .iconst 0, 1, 0, 0, 0, 0), (734, .ireturn, 1, 0, 0, 0, 0), (735, .aload_n 0, 1, 0, 0, 0, 0), (736, .getfield 68, 3, 9, 31, 4, 0), (739, .iload 4, 2, 0, 0, 0, 0), (741, .iconst 1, 1, 0, 0, 0, 0), (742, .isub, 1, 0, 0, 0, 0), (743, .aload_n 0, 1, 0, 0, 0, 0), (744, .getfield 28, 3, 9, 17, 4, 0), (747, .iload 6, 2, 0, 0, 0, 0), (749, .iaload, 1, 0, 0, 0, 0), (750, .isub, 1, 0, 0, 0, 0), (751, .iaload, 1, 0, 0, 0, 0), (752, .istore 9, 2, 0, 0, 0, 0), (754, .iconst 0, 1, 0, 0, 0, 0), (755, .istore 10, 2, 0, 0, 0, 0), (757, .iload 10, 2, 0, 0, 0, 0), (759, .aload_n 0, 1, 0, 0, 0, 0), (760, .getfield 28, 3, 9, 17, 4, 0), (763, .iload 6, 2, 0, 0, 0, 0), (765, .iaload, 1, 0, 0, 0, 0), (766, .if_icmp .ge 48, 3, 0, 0, 0, 0), (769, .aload_n 0, 1, 0, 0, 0, 0), (770, .aload_n 0, 1, 0, 0, 0, 0), (771, .getfield 68, 3, 9, 31, 4, 0), (774, .iload 4, 2, 0, 0, 0, 0), (776, .aload_n 0, 1, 0, 0, 0, 0), (777, .getfield 28, 3, 9, 17, 4, 0), (780, .iload 6, 2, 0, 0, 0, 0), (782, .iaload, 1, 0, 0, 0, 0), (783, .isub, 1, 0, 0, 0, 0), (784, .iload 10, 2, 0, 0, 0, 0), (786, .iadd, 1, 0, 0, 0, 0), (787, .iaload, 1, 0, 0, 0, 0), (788, .aload_n 0, 1, 0, 0, 0, 0), (789, .getfield 31, 3, 9, 18, 4, 0), (792, .iconst 3, 1, 0, 0, 0, 0), (793, .iload 6, 2, 0, 0, 0, 0), (795, .imul, 1, 0, 0, 0, 0), (796, .iload 10, 2, 0, 0, 0, 0), (798, .iadd, 1, 0, 0, 0, 0), (799, .iaload, 1, 0, 0, 0, 0), (800, .invokevirtual 232, 3, 136, 3, 0, 9), (803, .ifCond .ne 5, 3, 0, 0, 0, 0), (806, .iconst 1, 1, 0, 0, 0, 0), (807, .ireturn, 1, 0, 0, 0, 0), (808, .iinc 10 1, 3, 0, 0, 0, 0), (811, .goto (-54), 3, 0, 0, 0, 0), (814, .iload 9, 2, 0, 0, 0, 0), (816, .bipush 16, 2, 0, 0, 0, 0), (818, .if_icmp .lt 18, 3, 0, 0, 0, 0), (821, .aload_n 0, 1, 0, 0, 0, 0), (822, .iload 9, 2, 0, 0, 0, 0), (824, .bipush 16, 2, 0, 0, 0, 0), (826, .isub, 1, 0, 0, 0, 0), (827, .iload 6, 2, 0, 0, 0, 0), (829, .invokevirtual 235, 3, 126, 3, 0, 9), (832, .iconst (-1), 1, 0, 0, 0, 0), (833, .if_icmp .ne 7, 3, 0, 0, 0, 0), (836, .iconst 1, 1, 0, 0, 0, 0), (837, .goto 4, 3, 0, 0, 0, 0), (840, .iconst 0, 1, 0, 0, 0, 0), (841, .ireturn, 1, 0, 0, 0, 0), (842, .aload_n 0, 1, 0, 0, 0, 0), (843, .getfield 43, 3, 9, 23, 4, 0), (846, .iload_n 1, 1, 0, 0, 0, 0), (847, .iaload, 1, 0, 0, 0, 0), (848, .ifCond .eq 7, 3, 0, 0, 0, 0), (851, .iconst 1, 1, 0, 0, 0, 0), (852, .goto 4, 3, 0, 0, 0, 0), (855, .iconst 0, 1, 0, 0, 0, 0), (856, .ireturn, 1, 0, 0, 0, 0), (857, .aload_n 0, 1, 0, 0, 0, 0), (858, .getfield 43, 3, 9, 23, 4, 0), (861, .iload_n 1, 1, 0, 0, 0, 0), (862, .iaload, 1, 0, 0, 0, 0), (863, .ifCond .eq 18, 3, 0, 0, 0, 0), (866, .aload_n 0, 1, 0, 0, 0, 0), (867, .iload 7, 2, 0, 0, 0, 0), (869, .aload_n 0, 1, 0, 0, 0, 0), (870, .getfield 43, 3, 9, 23, 4, 0), (873, .iload_n 1, 1, 0, 0, 0, 0), (874, .iaload, 1, 0, 0, 0, 0), (875, .invokevirtual 232, 3, 136, 3, 0, 9), (878, .ifCond .ne 7, 3, 0, 0, 0, 0), (881, .iconst 1, 1, 0, 0, 0, 0), (882, .goto 4, 3, 0, 0, 0, 0), (885, .iconst 0, 1, 0, 0, 0, 0), (886, .ireturn, 1, 0, 0, 0, 0), (887, .iload 5, 2, 0, 0, 0, 0), (889, .bipush 8, 2, 0, 0, 0, 0), (891, .if_icmp .lt 47, 3, 0, 0, 0, 0), (894, .iload 5, 2, 0, 0, 0, 0), (896, .bipush 33, 2, 0, 0, 0, 0), (898, .if_icmp .gt 40, 3, 0, 0, 0, 0), (901, .iload 5, 2, 0, 0, 0, 0), (903, .bipush 21, 2, 0, 0, 0, 0), (905, .if_icmp .eq 33, 3, 0, 0, 0, 0), (908, .iload 7, 2, 0, 0, 0, 0), (910, .iconst 1, 1, 0, 0, 0, 0), (911, .if_icmp .ne 23, 3, 0, 0, 0, 0), (914, .iload 5, 2, 0, 0, 0, 0), (916, .bipush 19, 2, 0, 0, 0, 0), (918, .if_icmp .lt 10, 3, 0, 0, 0, 0), (921, .iload 5, 2, 0, 0, 0, 0), (923, .bipush 27, 2, 0, 0, 0, 0), (925, .if_icmp .le 13, 3, 0, 0, 0, 0), (928, .iload 8, 2, 0, 0, 0, 0), (930, .iconst 1, 1, 0, 0, 0, 0), (931, .if_icmp .eq 7, 3, 0, 0, 0, 0), (934, .iconst 1, 1, 0, 0, 0, 0), (935, .goto 4, 3, 0, 0, 0, 0), (938, .iconst 0, 1, 0, 0, 0, 0), (939, .ireturn, 1, 0, 0, 0, 0)]
/-- KindJudgeModel.isWrong(II)Z -/
def kjM_138 : mv_Me := (⟨"KindJudgeModel", "isWrong", "(II)Z"⟩, prog_11_method_39_code, 11, (some .boolean), "KindJudgeModel", kjT_138, 0, 0, 3, 72)
def kjT_139 : List mv_E := [(0, .aload_n 0, 1, 0, 0, 0, 0), (1, .iconst 0, 1, 0, 0, 0, 0), (2, .putfield 74, 3, 9, 0, 0, 0), (5, .aload_n 0, 1, 0, 0, 0, 0), (6, .getfield 184, 3, 9, 8, 1, 0), (9, .ifCond .eq 62, 3, 0, 0, 0, 0), (12, .iload_n 1, 1, 0, 0, 0, 0), (13, .iconst 0, 1, 0, 0, 0, 0), (14, .aload_n 0, 1, 0, 0, 0, 0), (15, .getfield 114, 3, 9, 20, 0, 0), (18, .iconst 1, 1, 0, 0, 0, 0), (19, .isub, 1, 0, 0, 0, 0), (20, .invokestatic 93, 3, 103, 3, 1, 0), (23, .ifCond .eq 48, 3, 0, 0, 0, 0), (26, .iload_n 2, 1, 0, 0, 0, 0), (27, .iconst 0, 1, 0, 0, 0, 0), (28, .aload_n 0, 1, 0, 0, 0, 0), (29, .getfield 52, 3, 9, 26, 4, 0), (32, .iload_n 1, 1, 0, 0, 0, 0), (33, .iaload, 1, 0, 0, 0, 0), (34, .iconst 1, 1, 0, 0, 0, 0), (35, .isub, 1, 0, 0, 0, 0), (36, .invokestatic 93, 3, 103, 3, 1, 0), (39, .ifCond .eq 32, 3, 0, 0, 0, 0), (42, .aload_n 0, 1, 0, 0, 0, 0), (43, .getfield 65, 3, 9, 30, 4, 0), (46, .bipush 120, 2, 0, 0, 0, 0), (48, .iload_n 1, 1, 0, 0, 0, 0), (49, .imul, 1, 0, 0, 0, 0), (50, .iload_n 2, 1, 0, 0, 0, 0), (51, .iadd, 1, 0, 0, 0, 0), (52, .iaload, 1, 0, 0, 0, 0), (53, .iconst (-1), 1, 0, 0, 0, 0), (54, .if_icmp .eq 17, 3, 0, 0, 0, 0), (57, .aload_n 0, 1, 0, 0, 0, 0), (58, .getfield 58, 3, 9, 28, 4, 0), (61, .bipush 120, 2, 0, 0, 0, 0), (63, .iload_n 1, 1, 0, 0, 0, 0), (64, .imul, 1, 0, 0, 0, 0), (65, .iload_n 2, 1, 0, 0, 0, 0), (66, .iadd, 1, 0, 0, 0, 0), (67, .baload, 1, 0, 0, 0, 0), (68, .ifCond .ne 5, 3, 0, 0, 0, 0), (71, .iconst (-1), 1, 0, 0, 0, 0), (72, .ireturn, 1, 0, 0, 0, 0), (73, .bipush 120, 2, 0, 0, 0, 0), (75, .iload_n 1, 1, 0, 0, 0, 0), (76, .imul, 1, 0, 0, 0, 0), (77, .iload_n 2, 1, 0, 0, 0, 0), (78, .iadd, 1, 0, 0, 0, 0), (79, .istore 4, 2, 0, 0, 0, 0), (81, .iload_n 3, 1, 0, 0, 0, 0), (82, .iconst 0, 1, 0, 0, 0, 0), (83, .aload_n 0, 1, 0, 0, 0, 0), (84, .getfield 46, 3, 9, 24, 4, 0), (87, .iload_n 1, 1, 0, 0, 0, 0), (88, .iaload, 1, 0, 0, 0, 0), (89, .iconst 1, 1, 0, 0, 0, 0), (90, .isub, 1, 0, 0, 0, 0), (91, .invokestatic 93, 3, 103, 3, 1, 0), (94, .ifCond .eq 16, 3, 0, 0, 0, 0), (97, .aload_n 0, 1, 0, 0, 0, 0), (98, .getfield 68, 3, 9, 31, 4, 0), (101, .bipush 16, 2, 0, 0, 0, 0), (103, .iload 4, 2, 0, 0, 0, 0), (105, .imul, 1, 0, 0, 0, 0), (106, .iload_n 3, 1, 0, 0, 0, 0), (107, .iadd, 1, 0, 0, 0, 0), (108, .iaload, 1, 0, 0, 0, 0), (109, .ireturn, 1, 0, 0, 0, 0), (110, .iload_n 3, 1, 0, 0, 0, 0), (111, .bipush 100, 2, 0, 0, 0, 0), (113, .bipush 99, 2, 0, 0, 0, 0), (115, .aload_n 0, 1, 0, 0, 0, 0), (116, .getfield 65, 3, 9, 30, 4, 0), (119, .iload 4, 2, 0, 0, 0, 0), (121, .iaload, 1, 0, 0, 0, 0), (122, .iadd, 1, 0, 0, 0, 0), (123, .invokestatic 93, 3, 103, 3, 1, 0), (126, .ifCond .eq 21, 3, 0, 0, 0, 0), (129, .aload_n 0, 1, 0, 0, 0, 0), (130, .getfield 68, 3, 9, 31, 4, 0), (133, .bipush 16, 2, 0, 0, 0, 0), (135, .iload 4, 2, 0, 0, 0, 0), (137, .imul, 1, 0, 0, 0, 0), (138, .iload_n 3, 1, 0, 0, 0, 0), (139, .iadd, 1, 0, 0, 0, 0), (140, .bipush 92, 2, 0, 0, 0, 0), (142, .isub, 1, 0, 0, 0, 0), (143, .iaload, 1, 0, 0, 0, 0), (144, .goto 4, 3, 0, 0, 0, 0), (147, .iconst (-1), 1, 0, 0, 0, 0), (148, .ireturn, 1, 0, 0, 0, 0)]
/-- KindJudgeModel.kind(III)I -/
def kjM_139 : mv_Me := (⟨"KindJudgeModel", "kind", "(III)I"⟩, prog_11_method_40_code, 5, (some .int), "KindJudgeModel", kjT_139, 0, 0, 1, 22)
def kjT_140 : List mv_E := [(0, .aload_n 0, 1, 0, 0, 0, 0), (1, .getfield 184, 3, 9, 8, 1, 0), (4, .ifCond .eq 21, 3, 0, 0, 0, 0), (7, .iload_n 1, 1, 0, 0, 0, 0), (8, .iconst 0, 1, 0, 0, 0, 0), (9, .aload_n 0, 1, 0, 0, 0, 0), (10, .getfield 114, 3, 9, 20, 0, 0), (13, .iconst 1, 1, 0, 0, 0, 0), (14, .isub, 1, 0, 0, 0, 0), (15, .invokestatic 93, 3, 103, 3, 1, 0), (18, .ifCond .eq 7, 3, 0, 0, 0, 0), (21, .iconst 1, 1, 0, 0, 0, 0), (22, .goto 4, 3, 0, 0, 0, 0), (25, .iconst 0, 1, 0, 0, 0, 0), (26, .ireturn, 1, 0, 0, 0, 0)]
/-- KindJudgeModel.isMethod(I)Z -/
def kjM_140 : mv_Me := (⟨"KindJudgeModel", "isMethod", "(I)Z"⟩, prog_11_method_41_code, 2, (some .boolean), "KindJudgeModel", kjT_140, 0, 0, 1, 22)
def kjT_141 : List mv_E := [(0, .aload_n 0, 1, 0, 0, 0, 0), (1, .iload_n 1, 1, 0, 0, 0, 0), (2, .invokevirtual 238, 3, 140, 2, 0, 9), (5, .ifCond .eq 37, 3, 0, 0, 0, 0), (8, .iload_n 2, 1, 0, 0, 0, 0), (9, .iconst 0, 1, 0, 0, 0, 0), (10, .aload_n 0, 1, 0, 0, 0, 0), (11, .getfield 52, 3, 9, 26, 4, 0), (14, .iload_n 1, 1, 0, 0, 0, 0), (15, .iaload, 1, 0, 0, 0, 0), (16, .iconst 1, 1, 0, 0, 0, 0), (17, .isub, 1, 0, 0, 0, 0), (18, .invokestatic 93, 3, 103, 3, 1, 0), (21, .ifCond .eq 21, 3, 0, 0, 0, 0), (24, .aload_n 0, 1, 0, 0, 0, 0), (25, .getfield 58, 3, 9, 28, 4, 0), (28, .bipush 120, 2, 0, 0, 0, 0), (30, .iload_n 1, 1, 0, 0, 0, 0), (31, .imul, 1, 0, 0, 0, 0), (32, .iload_n 2, 1, 0, 0, 0, 0), (33, .iadd, 1, 0, 0, 0, 0), (34, .baload, 1, 0, 0, 0, 0), (35, .ifCond .eq 7, 3, 0, 0, 0, 0), (38, .iconst 1, 1, 0, 0, 0, 0), (39, .goto 4, 3, 0, 0, 0, 0), (42, .iconst 0, 1, 0, 0, 0, 0), (43, .ireturn, 1, 0, 0, 0, 0)]
/-- KindJudgeModel.isBegun(II)Z -/
def kjM_141 : mv_Me := (⟨"KindJudgeModel", "isBegun", "(II)Z"⟩, prog_11_method_42_code, 3, (some .boolean), "KindJudgeModel", kjT_141, 0, 0, 2, 43)
def kjT_142 : List mv_E := [(0, .aload_n 0, 1, 0, 0, 0, 0), (1, .getfield 65, 3, 9, 30, 4, 0), (4, .bipush 120, 2, 0, 0, 0, 0), (6, .iload_n 1, 1, 0, 0, 0, 0), (7, .imul, 1, 0, 0, 0, 0), (8, .iload_n 2, 1, 0, 0, 0, 0), (9, .iadd, 1, 0, 0, 0, 0), (10, .iaload, 1, 0, 0, 0, 0), (11, .iconst (-1), 1, 0, 0, 0, 0), (12, .if_icmp .eq 7, 3, 0, 0, 0, 0), (15, .iconst 1, 1, 0, 0, 0, 0), (16, .goto 4, 3, 0, 0, 0, 0), (19, .iconst 0, 1, 0, 0, 0, 0), (20, .ireturn, 1, 0, 0, 0, 0)]
/-- KindJudgeModel.isReached(II)Z -/
def kjM_142 : mv_Me := (⟨"KindJudgeModel", "isReached", "(II)Z"⟩, prog_11_method_43_code, 3, (some .boolean), "KindJudgeModel", kjT_142, 0, 0, 0, 0)
def kjT_143 : List mv_E := [(0, .aload_n 0, 1, 0, 0, 0, 0), (1, .iload_n 1, 1, 0, 0, 0, 0), (2, .iload_n 2, 1, 0, 0, 0, 0), (3, .invokevirtual 137, 3, 116, 3, 0, 9), (6, .istore_n 3, 1, 0, 0, 0, 0), (7, .iload_n 3, 1, 0, 0, 0, 0), (8, .tableswitch 276 0 52 #[230, 230, 230, 230, 276, 276, 228, 228, 276, 276, 276, 276, 276, 276, 276, 276, 276, 276, 276, 276, 276, 276, 276, 276, 276, 276, 276, 276, 276, 276, 276, 276, 276, 276, 276, 276, 276, 276, 230, 230, 276, 230, 230, 276, 230, 230, 230, 232, 254, 276, 276, 276, 230], 228, 0, 0, 0, 0), (236, .iconst 2, 1, 0, 0, 0, 0), (237, .ireturn, 1, 0, 0, 0, 0), (238, .iconst 1, 1, 0, 0, 0, 0), (239, .ireturn, 1, 0, 0, 0, 0), (240, .aload_n 0, 1, 0, 0, 0, 0), (241, .getfield 43, 3, 9, 23, 4, 0), (244, .aload_n 0, 1, 0, 0, 0, 0), (245, .iload_n 1, 1, 0, 0, 0, 0), (246, .iload_n 2, 1, 0, 0, 0, 0), (247, .iconst 1, 1, 0, 0, 0, 0), (248, .iadd, 1, 0, 0, 0, 0), (249, .invokevirtual 137, 3, 116, 3, 0, 9), (252, .iaload, 1, 0, 0, 0, 0), (253, .ifCond .le 7, 3, 0, 0, 0, 0), (256, .iconst 1, 1, 0, 0, 0, 0), (257, .goto 4, 3, 0, 0, 0, 0), (260, .iconst 0, 1, 0, 0, 0, 0), (261, .ireturn, 1, 0, 0, 0, 0), (262, .aload_n 0, 1, 0, 0, 0, 0), (263, .getfield 34, 3, 9, 19, 4, 0), (266, .aload_n 0, 1, 0, 0, 0, 0), (267, .iload_n 1, 1, 0, 0, 0, 0), (268, .iload_n 2, 1, 0, 0, 0, 0), (269, .iconst 1, 1, 0, 0, 0, 0), (270, .iadd, 1, 0, 0, 0, 0), (271, .invokevirtual 137, 3, 116, 3, 0, 9), (274, .iaload, 1, 0, 0, 0, 0), (275, .ifCond .le 7, 3, 0, 0, 0, 0), (278, .iconst 1, 1, 0, 0, 0, 0), (279, .goto 4, 3, 0, 0, 0, 0), (282, .iconst 0, 1, 0, 0, 0, 0), (283, .ireturn, 1, 0, 0, 0, 0), (284, .iload_n 3, 1, 0, 0, 0, 0), (285, .bipush 8, 2, 0, 0, 0, 0), (287, .if_icmp .lt 13, 3, 0, 0, 0, 0), (290, .iload_n 3, 1, 0, 0, 0, 0), (291, .bipush 19, 2, 0, 0, 0, 0), (293, .if_icmp .gt 7, 3, 0, 0, 0, 0), (296, .iconst 1, 1, 0, 0, 0, 0), (297, .goto 4, 3, 0, 0, 0, 0), (300, .iconst 0, 1, 0, 0, 0, 0), (301, .ireturn, 1, 0, 0, 0, 0)]
/-- KindJudgeModel.puts(II)I -/
def kjM_143 : mv_Me := (⟨"KindJudgeModel", "puts", "(II)I"⟩, prog_11_method_44_code, 4, (some .int), "KindJudgeModel", kjT_143, 0, 0, 1, 22)
def kjT_144 : List mv_E := [(0, .aload_n 0, 1, 0, 0, 0, 0), (1, .aload_n 0, 1, 0, 0, 0, 0), (2, .iload_n 1, 1, 0, 0, 0, 0), (3, .iload_n 2, 1, 0, 0, 0, 0), (4, .invokevirtual 241, 3, 141, 3, 0, 9), (7, .ifCond .eq 16, 3, 0, 0, 0, 0), (10, .iload_n 3, 1, 0, 0, 0, 0), (11, .iconst 0, 1, 0, 0, 0, 0), (12, .iconst 5, 1, 0, 0, 0, 0), (13, .invokestatic 93, 3, 103, 3, 1, 0), (16, .ifCond .eq 7, 3, 0, 0, 0, 0), (19, .iconst 0, 1, 0, 0, 0, 0), (20, .goto 4, 3, 0, 0, 0, 0), (23, .iconst 1, 1, 0, 0, 0, 0), (24, .putfield 74, 3, 9, 0, 0, 0), (27, .aload_n 0, 1, 0, 0, 0, 0), (28, .getfield 74, 3, 9, 0, 0, 0), (31, .ifCond .eq 5, 3, 0, 0, 0, 0), (34, .iconst 0, 1, 0, 0, 0, 0), (35, .ireturn, 1, 0, 0, 0, 0), (36, .iload_n 3, 1, 0, 0, 0, 0), (37, .tableswitch 78 0 4 #[35, 42, 49, 56, 63], 35, 0, 0, 0, 0), (72, .aload_n 0, 1, 0, 0, 0, 0), (73, .iload_n 1, 1, 0, 0, 0, 0), (74, .iload_n 2, 1, 0, 0, 0, 0), (75, .invokevirtual 137, 3, 116, 3, 0, 9), (78, .ireturn, 1, 0, 0, 0, 0), (79, .aload_n 0, 1, 0, 0, 0, 0), (80, .iload_n 1, 1, 0, 0, 0, 0), (81, .iload_n 2, 1, 0, 0, 0, 0), (82, .invokevirtual 144, 3, 117, 3, 0, 9), (85, .ireturn, 1, 0, 0, 0, 0), (86, .aload_n 0, 1, 0, 0, 0, 0), (87, .iload_n 1, 1, 0, 0, 0, 0), (88, .iload_n 2, 1, 0, 0, 0, 0), (89, .invokevirtual 219, 3, 134, 3, 0, 9), (92, .ireturn, 1, 0, 0, 0, 0), (93, .aload_n 0, 1, 0, 0, 0, 0), (94, .iload_n 1, 1, 0, 0, 0, 0), (95, .iload_n 2, 1, 0, 0, 0, 0), (96, .invokevirtual 244, 3, 143, 3, 0, 9), (99, .ireturn, 1, 0, 0, 0, 0), (100, .aload_n 0, 1, 0, 0, 0, 0), (101, .iload_n 1, 1, 0, 0, 0, 0), (102, .iload_n 2, 1, 0, 0, 0, 0), (103, .invokevirtual 247, 3, 142, 3, 0, 9), (106, .ifCond .eq 7, 3, 0, 0, 0, 0), (109, .iconst 1, 1, 0, 0, 0, 0), (110, .goto 4, 3, 0, 0, 0, 0), (113, .iconst 0, 1, 0, 0, 0, 0), (114, .ireturn, 1, 0, 0, 0, 0), (115, .aload_n 0, 1, 0, 0, 0, 0), (116, .iload_n 1, 1, 0, 0, 0, 0), (117, .iload_n 2, 1, 0, 0, 0, 0), (118, .invokevirtual 247, 3, 142, 3, 0, 9), (121, .ifCond .eq 17, 3, 0, 0, 0, 0), (124, .aload_n 0, 1, 0, 0, 0, 0), (125, .getfield 65, 3, 9, 30, 4, 0), (128, .bipush 120, 2, 0, 0, 0, 0), (130, .iload_n 1, 1, 0, 0, 0, 0), (131, .imul, 1, 0, 0, 0, 0), (132, .iload_n 2, 1, 0, 0, 0, 0), (133, .iadd, 1, 0, 0, 0, 0), (134, .iaload, 1, 0, 0, 0, 0), (135, .goto 4, 3, 0, 0, 0, 0), (138, .iconst 0, 1, 0, 0, 0, 0), (139, .ireturn, 1, 0, 0, 0, 0)]
/-- KindJudgeModel.look(III)I -/
def kjM_144 : mv_Me := (⟨"KindJudgeModel", "look", "(III)I"⟩, prog_11_method_45_code, 4, (some .int), "KindJudgeModel", kjT_144, 0, 0, 3, 65)
def kjT_145 : List mv_E := [(0, .aload_n 0, 1, 0, 0, 0, 0), (1, .iload_n 1, 1, 0, 0, 0, 0), (2, .iload_n 2, 1, 0, 0, 0, 0), (3, .invokevirtual 137, 3, 116, 3, 0, 9), (6, .istore 4, 2, 0, 0, 0, 0), (8, .iload 4, 2, 0, 0, 0, 0), (10, .bipush 21, 2, 0, 0, 0, 0), (12, .if_icmp .lt 24, 3, 0, 0, 0, 0), (15, .iload 4, 2, 0, 0, 0, 0), (17, .bipush 37, 2, 0, 0, 0, 0), (19, .if_icmp .gt 17, 3, 0, 0, 0, 0), (22, .aload_n 0, 1, 0, 0, 0, 0), (23, .iload_n 1, 1, 0, 0, 0, 0), (24, .iload_n 2, 1, 0, 0, 0, 0), (25, .iconst 1, 1, 0, 0, 0, 0), (26, .iadd, 1, 0, 0, 0, 0), (27, .invokevirtual 137, 3, 116, 3, 0, 9), (30, .iload_n 3, 1, 0, 0, 0, 0), (31, .if_icmp .ne 5, 3, 0, 0, 0, 0), (34, .iconst 1, 1, 0, 0, 0, 0), (35, .ireturn, 1, 0, 0, 0, 0), (36, .iconst 0, 1, 0, 0, 0, 0), (37, .istore 5, 2, 0, 0, 0, 0), (39, .iload 4, 2, 0, 0, 0, 0), (41, .bipush 53, 2, 0, 0, 0, 0), (43, .if_icmp .ne 39, 3, 0, 0, 0, 0), (46, .iload 5, 2, 0, 0, 0, 0), (48, .aload_n 0, 1, 0, 0, 0, 0), (49, .iload_n 1, 1, 0, 0, 0, 0), (50, .iload_n 2, 1, 0, 0, 0, 0), (51, .iconst 1, 1, 0, 0, 0, 0), (52, .iadd, 1, 0, 0, 0, 0), (53, .invokevirtual 137, 3, 116, 3, 0, 9), (56, .if_icmp .gt 26, 3, 0, 0, 0, 0), (59, .aload_n 0, 1, 0, 0, 0, 0), (60, .iload_n 1, 1, 0, 0, 0, 0), (61, .iload_n 2, 1, 0, 0, 0, 0), (62, .iconst 2, 1, 0, 0, 0, 0), (63, .iadd, 1, 0, 0, 0, 0), (64, .iload 5, 2, 0, 0, 0, 0), (66, .iadd, 1, 0, 0, 0, 0), (67, .invokevirtual 137, 3, 116, 3, 0, 9), (70, .iload_n 3, 1, 0, 0, 0, 0), (71, .if_icmp .ne 5, 3, 0, 0, 0, 0), (74, .iconst 1, 1, 0, 0, 0, 0), (75, .ireturn, 1, 0, 0, 0, 0), (76, .iinc 5 1, 3, 0, 0, 0, 0), (79, .goto (-40), 3, 0, 0, 0, 0), (82, .iload 4, 2, 0, 0, 0, 0), (84, .bipush 21, 2, 0, 0, 0, 0), (86, .if_icmp .eq 40, 3, 0, 0, 0, 0), (89, .iload 4, 2, 0, 0, 0, 0), (91, .bipush 49, 2, 0, 0, 0, 0), (93, .if_icmp .eq 33, 3, 0, 0, 0, 0), (96, .iload 4, 2, 0, 0, 0, 0), (98, .bipush 50, 2, 0, 0, 0, 0), (100, .if_icmp .eq 26, 3, 0, 0, 0, 0), (103, .iload 4, 2, 0, 0, 0, 0), (105, .bipush 53, 2, 0, 0, 0, 0), (107, .if_icmp .eq 19, 3, 0, 0, 0, 0), (110, .iload_n 2, 1, 0, 0, 0, 0), (111, .aload_n 0, 1, 0, 0, 0, 0), (112, .iload_n 1, 1, 0, 0, 0, 0), (113, .iload_n 2, 1, 0, 0, 0, 0), (114, .invokevirtual 144, 3, 117, 3, 0, 9), (117, .iadd, 1, 0, 0, 0, 0), (118, .iload_n 3, 1, 0, 0, 0, 0), (119, .if_icmp .ne 7, 3, 0, 0, 0, 0), (122, .iconst 1, 1, 0, 0, 0, 0), (123, .goto 4, 3, 0, 0, 0, 0), (126, .iconst 0, 1, 0, 0, 0, 0), (127, .ireturn, 1, 0, 0, 0, 0)]
/-- KindJudgeModel.goesTo(III)Z -/
def kjM_145 : mv_Me := (⟨"KindJudgeModel", "goesTo", "(III)Z"⟩, prog_11_method_46_code, 6, (some .boolean), "KindJudgeModel", kjT_145, 0, 0, 2, 46)
def kjT_146 : List mv_E := [(0, .aload_n 0, 1, 0, 0, 0, 0), (1, .iconst 0, 1, 0, 0, 0, 0), (2, .putfield 74, 3, 9, 0, 0, 0), (5, .aload_n 0, 1, 0, 0, 0, 0), (6, .iload_n 1, 1, 0, 0, 0, 0), (7, .iload_n 2, 1, 0, 0, 0, 0), (8, .invokevirtual 241, 3, 141, 3, 0, 9), (11, .ifCond .ne 5, 3, 0, 0, 0, 0), (14, .iconst (-1), 1, 0, 0, 0, 0), (15, .ireturn, 1, 0, 0, 0, 0), (16, .iload_n 2, 1, 0, 0, 0, 0), (17, .ifCond .ne 7, 3, 0, 0, 0, 0), (20, .iconst 1, 1, 0, 0, 0, 0), (21, .goto 4, 3, 0, 0, 0, 0), (24, .iconst 0, 1, 0, 0, 0, 0), (25, .istore_n 3, 1, 0, 0, 0, 0), (26, .iconst 0, 1, 0, 0, 0, 0), (27, .istore 4, 2, 0, 0, 0, 0), (29, .iload 4, 2, 0, 0, 0, 0), (31, .aload_n 0, 1, 0, 0, 0, 0), (32, .getfield 52, 3, 9, 26, 4, 0), (35, .iload_n 1, 1, 0, 0, 0, 0), (36, .iaload, 1, 0, 0, 0, 0), (37, .if_icmp .ge 48, 3, 0, 0, 0, 0), (40, .aload_n 0, 1, 0, 0, 0, 0), (41, .getfield 58, 3, 9, 28, 4, 0), (44, .bipush 120, 2, 0, 0, 0, 0), (46, .iload_n 1, 1, 0, 0, 0, 0), (47, .imul, 1, 0, 0, 0, 0), (48, .iload 4, 2, 0, 0, 0, 0), (50, .iadd, 1, 0, 0, 0, 0), (51, .baload, 1, 0, 0, 0, 0), (52, .ifCond .eq 27, 3, 0, 0, 0, 0), (55, .aload_n 0, 1, 0, 0, 0, 0), (56, .iload_n 1, 1, 0, 0, 0, 0), (57, .iload 4, 2, 0, 0, 0, 0), (59, .invokevirtual 247, 3, 142, 3, 0, 9), (62, .ifCond .eq 17, 3, 0, 0, 0, 0), (65, .aload_n 0, 1, 0, 0, 0, 0), (66, .iload_n 1, 1, 0, 0, 0, 0), (67, .iload 4, 2, 0, 0, 0, 0), (69, .iload_n 2, 1, 0, 0, 0, 0), (70, .invokevirtual 250, 3, 145, 4, 0, 9), (73, .ifCond .eq 6, 3, 0, 0, 0, 0), (76, .iinc 3 1, 3, 0, 0, 0, 0), (79, .iinc 4 1, 3, 0, 0, 0, 0), (82, .goto (-53), 3, 0, 0, 0, 0), (85, .iload_n 3, 1, 0, 0, 0, 0), (86, .ireturn, 1, 0, 0, 0, 0)]
/-- KindJudgeModel.ways(II)I -/
def kjM_146 : mv_Me := (⟨"KindJudgeModel", "ways", "(II)I"⟩, prog_11_method_47_code, 5, (some .int), "KindJudgeModel", kjT_146, 0, 0, 3, 71)
def kjT_147 : List mv_E := [(0, .aload_n 0, 1, 0, 0, 0, 0), (1, .iconst 0, 1, 0, 0, 0, 0), (2, .putfield 74, 3, 9, 0, 0, 0), (5, .aload_n 0, 1, 0, 0, 0, 0), (6, .iload_n 1, 1, 0, 0, 0, 0), (7, .invokevirtual 238, 3, 140, 2, 0, 9), (10, .ifCond .eq 12, 3, 0, 0, 0, 0), (13, .iload_n 2, 1, 0, 0, 0, 0), (14, .iconst 0, 1, 0, 0, 0, 0), (15, .iconst 2, 1, 0, 0, 0, 0), (16, .invokestatic 93, 3, 103, 3, 1, 0), (19, .ifCond .ne 5, 3, 0, 0, 0, 0), (22, .iconst (-1), 1, 0, 0, 0, 0), (23, .ireturn, 1, 0, 0, 0, 0), (24, .iconst 0, 1, 0, 0, 0, 0), (25, .istore_n 3, 1, 0, 0, 0, 0), (26, .iconst 0, 1, 0, 0, 0, 0), (27, .istore 4, 2, 0, 0, 0, 0), (29, .iconst 0, 1, 0, 0, 0, 0), (30, .istore 5, 2, 0, 0, 0, 0), (32, .iconst 0, 1, 0, 0, 0, 0), (33, .istore 6, 2, 0, 0, 0, 0), (35, .iload 6, 2, 0, 0, 0, 0), (37, .aload_n 0, 1, 0, 0, 0, 0), (38, .getfield 52, 3, 9, 26, 4, 0), (41, .iload_n 1, 1, 0, 0, 0, 0), (42, .iaload, 1, 0, 0, 0, 0), (43, .if_icmp .ge 124, 3, 0, 0, 0, 0), (46, .aload_n 0, 1, 0, 0, 0, 0), (47, .getfield 58, 3, 9, 28, 4, 0), (50, .bipush 120, 2, 0, 0, 0, 0), (52, .iload_n 1, 1, 0, 0, 0, 0), (53, .imul, 1, 0, 0, 0, 0), (54, .iload 6, 2, 0, 0, 0, 0), (56, .iadd, 1, 0, 0, 0, 0), (57, .baload, 1, 0, 0, 0, 0), (58, .ifCond .ne 6, 3, 0, 0, 0, 0), (61, .goto 100, 3, 0, 0, 0, 0), (64, .iload_n 3, 1, 0, 0, 0, 0), (65, .aload_n 0, 1, 0, 0, 0, 0), (66, .iload_n 1, 1, 0, 0, 0, 0), (67, .iload 6, 2, 0, 0, 0, 0), (69, .invokevirtual 247, 3, 142, 3, 0, 9), (72, .ifCond .eq 7, 3, 0, 0, 0, 0), (75, .iconst 1, 1, 0, 0, 0, 0), (76, .goto 4, 3, 0, 0, 0, 0), (79, .iconst 0, 1, 0, 0, 0, 0), (80, .iadd, 1, 0, 0, 0, 0), (81, .istore_n 3, 1, 0, 0, 0, 0), (82, .iload 4, 2, 0, 0, 0, 0), (84, .aload_n 0, 1, 0, 0, 0, 0), (85, .iload_n 1, 1, 0, 0, 0, 0), (86, .iload 6, 2, 0, 0, 0, 0), (88, .invokevirtual 247, 3, 142, 3, 0, 9), (91, .ifCond .eq 7, 3, 0, 0, 0, 0), (94, .iconst 0, 1, 0, 0, 0, 0), (95, .goto 4, 3, 0, 0, 0, 0), (98, .iconst 1, 1, 0, 0, 0, 0), (99, .iadd, 1, 0, 0, 0, 0), (100, .istore 4, 2, 0, 0, 0, 0), (102, .aload_n 0, 1, 0, 0, 0, 0), (103, .iload_n 1, 1, 0, 0, 0, 0), (104, .iload 6, 2, 0, 0, 0, 0), (106, .invokevirtual 247, 3, 142, 3, 0, 9), (109, .ifCond .ne 6, 3, 0, 0, 0, 0), (112, .goto 49, 3, 0, 0, 0, 0), (115, .aload_n 0, 1, 0, 0, 0, 0), (116, .getfield 65, 3, 9, 30, 4, 0), (119, .bipush 120, 2, 0, 0, 0, 0), (121, .iload_n 1, 1, 0, 0, 0, 0), (122, .imul, 1, 0, 0, 0, 0), (123, .iload 6, 2, 0, 0, 0, 0), (125, .iadd, 1, 0, 0, 0, 0), (126, .iaload, 1, 0, 0, 0, 0), (127, .aload_n 0, 1, 0, 0, 0, 0), (128, .iload_n 1, 1, 0, 0, 0, 0), (129, .iload 6, 2, 0, 0, 0, 0), (131, .invokevirtual 219, 3, 134, 3, 0, 9), (134, .isub, 1, 0, 0, 0, 0), (135, .aload_n 0, 1, 0, 0, 0, 0), (136, .iload_n 1, 1, 0, 0, 0, 0), (137, .iload 6, 2, 0, 0, 0, 0), (139, .invokevirtual 244, 3, 143, 3, 0, 9), (142, .iadd, 1, 0, 0, 0, 0), (143, .istore 7, 2, 0, 0, 0, 0), (145, .iload 7, 2, 0, 0, 0, 0), (147, .iload 5, 2, 0, 0, 0, 0), (149, .if_icmp .le 8, 3, 0, 0, 0, 0), (152, .iload 7, 2, 0, 0, 0, 0), (154, .goto 5, 3, 0, 0, 0, 0), (157, .iload 5, 2, 0, 0, 0, 0), (159, .istore 5, 2, 0, 0, 0, 0), (161, .iinc 6 1, 3, 0, 0, 0, 0), (164, .goto (-129), 3, 0, 0, 0, 0), (167, .iload_n 2, 1, 0, 0, 0, 0), (168, .ifCond .ne 7, 3, 0, 0, 0, 0), (171, .iload_n 3, 1, 0, 0, 0, 0), (172, .goto 15, 3, 0, 0, 0, 0), (175, .iload_n 2, 1, 0, 0, 0, 0), (176, .iconst 1, 1, 0, 0, 0, 0), (177, .if_icmp .ne 8, 3, 0, 0, 0, 0), (180, .iload 4, 2, 0, 0, 0, 0), (182, .goto 5, 3, 0, 0, 0, 0), (185, .iload 5, 2, 0, 0, 0, 0), (187, .ireturn, 1, 0, 0, 0, 0)]
/-- KindJudgeModel.count(II)I -/
def kjM_147 : mv_Me := (⟨"KindJudgeModel", "count", "(II)I"⟩, prog_11_method_48_code, 8, (some .int), "KindJudgeModel", kjT_147, 0, 0, 2, 45)
def kjT_148 : List mv_E := [(0, .iload_n 1, 1, 0, 0, 0, 0), (1, .iconst 1, 1, 0, 0, 0, 0), (2, .if_icmp .eq 37, 3, 0, 0, 0, 0), (5, .iload_n 1, 1, 0, 0, 0, 0), (6, .iconst 2, 1, 0, 0, 0, 0), (7, .if_icmp .eq 32, 3, 0, 0, 0, 0), (10, .iload_n 1, 1, 0, 0, 0, 0), (11, .iconst 3, 1, 0, 0, 0, 0), (12, .if_icmp .eq 27, 3, 0, 0, 0, 0), (15, .iload_n 1, 1, 0, 0, 0, 0), (16, .bipush 15, 2, 0, 0, 0, 0), (18, .if_icmp .eq 21, 3, 0, 0, 0, 0), (21, .iload_n 1, 1, 0, 0, 0, 0), (22, .bipush 16, 2, 0, 0, 0, 0), (24, .bipush 16, 2, 0, 0, 0, 0), (26, .aload_n 0, 1, 0, 0, 0, 0), (27, .getfield 97, 3, 9, 12, 0, 0), (30, .iadd, 1, 0, 0, 0, 0), (31, .iconst 1, 1, 0, 0, 0, 0), (32, .isub, 1, 0, 0, 0, 0), (33, .invokestatic 93, 3, 103, 3, 1, 0), (36, .ifCond .eq 7, 3, 0, 0, 0, 0), (39, .iconst 1, 1, 0, 0, 0, 0), (40, .goto 4, 3, 0, 0, 0, 0), (43, .iconst 0, 1, 0, 0, 0, 0), (44, .ireturn, 1, 0, 0, 0, 0)]
/-- KindJudgeModel.isKind(I)Z -/
def kjM_148 : mv_Me := (⟨"KindJudgeModel", "isKind", "(I)Z"⟩, prog_11_method_49_code, 2, (some .boolean), "KindJudgeModel", kjT_148, 0, 0, 1, 22)
def kjT_149 : List mv_E := [(0, .aload_n 0, 1, 0, 0, 0, 0), (1, .iconst 0, 1, 0, 0, 0, 0), (2, .putfield 74, 3, 9, 0, 0, 0), (5, .aload_n 0, 1, 0, 0, 0, 0), (6, .getfield 184, 3, 9, 8, 1, 0), (9, .ifCond .eq 24, 3, 0, 0, 0, 0), (12, .aload_n 0, 1, 0, 0, 0, 0), (13, .iload_n 1, 1, 0, 0, 0, 0), (14, .invokevirtual 253, 3, 148, 2, 0, 9), (17, .ifCond .eq 16, 3, 0, 0, 0, 0), (20, .aload_n 0, 1, 0, 0, 0, 0), (21, .iload_n 2, 1, 0, 0, 0, 0), (22, .invokevirtual 253, 3, 148, 2, 0, 9), (25, .ifCond .eq 8, 3, 0, 0, 0, 0), (28, .iload_n 2, 1, 0, 0, 0, 0), (29, .iconst 3, 1, 0, 0, 0, 0), (30, .if_icmp .ne 5, 3, 0, 0, 0, 0), (33, .iconst (-1), 1, 0, 0, 0, 0), (34, .ireturn, 1, 0, 0, 0, 0), (35, .aload_n 0, 1, 0, 0, 0, 0), (36, .iload_n 1, 1, 0, 0, 0, 0), (37, .iload_n 2, 1, 0, 0, 0, 0), (38, .invokevirtual 232, 3, 136, 3, 0, 9), (41, .ifCond .ne 15, 3, 0, 0, 0, 0), (44, .iload_n 2, 1, 0, 0, 0, 0), (45, .bipush 15, 2, 0, 0, 0, 0), (47, .if_icmp .ne 13, 3, 0, 0, 0, 0), (50, .iload_n 1, 1, 0, 0, 0, 0), (51, .bipush 16, 2, 0, 0, 0, 0), (53, .if_icmp .lt 7, 3, 0, 0, 0, 0), (56, .iconst 1, 1, 0, 0, 0, 0), (57, .goto 4, 3, 0, 0, 0, 0), (60, .iconst 0, 1, 0, 0, 0, 0), (61, .ireturn, 1, 0, 0, 0, 0)]
/-- KindJudgeModel.fits(II)I -/
def kjM_149 : mv_Me := (⟨"KindJudgeModel", "fits", "(II)I"⟩, prog_11_method_50_code, 3, (some .int), "KindJudgeModel", kjT_149, 0, 0, 2, 45)
def kjT_150 : List mv_E := [(0, .aload_n 0, 1, 0, 0, 0, 0), (1, .iconst 0, 1, 0, 0, 0, 0), (2, .putfield 74, 3, 9, 0, 0, 0), (5, .aload_n 0, 1, 0, 0, 0, 0), (6, .getfield 184, 3, 9, 8, 1, 0), (9, .ifCond .eq 36, 3, 0, 0, 0, 0), (12, .iload_n 1, 1, 0, 0, 0, 0), (13, .ifCond .eq 11, 3, 0, 0, 0, 0), (16, .aload_n 0, 1, 0, 0, 0, 0), (17, .iload_n 1, 1, 0, 0, 0, 0), (18, .invokevirtual 253, 3, 148, 2, 0, 9), (21, .ifCond .eq 24, 3, 0, 0, 0, 0), (24, .iload_n 2, 1, 0, 0, 0, 0), (25, .ifCond .eq 11, 3, 0, 0, 0, 0), (28, .aload_n 0, 1, 0, 0, 0, 0), (29, .iload_n 2, 1, 0, 0, 0, 0), (30, .invokevirtual 253, 3, 148, 2, 0, 9), (33, .ifCond .eq 12, 3, 0, 0, 0, 0), (36, .aload_n 0, 1, 0, 0, 0, 0), (37, .iload_n 1, 1, 0, 0, 0, 0), (38, .iload_n 2, 1, 0, 0, 0, 0), (39, .invokevirtual 199, 3, 127, 3, 0, 9), (42, .goto 4, 3, 0, 0, 0, 0), (45, .iconst (-1), 1, 0, 0, 0, 0), (46, .ireturn, 1, 0, 0, 0, 0)]
/-- KindJudgeModel.meet(II)I -/
def kjM_150 : mv_Me := (⟨"KindJudgeModel", "meet", "(II)I"⟩, prog_11_method_51_code, 3, (some .int), "KindJudgeModel", kjT_150, 0, 0, 3, 68)
def kjT_151 : List mv_E := [(0, .aload_n 0, 1, 0, 0, 0, 0), (1, .iconst 0, 1, 0, 0, 0, 0), (2, .putfield 74, 3, 9, 0, 0, 0), (5, .aload_n 0, 1, 0, 0, 0, 0), (6, .getfield 184, 3, 9, 8, 1, 0), (9, .ifCond .eq 40, 3, 0, 0, 0, 0), (12, .iload_n 1, 1, 0, 0, 0, 0), (13, .iconst 0, 1, 0, 0, 0, 0), (14, .aload_n 0, 1, 0, 0, 0, 0), (15, .getfield 97, 3, 9, 12, 0, 0), (18, .iconst 1, 1, 0, 0, 0, 0), (19, .isub, 1, 0, 0, 0, 0), (20, .invokestatic 93, 3, 103, 3, 1, 0), (23, .ifCond .eq 26, 3, 0, 0, 0, 0), (26, .iload_n 2, 1, 0, 0, 0, 0), (27, .iconst 0, 1, 0, 0, 0, 0), (28, .aload_n 0, 1, 0, 0, 0, 0), (29, .getfield 124, 3, 9, 16, 0, 0), (32, .iconst 1, 1, 0, 0, 0, 0), (33, .isub, 1, 0, 0, 0, 0), (34, .invokestatic 93, 3, 103, 3, 1, 0), (37, .ifCond .eq 12, 3, 0, 0, 0, 0), (40, .aload_n 0, 1, 0, 0, 0, 0), (41, .iload_n 1, 1, 0, 0, 0, 0), (42, .iload_n 2, 1, 0, 0, 0, 0), (43, .invokevirtual 235, 3, 126, 3, 0, 9), (46, .goto 4, 3, 0, 0, 0, 0), (49, .iconst (-1), 1, 0, 0, 0, 0), (50, .ireturn, 1, 0, 0, 0, 0)]
/-- KindJudgeModel.method(II)I -/
def kjM_151 : mv_Me := (⟨"KindJudgeModel", "method", "(II)I"⟩, prog_11_method_52_code, 3, (some .int), "KindJudgeModel", kjT_151, 0, 0, 1, 23)
def kjT_152 : List mv_E := [(0, .aload_n 0, 1, 0, 0, 0, 0), (1, .iconst 0, 1, 0, 0, 0, 0), (2, .putfield 74, 3, 9, 0, 0, 0), (5, .aload_n 0, 1, 0, 0, 0, 0), (6, .getfield 184, 3, 9, 8, 1, 0), (9, .ifCond .eq 17, 3, 0, 0, 0, 0), (12, .iload_n 1, 1, 0, 0, 0, 0), (13, .iconst 0, 1, 0, 0, 0, 0), (14, .aload_n 0, 1, 0, 0, 0, 0), (15, .getfield 97, 3, 9, 12, 0, 0), (18, .iconst 1, 1, 0, 0, 0, 0), (19, .isub, 1, 0, 0, 0, 0), (20, .invokestatic 93, 3, 103, 3, 1, 0), (23, .ifCond .ne 5, 3, 0, 0, 0, 0), (26, .iconst (-1), 1, 0, 0, 0, 0), (27, .ireturn, 1, 0, 0, 0, 0), (28, .iload_n 2, 1, 0, 0, 0, 0), (29, .ifCond .ne 10, 3, 0, 0, 0, 0), (32, .aload_n 0, 1, 0, 0, 0, 0), (33, .getfield 19, 3, 9, 13, 4, 0), (36, .iload_n 1, 1, 0, 0, 0, 0), (37, .iaload, 1, 0, 0, 0, 0), (38, .ireturn, 1, 0, 0, 0, 0), (39, .iload_n 2, 1, 0, 0, 0, 0), (40, .iconst 1, 1, 0, 0, 0, 0), (41, .if_icmp .ne 10, 3, 0, 0, 0, 0), (44, .aload_n 0, 1, 0, 0, 0, 0), (45, .getfield 22, 3, 9, 14, 4, 0), (48, .iload_n 1, 1, 0, 0, 0, 0), (49, .iaload, 1, 0, 0, 0, 0), (50, .ireturn, 1, 0, 0, 0, 0), (51, .iload_n 2, 1, 0, 0, 0, 0), (52, .iconst 2, 1, 0, 0, 0, 0), (53, .iconst 1, 1, 0, 0, 0, 0), (54, .aload_n 0, 1, 0, 0, 0, 0), (55, .getfield 22, 3, 9, 14, 4, 0), (58, .iload_n 1, 1, 0, 0, 0, 0), (59, .iaload, 1, 0, 0, 0, 0), (60, .iadd, 1, 0, 0, 0, 0), (61, .invokestatic 93, 3, 103, 3, 1, 0), (64, .ifCond .eq 19, 3, 0, 0, 0, 0), (67, .aload_n 0, 1, 0, 0, 0, 0), (68, .getfield 25, 3, 9, 15, 4, 0), (71, .bipush 8, 2, 0, 0, 0, 0), (73, .iload_n 1, 1, 0, 0, 0, 0), (74, .imul, 1, 0, 0, 0, 0), (75, .iload_n 2, 1, 0, 0, 0, 0), (76, .iadd, 1, 0, 0, 0, 0), (77, .iconst 2, 1, 0, 0, 0, 0), (78, .isub, 1, 0, 0, 0, 0), (79, .iaload, 1, 0, 0, 0, 0), (80, .goto 4, 3, 0, 0, 0, 0), (83, .iconst (-1), 1, 0, 0, 0, 0), (84, .ireturn, 1, 0, 0, 0, 0)]
/-- KindJudgeModel.type(II)I -/
def kjM_152 : mv_Me := (⟨"KindJudgeModel", "type", "(II)I"⟩, prog_11_method_53_code, 3, (some .int), "KindJudgeModel", kjT_152, 0, 0, 1, 22)
def kjT_153 : List mv_E := [(0, .aload_n 0, 1, 0, 0, 0, 0), (1, .iconst 0, 1, 0, 0, 0, 0), (2, .putfield 74, 3, 9, 0, 0, 0), (5, .iload_n 1, 1, 0, 0, 0, 0), (6, .tableswitch 92 0 4 #[34, 50, 66, 82, 87], 34, 0, 0, 0, 0), (40, .aload_n 0, 1, 0, 0, 0, 0), (41, .getfield 184, 3, 9, 8, 1, 0), (44, .ifCond .eq 10, 3, 0, 0, 0, 0), (47, .aload_n 0, 1, 0, 0, 0, 0), (48, .getfield 114, 3, 9, 20, 0, 0), (51, .goto 4, 3, 0, 0, 0, 0), (54, .iconst 0, 1, 0, 0, 0, 0), (55, .ireturn, 1, 0, 0, 0, 0), (56, .aload_n 0, 1, 0, 0, 0, 0), (57, .getfield 184, 3, 9, 8, 1, 0), (60, .ifCond .eq 10, 3, 0, 0, 0, 0), (63, .aload_n 0, 1, 0, 0, 0, 0), (64, .getfield 97, 3, 9, 12, 0, 0), (67, .goto 4, 3, 0, 0, 0, 0), (70, .iconst 0, 1, 0, 0, 0, 0), (71, .ireturn, 1, 0, 0, 0, 0), (72, .aload_n 0, 1, 0, 0, 0, 0), (73, .getfield 184, 3, 9, 8, 1, 0), (76, .ifCond .eq 10, 3, 0, 0, 0, 0), (79, .aload_n 0, 1, 0, 0, 0, 0), (80, .getfield 124, 3, 9, 16, 0, 0), (83, .goto 4, 3, 0, 0, 0, 0), (86, .iconst 0, 1, 0, 0, 0, 0), (87, .ireturn, 1, 0, 0, 0, 0), (88, .aload_n 0, 1, 0, 0, 0, 0), (89, .getfield 78, 3, 9, 2, 0, 0), (92, .ireturn, 1, 0, 0, 0, 0), (93, .aload_n 0, 1, 0, 0, 0, 0), (94, .getfield 187, 3, 9, 1, 0, 0), (97, .ireturn, 1, 0, 0, 0, 0), (98, .iconst (-1), 1, 0, 0, 0, 0), (99, .ireturn, 1, 0, 0, 0, 0)]
/-- KindJudgeModel.total(I)I -/
def kjM_153 : mv_Me := (⟨"KindJudgeModel", "total", "(I)I"⟩, prog_11_method_54_code, 2, (some .int), "KindJudgeModel", kjT_153, 0, 0, 0, 0)
def kjP : List mv_Me := [kjM_0, kjM_1, kjM_2, kjM_3, kjM_4, kjM_5, kjM_6, kjM_7, kjM_8, kjM_9, kjM_10, kjM_11, kjM_12, kjM_13, kjM_14, kjM_15, kjM_16, kjM_17, kjM_18, kjM_19, kjM_20, kjM_21, kjM_22, kjM_23, kjM_24, kjM_25, kjM_26, kjM_27, kjM_28, kjM_29, kjM_30, kjM_31, kjM_32, kjM_33, kjM_34, kjM_35, kjM_36, kjM_37, kjM_38, kjM_39, kjM_40, kjM_41, kjM_42, kjM_43, kjM_44, kjM_45, kjM_46, kjM_47, kjM_48, kjM_49, kjM_50, kjM_51, kjM_52, kjM_53, kjM_54, kjM_55, kjM_56, kjM_57, kjM_58, kjM_59, kjM_60, kjM_61, kjM_62, kjM_63, kjM_64, kjM_65, kjM_66, kjM_67, kjM_68, kjM_69, kjM_70, kjM_71, kjM_72, kjM_73, kjM_74, kjM_75, kjM_76, kjM_77, kjM_78, kjM_79, kjM_80, kjM_81, kjM_82, kjM_83, kjM_84, kjM_85, kjM_86, kjM_87, kjM_88, kjM_89, kjM_90, kjM_91, kjM_92, kjM_93, kjM_94, kjM_95, kjM_96, kjM_97, kjM_98, kjM_99, kjM_100, kjM_101, kjM_102, kjM_103, kjM_104, kjM_105, kjM_106, kjM_107, kjM_108, kjM_109, kjM_110, kjM_111, kjM_112, kjM_113, kjM_114, kjM_115, kjM_116, kjM_117, kjM_118, kjM_119, kjM_120, kjM_121, kjM_122, kjM_123, kjM_124, kjM_125, kjM_126, kjM_127, kjM_128, kjM_129, kjM_130, kjM_131, kjM_132, kjM_133, kjM_134, kjM_135, kjM_136, kjM_137, kjM_138, kjM_139, kjM_140, kjM_141, kjM_142, kjM_143, kjM_144, kjM_145, kjM_146, kjM_147, kjM_148, kjM_149, kjM_150, kjM_151, kjM_152, kjM_153]
abbrev kjTs : List Jvm.Cond := lw_tbl.filter goodWord
abbrev kjNw : List Jvm.Cond := lw_tbl.filter mv_nest
end
