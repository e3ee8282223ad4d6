section
-- ===== PART A: goes FIRST, ahead of the names: the tables' words, and 'selects' of the private methods out of them =====
/-- a private method of a class that the tables say can be made, by its rows of tables_1 -/
def lw_okq (q : MethodName × Nat) : Prop := (q.1.cls ≠ "java/lang/invoke/MethodHandle" ∧ q.1.cls ≠ "java/lang/invoke/VarHandle") ∧ Cond.instantiable q.1.cls q.2 ∈ tables_1 ∧ Cond.privateMethod q.1 ∈ tables_1 ∧ Cond.instanceMethod q.1 ∈ tables_1
theorem lw_p0 : lw_okq (⟨"java/lang/Throwable", "fillInStackTrace", "(I)Ljava/lang/Throwable;"⟩, 6) := ⟨⟨by decide +kernel, by decide +kernel⟩, List.mem_of_getElem? (i := 432) (by decide +kernel), List.mem_of_getElem? (i := 430) (by decide +kernel), List.mem_of_getElem? (i := 431) (by decide +kernel)⟩
theorem lw_p1 : lw_okq (⟨"NameForge$Shape", "comeBy", "(I)I"⟩, 9) := ⟨⟨by decide +kernel, by decide +kernel⟩, List.mem_of_getElem? (i := 95) (by decide +kernel), List.mem_of_getElem? (i := 560) (by decide +kernel), List.mem_of_getElem? (i := 561) (by decide +kernel)⟩
theorem lw_p2 : lw_okq (⟨"NameForge$Shape", "findBefore", "(I)I"⟩, 9) := ⟨⟨by decide +kernel, by decide +kernel⟩, List.mem_of_getElem? (i := 95) (by decide +kernel), List.mem_of_getElem? (i := 576) (by decide +kernel), List.mem_of_getElem? (i := 577) (by decide +kernel)⟩
theorem lw_p3 : lw_okq (⟨"NameForge$Shape", "findParent", "(I)I"⟩, 9) := ⟨⟨by decide +kernel, by decide +kernel⟩, List.mem_of_getElem? (i := 95) (by decide +kernel), List.mem_of_getElem? (i := 580) (by decide +kernel), List.mem_of_getElem? (i := 581) (by decide +kernel)⟩
theorem lw_p4 : lw_okq (⟨"NameForge$Shape", "findFrontier", "(I)I"⟩, 9) := ⟨⟨by decide +kernel, by decide +kernel⟩, List.mem_of_getElem? (i := 95) (by decide +kernel), List.mem_of_getElem? (i := 584) (by decide +kernel), List.mem_of_getElem? (i := 585) (by decide +kernel)⟩
theorem lw_p5 : lw_okq (⟨"NameForge$Shape", "putInOrder", "()V"⟩, 9) := ⟨⟨by decide +kernel, by decide +kernel⟩, List.mem_of_getElem? (i := 95) (by decide +kernel), List.mem_of_getElem? (i := 588) (by decide +kernel), List.mem_of_getElem? (i := 589) (by decide +kernel)⟩
theorem lw_p6 : lw_okq (⟨"NameForge$Naming", "findDefined", "()V"⟩, 14) := ⟨⟨by decide +kernel, by decide +kernel⟩, List.mem_of_getElem? (i := 138) (by decide +kernel), List.mem_of_getElem? (i := 596) (by decide +kernel), List.mem_of_getElem? (i := 597) (by decide +kernel)⟩
theorem lw_p7 : lw_okq (⟨"NameForge$Naming", "placePhis", "()V"⟩, 14) := ⟨⟨by decide +kernel, by decide +kernel⟩, List.mem_of_getElem? (i := 138) (by decide +kernel), List.mem_of_getElem? (i := 602) (by decide +kernel), List.mem_of_getElem? (i := 603) (by decide +kernel)⟩
theorem lw_p8 : lw_okq (⟨"NameForge$Naming", "spread", "(II)Z"⟩, 14) := ⟨⟨by decide +kernel, by decide +kernel⟩, List.mem_of_getElem? (i := 138) (by decide +kernel), List.mem_of_getElem? (i := 609) (by decide +kernel), List.mem_of_getElem? (i := 610) (by decide +kernel)⟩
theorem lw_p9 : lw_okq (⟨"NameForge$Naming", "newName", "(III)I"⟩, 14) := ⟨⟨by decide +kernel, by decide +kernel⟩, List.mem_of_getElem? (i := 138) (by decide +kernel), List.mem_of_getElem? (i := 614) (by decide +kernel), List.mem_of_getElem? (i := 615) (by decide +kernel)⟩
theorem lw_p10 : lw_okq (⟨"NameForge$Naming", "nameBlock", "(I)V"⟩, 14) := ⟨⟨by decide +kernel, by decide +kernel⟩, List.mem_of_getElem? (i := 138) (by decide +kernel), List.mem_of_getElem? (i := 618) (by decide +kernel), List.mem_of_getElem? (i := 619) (by decide +kernel)⟩
theorem lw_p11 : lw_okq (⟨"NameForge$Naming", "nameInstruction", "(II[I)V"⟩, 14) := ⟨⟨by decide +kernel, by decide +kernel⟩, List.mem_of_getElem? (i := 138) (by decide +kernel), List.mem_of_getElem? (i := 622) (by decide +kernel), List.mem_of_getElem? (i := 623) (by decide +kernel)⟩
theorem lw_p12 : lw_okq (⟨"NameForge$Known", "passBlock", "(I)V"⟩, 8) := ⟨⟨by decide +kernel, by decide +kernel⟩, List.mem_of_getElem? (i := 219) (by decide +kernel), List.mem_of_getElem? (i := 635) (by decide +kernel), List.mem_of_getElem? (i := 636) (by decide +kernel)⟩
theorem lw_p13 : lw_okq (⟨"NameForge$Known", "passPhi", "(II)V"⟩, 8) := ⟨⟨by decide +kernel, by decide +kernel⟩, List.mem_of_getElem? (i := 219) (by decide +kernel), List.mem_of_getElem? (i := 639) (by decide +kernel), List.mem_of_getElem? (i := 640) (by decide +kernel)⟩
theorem lw_p14 : lw_okq (⟨"NameForge$Known", "raise", "(III)V"⟩, 8) := ⟨⟨by decide +kernel, by decide +kernel⟩, List.mem_of_getElem? (i := 219) (by decide +kernel), List.mem_of_getElem? (i := 647) (by decide +kernel), List.mem_of_getElem? (i := 648) (by decide +kernel)⟩
theorem lw_p15 : lw_okq (⟨"NameForge$Known", "passInstruction", "(II)V"⟩, 8) := ⟨⟨by decide +kernel, by decide +kernel⟩, List.mem_of_getElem? (i := 219) (by decide +kernel), List.mem_of_getElem? (i := 651) (by decide +kernel), List.mem_of_getElem? (i := 652) (by decide +kernel)⟩
def lw_privs_1 : List (MethodName × Nat) := [(⟨"java/lang/Throwable", "fillInStackTrace", "(I)Ljava/lang/Throwable;"⟩, 6), (⟨"NameForge$Shape", "comeBy", "(I)I"⟩, 9), (⟨"NameForge$Shape", "findBefore", "(I)I"⟩, 9), (⟨"NameForge$Shape", "findParent", "(I)I"⟩, 9), (⟨"NameForge$Shape", "findFrontier", "(I)I"⟩, 9), (⟨"NameForge$Shape", "putInOrder", "()V"⟩, 9), (⟨"NameForge$Naming", "findDefined", "()V"⟩, 14), (⟨"NameForge$Naming", "placePhis", "()V"⟩, 14), (⟨"NameForge$Naming", "spread", "(II)Z"⟩, 14), (⟨"NameForge$Naming", "newName", "(III)I"⟩, 14), (⟨"NameForge$Naming", "nameBlock", "(I)V"⟩, 14), (⟨"NameForge$Naming", "nameInstruction", "(II[I)V"⟩, 14), (⟨"NameForge$Known", "passBlock", "(I)V"⟩, 8), (⟨"NameForge$Known", "passPhi", "(II)V"⟩, 8), (⟨"NameForge$Known", "raise", "(III)V"⟩, 8), (⟨"NameForge$Known", "passInstruction", "(II)V"⟩, 8)]
theorem lw_r1 : ∀ q ∈ lw_privs_1, lw_okq q := List.forall_mem_cons.mpr ⟨lw_p0, List.forall_mem_cons.mpr ⟨lw_p1, List.forall_mem_cons.mpr ⟨lw_p2, List.forall_mem_cons.mpr ⟨lw_p3, List.forall_mem_cons.mpr ⟨lw_p4, List.forall_mem_cons.mpr ⟨lw_p5, List.forall_mem_cons.mpr ⟨lw_p6, List.forall_mem_cons.mpr ⟨lw_p7, List.forall_mem_cons.mpr ⟨lw_p8, List.forall_mem_cons.mpr ⟨lw_p9, List.forall_mem_cons.mpr ⟨lw_p10, List.forall_mem_cons.mpr ⟨lw_p11, List.forall_mem_cons.mpr ⟨lw_p12, List.forall_mem_cons.mpr ⟨lw_p13, List.forall_mem_cons.mpr ⟨lw_p14, List.forall_mem_cons.mpr ⟨lw_p15, fun _ h => absurd h List.not_mem_nil⟩⟩⟩⟩⟩⟩⟩⟩⟩⟩⟩⟩⟩⟩⟩⟩
theorem lw_p16 : lw_okq (⟨"NameForge$Known", "passEnd", "(I)V"⟩, 8) := ⟨⟨by decide +kernel, by decide +kernel⟩, List.mem_of_getElem? (i := 219) (by decide +kernel), List.mem_of_getElem? (i := 658) (by decide +kernel), List.mem_of_getElem? (i := 659) (by decide +kernel)⟩
theorem lw_p17 : lw_okq (⟨"NameForge$Known", "waysTaken", "(I)I"⟩, 8) := ⟨⟨by decide +kernel, by decide +kernel⟩, List.mem_of_getElem? (i := 219) (by decide +kernel), List.mem_of_getElem? (i := 662) (by decide +kernel), List.mem_of_getElem? (i := 663) (by decide +kernel)⟩
theorem lw_p18 : lw_okq (⟨"NameForge$Needed", "needByBlock", "(I)V"⟩, 6) := ⟨⟨by decide +kernel, by decide +kernel⟩, List.mem_of_getElem? (i := 257) (by decide +kernel), List.mem_of_getElem? (i := 672) (by decide +kernel), List.mem_of_getElem? (i := 673) (by decide +kernel)⟩
theorem lw_p19 : lw_okq (⟨"NameForge$Needed", "need", "(I)V"⟩, 6) := ⟨⟨by decide +kernel, by decide +kernel⟩, List.mem_of_getElem? (i := 257) (by decide +kernel), List.mem_of_getElem? (i := 676) (by decide +kernel), List.mem_of_getElem? (i := 677) (by decide +kernel)⟩
theorem lw_p20 : lw_okq (⟨"NameForge$Needed", "needPartsOf", "(I)V"⟩, 6) := ⟨⟨by decide +kernel, by decide +kernel⟩, List.mem_of_getElem? (i := 257) (by decide +kernel), List.mem_of_getElem? (i := 680) (by decide +kernel), List.mem_of_getElem? (i := 681) (by decide +kernel)⟩
theorem lw_p21 : lw_okq (⟨"NameForge$Needed", "needPartsOfPhi", "(II)V"⟩, 6) := ⟨⟨by decide +kernel, by decide +kernel⟩, List.mem_of_getElem? (i := 257) (by decide +kernel), List.mem_of_getElem? (i := 684) (by decide +kernel), List.mem_of_getElem? (i := 685) (by decide +kernel)⟩
theorem lw_p22 : lw_okq (⟨"NameForge", "isPhiWhat", "(II)Z"⟩, 7) := ⟨⟨by decide +kernel, by decide +kernel⟩, List.mem_of_getElem? (i := 18) (by decide +kernel), List.mem_of_getElem? (i := 732) (by decide +kernel), List.mem_of_getElem? (i := 733) (by decide +kernel)⟩
theorem lw_p23 : lw_okq (⟨"NameForge", "isReachedInstruction", "(II)Z"⟩, 7) := ⟨⟨by decide +kernel, by decide +kernel⟩, List.mem_of_getElem? (i := 18) (by decide +kernel), List.mem_of_getElem? (i := 744) (by decide +kernel), List.mem_of_getElem? (i := 745) (by decide +kernel)⟩
theorem lw_p24 : lw_okq (⟨"NameForge$Machine", "begin", "()V"⟩, 14) := ⟨⟨by decide +kernel, by decide +kernel⟩, List.mem_of_getElem? (i := 285) (by decide +kernel), List.mem_of_getElem? (i := 769) (by decide +kernel), List.mem_of_getElem? (i := 770) (by decide +kernel)⟩
theorem lw_p25 : lw_okq (⟨"NameForge$Machine", "passPlain", "(I)I"⟩, 14) := ⟨⟨by decide +kernel, by decide +kernel⟩, List.mem_of_getElem? (i := 285) (by decide +kernel), List.mem_of_getElem? (i := 774) (by decide +kernel), List.mem_of_getElem? (i := 775) (by decide +kernel)⟩
theorem lw_p26 : lw_okq (⟨"NameForge$Machine", "perform", "(III)I"⟩, 14) := ⟨⟨by decide +kernel, by decide +kernel⟩, List.mem_of_getElem? (i := 285) (by decide +kernel), List.mem_of_getElem? (i := 780) (by decide +kernel), List.mem_of_getElem? (i := 781) (by decide +kernel)⟩
theorem lw_p27 : lw_okq (⟨"NameForge$Machine", "keep", "(I)V"⟩, 14) := ⟨⟨by decide +kernel, by decide +kernel⟩, List.mem_of_getElem? (i := 285) (by decide +kernel), List.mem_of_getElem? (i := 784) (by decide +kernel), List.mem_of_getElem? (i := 785) (by decide +kernel)⟩
theorem lw_p28 : lw_okq (⟨"NameForge$Machine", "nextInput", "()I"⟩, 14) := ⟨⟨by decide +kernel, by decide +kernel⟩, List.mem_of_getElem? (i := 285) (by decide +kernel), List.mem_of_getElem? (i := 788) (by decide +kernel), List.mem_of_getElem? (i := 789) (by decide +kernel)⟩
theorem lw_p29 : lw_okq (⟨"NameForge$Machine", "nextOf", "(II)I"⟩, 14) := ⟨⟨by decide +kernel, by decide +kernel⟩, List.mem_of_getElem? (i := 285) (by decide +kernel), List.mem_of_getElem? (i := 794) (by decide +kernel), List.mem_of_getElem? (i := 795) (by decide +kernel)⟩
theorem lw_p30 : lw_okq (⟨"NameForge$Machine", "passBecome", "(II)I"⟩, 14) := ⟨⟨by decide +kernel, by decide +kernel⟩, List.mem_of_getElem? (i := 285) (by decide +kernel), List.mem_of_getElem? (i := 798) (by decide +kernel), List.mem_of_getElem? (i := 799) (by decide +kernel)⟩
theorem lw_p31 : lw_okq (⟨"NameForge$Machine", "choose", "(II)V"⟩, 14) := ⟨⟨by decide +kernel, by decide +kernel⟩, List.mem_of_getElem? (i := 285) (by decide +kernel), List.mem_of_getElem? (i := 802) (by decide +kernel), List.mem_of_getElem? (i := 803) (by decide +kernel)⟩
def lw_privs_2 : List (MethodName × Nat) := [(⟨"NameForge$Known", "passEnd", "(I)V"⟩, 8), (⟨"NameForge$Known", "waysTaken", "(I)I"⟩, 8), (⟨"NameForge$Needed", "needByBlock", "(I)V"⟩, 6), (⟨"NameForge$Needed", "need", "(I)V"⟩, 6), (⟨"NameForge$Needed", "needPartsOf", "(I)V"⟩, 6), (⟨"NameForge$Needed", "needPartsOfPhi", "(II)V"⟩, 6), (⟨"NameForge", "isPhiWhat", "(II)Z"⟩, 7), (⟨"NameForge", "isReachedInstruction", "(II)Z"⟩, 7), (⟨"NameForge$Machine", "begin", "()V"⟩, 14), (⟨"NameForge$Machine", "passPlain", "(I)I"⟩, 14), (⟨"NameForge$Machine", "perform", "(III)I"⟩, 14), (⟨"NameForge$Machine", "keep", "(I)V"⟩, 14), (⟨"NameForge$Machine", "nextInput", "()I"⟩, 14), (⟨"NameForge$Machine", "nextOf", "(II)I"⟩, 14), (⟨"NameForge$Machine", "passBecome", "(II)I"⟩, 14), (⟨"NameForge$Machine", "choose", "(II)V"⟩, 14)]
theorem lw_r2 : ∀ q ∈ lw_privs_2, lw_okq q := List.forall_mem_cons.mpr ⟨lw_p16, List.forall_mem_cons.mpr ⟨lw_p17, List.forall_mem_cons.mpr ⟨lw_p18, List.forall_mem_cons.mpr ⟨lw_p19, List.forall_mem_cons.mpr ⟨lw_p20, List.forall_mem_cons.mpr ⟨lw_p21, List.forall_mem_cons.mpr ⟨lw_p22, List.forall_mem_cons.mpr ⟨lw_p23, List.forall_mem_cons.mpr ⟨lw_p24, List.forall_mem_cons.mpr ⟨lw_p25, List.forall_mem_cons.mpr ⟨lw_p26, List.forall_mem_cons.mpr ⟨lw_p27, List.forall_mem_cons.mpr ⟨lw_p28, List.forall_mem_cons.mpr ⟨lw_p29, List.forall_mem_cons.mpr ⟨lw_p30, List.forall_mem_cons.mpr ⟨lw_p31, fun _ h => absurd h List.not_mem_nil⟩⟩⟩⟩⟩⟩⟩⟩⟩⟩⟩⟩⟩⟩⟩⟩
theorem lw_p32 : lw_okq (⟨"NameForge$Machine", "valueOf", "(I)I"⟩, 14) := ⟨⟨by decide +kernel, by decide +kernel⟩, List.mem_of_getElem? (i := 285) (by decide +kernel), List.mem_of_getElem? (i := 806) (by decide +kernel), List.mem_of_getElem? (i := 807) (by decide +kernel)⟩
theorem lw_p33 : lw_okq (⟨"NameForge$Machine", "isKept", "(I)Z"⟩, 14) := ⟨⟨by decide +kernel, by decide +kernel⟩, List.mem_of_getElem? (i := 285) (by decide +kernel), List.mem_of_getElem? (i := 811) (by decide +kernel), List.mem_of_getElem? (i := 812) (by decide +kernel)⟩
theorem lw_p34 : lw_okq (⟨"NameForgeModel", "fails", "(ZI)Z"⟩, 41) := ⟨⟨by decide +kernel, by decide +kernel⟩, List.mem_of_getElem? (i := 823) (by decide +kernel), List.mem_of_getElem? (i := 961) (by decide +kernel), List.mem_of_getElem? (i := 962) (by decide +kernel)⟩
theorem lw_p35 : lw_okq (⟨"NameForgeModel", "noBlock", "(I)Z"⟩, 41) := ⟨⟨by decide +kernel, by decide +kernel⟩, List.mem_of_getElem? (i := 823) (by decide +kernel), List.mem_of_getElem? (i := 969) (by decide +kernel), List.mem_of_getElem? (i := 970) (by decide +kernel)⟩
theorem lw_p36 : lw_okq (⟨"NameForgeModel", "noTarget", "(I)Z"⟩, 41) := ⟨⟨by decide +kernel, by decide +kernel⟩, List.mem_of_getElem? (i := 823) (by decide +kernel), List.mem_of_getElem? (i := 989) (by decide +kernel), List.mem_of_getElem? (i := 990) (by decide +kernel)⟩
theorem lw_p37 : lw_okq (⟨"NameForgeModel", "reaches", "()V"⟩, 41) := ⟨⟨by decide +kernel, by decide +kernel⟩, List.mem_of_getElem? (i := 823) (by decide +kernel), List.mem_of_getElem? (i := 1009) (by decide +kernel), List.mem_of_getElem? (i := 1010) (by decide +kernel)⟩
theorem lw_p38 : lw_okq (⟨"NameForgeModel", "leadsTo", "(I)I"⟩, 41) := ⟨⟨by decide +kernel, by decide +kernel⟩, List.mem_of_getElem? (i := 823) (by decide +kernel), List.mem_of_getElem? (i := 1016) (by decide +kernel), List.mem_of_getElem? (i := 1017) (by decide +kernel)⟩
theorem lw_p39 : lw_okq (⟨"NameForgeModel", "dominates", "()V"⟩, 41) := ⟨⟨by decide +kernel, by decide +kernel⟩, List.mem_of_getElem? (i := 823) (by decide +kernel), List.mem_of_getElem? (i := 1020) (by decide +kernel), List.mem_of_getElem? (i := 1021) (by decide +kernel)⟩
theorem lw_p40 : lw_okq (⟨"NameForgeModel", "placePhis", "()V"⟩, 41) := ⟨⟨by decide +kernel, by decide +kernel⟩, List.mem_of_getElem? (i := 823) (by decide +kernel), List.mem_of_getElem? (i := 1027) (by decide +kernel), List.mem_of_getElem? (i := 1028) (by decide +kernel)⟩
theorem lw_p41 : lw_okq (⟨"NameForgeModel", "isInFrontier", "(II)Z"⟩, 41) := ⟨⟨by decide +kernel, by decide +kernel⟩, List.mem_of_getElem? (i := 823) (by decide +kernel), List.mem_of_getElem? (i := 1031) (by decide +kernel), List.mem_of_getElem? (i := 1032) (by decide +kernel)⟩
theorem lw_p42 : lw_okq (⟨"NameForgeModel", "defined", "(I)I"⟩, 41) := ⟨⟨by decide +kernel, by decide +kernel⟩, List.mem_of_getElem? (i := 823) (by decide +kernel), List.mem_of_getElem? (i := 1035) (by decide +kernel), List.mem_of_getElem? (i := 1036) (by decide +kernel)⟩
theorem lw_p43 : lw_okq (⟨"NameForgeModel", "nameAll", "()V"⟩, 41) := ⟨⟨by decide +kernel, by decide +kernel⟩, List.mem_of_getElem? (i := 823) (by decide +kernel), List.mem_of_getElem? (i := 1039) (by decide +kernel), List.mem_of_getElem? (i := 1040) (by decide +kernel)⟩
theorem lw_p44 : lw_okq (⟨"NameForgeModel", "nameBlock", "(I)V"⟩, 41) := ⟨⟨by decide +kernel, by decide +kernel⟩, List.mem_of_getElem? (i := 823) (by decide +kernel), List.mem_of_getElem? (i := 1043) (by decide +kernel), List.mem_of_getElem? (i := 1044) (by decide +kernel)⟩
theorem lw_p45 : lw_okq (⟨"NameForgeModel", "named", "(II)I"⟩, 41) := ⟨⟨by decide +kernel, by decide +kernel⟩, List.mem_of_getElem? (i := 823) (by decide +kernel), List.mem_of_getElem? (i := 1047) (by decide +kernel), List.mem_of_getElem? (i := 1048) (by decide +kernel)⟩
theorem lw_p46 : lw_okq (⟨"NameForgeModel", "findKnown", "()V"⟩, 41) := ⟨⟨by decide +kernel, by decide +kernel⟩, List.mem_of_getElem? (i := 823) (by decide +kernel), List.mem_of_getElem? (i := 1051) (by decide +kernel), List.mem_of_getElem? (i := 1052) (by decide +kernel)⟩
theorem lw_p47 : lw_okq (⟨"NameForgeModel", "pass", "()Z"⟩, 41) := ⟨⟨by decide +kernel, by decide +kernel⟩, List.mem_of_getElem? (i := 823) (by decide +kernel), List.mem_of_getElem? (i := 1055) (by decide +kernel), List.mem_of_getElem? (i := 1056) (by decide +kernel)⟩
def lw_privs_3 : List (MethodName × Nat) := [(⟨"NameForge$Machine", "valueOf", "(I)I"⟩, 14), (⟨"NameForge$Machine", "isKept", "(I)Z"⟩, 14), (⟨"NameForgeModel", "fails", "(ZI)Z"⟩, 41), (⟨"NameForgeModel", "noBlock", "(I)Z"⟩, 41), (⟨"NameForgeModel", "noTarget", "(I)Z"⟩, 41), (⟨"NameForgeModel", "reaches", "()V"⟩, 41), (⟨"NameForgeModel", "leadsTo", "(I)I"⟩, 41), (⟨"NameForgeModel", "dominates", "()V"⟩, 41), (⟨"NameForgeModel", "placePhis", "()V"⟩, 41), (⟨"NameForgeModel", "isInFrontier", "(II)Z"⟩, 41), (⟨"NameForgeModel", "defined", "(I)I"⟩, 41), (⟨"NameForgeModel", "nameAll", "()V"⟩, 41), (⟨"NameForgeModel", "nameBlock", "(I)V"⟩, 41), (⟨"NameForgeModel", "named", "(II)I"⟩, 41), (⟨"NameForgeModel", "findKnown", "()V"⟩, 41), (⟨"NameForgeModel", "pass", "()Z"⟩, 41)]
theorem lw_r3 : ∀ q ∈ lw_privs_3, lw_okq q := List.forall_mem_cons.mpr ⟨lw_p32, List.forall_mem_cons.mpr ⟨lw_p33, List.forall_mem_cons.mpr ⟨lw_p34, List.forall_mem_cons.mpr ⟨lw_p35, List.forall_mem_cons.mpr ⟨lw_p36, List.forall_mem_cons.mpr ⟨lw_p37, List.forall_mem_cons.mpr ⟨lw_p38, List.forall_mem_cons.mpr ⟨lw_p39, List.forall_mem_cons.mpr ⟨lw_p40, List.forall_mem_cons.mpr ⟨lw_p41, List.forall_mem_cons.mpr ⟨lw_p42, List.forall_mem_cons.mpr ⟨lw_p43, List.forall_mem_cons.mpr ⟨lw_p44, List.forall_mem_cons.mpr ⟨lw_p45, List.forall_mem_cons.mpr ⟨lw_p46, List.forall_mem_cons.mpr ⟨lw_p47, fun _ h => absurd h List.not_mem_nil⟩⟩⟩⟩⟩⟩⟩⟩⟩⟩⟩⟩⟩⟩⟩⟩
theorem lw_p48 : lw_okq (⟨"NameForgeModel", "meet", "(III)Z"⟩, 41) := ⟨⟨by decide +kernel, by decide +kernel⟩, List.mem_of_getElem? (i := 823) (by decide +kernel), List.mem_of_getElem? (i := 1059) (by decide +kernel), List.mem_of_getElem? (i := 1060) (by decide +kernel)⟩
theorem lw_p49 : lw_okq (⟨"NameForgeModel", "becomes", "(III)Z"⟩, 41) := ⟨⟨by decide +kernel, by decide +kernel⟩, List.mem_of_getElem? (i := 823) (by decide +kernel), List.mem_of_getElem? (i := 1063) (by decide +kernel), List.mem_of_getElem? (i := 1064) (by decide +kernel)⟩
theorem lw_p50 : lw_okq (⟨"NameForgeModel", "knows", "(I)Z"⟩, 41) := ⟨⟨by decide +kernel, by decide +kernel⟩, List.mem_of_getElem? (i := 823) (by decide +kernel), List.mem_of_getElem? (i := 1067) (by decide +kernel), List.mem_of_getElem? (i := 1068) (by decide +kernel)⟩
theorem lw_p51 : lw_okq (⟨"NameForgeModel", "reckon", "(III)I"⟩, 41) := ⟨⟨by decide +kernel, by decide +kernel⟩, List.mem_of_getElem? (i := 823) (by decide +kernel), List.mem_of_getElem? (i := 1071) (by decide +kernel), List.mem_of_getElem? (i := 1072) (by decide +kernel)⟩
theorem lw_p52 : lw_okq (⟨"NameForgeModel", "ways", "(I)I"⟩, 41) := ⟨⟨by decide +kernel, by decide +kernel⟩, List.mem_of_getElem? (i := 823) (by decide +kernel), List.mem_of_getElem? (i := 1075) (by decide +kernel), List.mem_of_getElem? (i := 1076) (by decide +kernel)⟩
theorem lw_p53 : lw_okq (⟨"NameForgeModel", "findNeeded", "()V"⟩, 41) := ⟨⟨by decide +kernel, by decide +kernel⟩, List.mem_of_getElem? (i := 823) (by decide +kernel), List.mem_of_getElem? (i := 1079) (by decide +kernel), List.mem_of_getElem? (i := 1080) (by decide +kernel)⟩
theorem lw_p54 : lw_okq (⟨"NameForgeModel", "needs", "(I)Z"⟩, 41) := ⟨⟨by decide +kernel, by decide +kernel⟩, List.mem_of_getElem? (i := 823) (by decide +kernel), List.mem_of_getElem? (i := 1083) (by decide +kernel), List.mem_of_getElem? (i := 1084) (by decide +kernel)⟩
theorem lw_p55 : lw_okq (⟨"NameForgeModel", "needsParts", "(I)Z"⟩, 41) := ⟨⟨by decide +kernel, by decide +kernel⟩, List.mem_of_getElem? (i := 823) (by decide +kernel), List.mem_of_getElem? (i := 1087) (by decide +kernel), List.mem_of_getElem? (i := 1088) (by decide +kernel)⟩
theorem lw_p56 : lw_okq (⟨"NameForgeModel", "phiOf", "(II)I"⟩, 41) := ⟨⟨by decide +kernel, by decide +kernel⟩, List.mem_of_getElem? (i := 823) (by decide +kernel), List.mem_of_getElem? (i := 1099) (by decide +kernel), List.mem_of_getElem? (i := 1100) (by decide +kernel)⟩
theorem lw_p57 : lw_okq (⟨"NameForgeModel", "plainBlock", "(I)V"⟩, 41) := ⟨⟨by decide +kernel, by decide +kernel⟩, List.mem_of_getElem? (i := 823) (by decide +kernel), List.mem_of_getElem? (i := 1123) (by decide +kernel), List.mem_of_getElem? (i := 1124) (by decide +kernel)⟩
theorem lw_p58 : lw_okq (⟨"NameForgeModel", "tell", "(I)V"⟩, 41) := ⟨⟨by decide +kernel, by decide +kernel⟩, List.mem_of_getElem? (i := 823) (by decide +kernel), List.mem_of_getElem? (i := 1127) (by decide +kernel), List.mem_of_getElem? (i := 1128) (by decide +kernel)⟩
theorem lw_p59 : lw_okq (⟨"NameForgeModel", "plainValue", "(I)I"⟩, 41) := ⟨⟨by decide +kernel, by decide +kernel⟩, List.mem_of_getElem? (i := 823) (by decide +kernel), List.mem_of_getElem? (i := 1131) (by decide +kernel), List.mem_of_getElem? (i := 1132) (by decide +kernel)⟩
theorem lw_p60 : lw_okq (⟨"NameForgeModel", "ask", "()I"⟩, 41) := ⟨⟨by decide +kernel, by decide +kernel⟩, List.mem_of_getElem? (i := 823) (by decide +kernel), List.mem_of_getElem? (i := 1135) (by decide +kernel), List.mem_of_getElem? (i := 1136) (by decide +kernel)⟩
theorem lw_p61 : lw_okq (⟨"NameForgeModel", "formedBlock", "(II)V"⟩, 41) := ⟨⟨by decide +kernel, by decide +kernel⟩, List.mem_of_getElem? (i := 823) (by decide +kernel), List.mem_of_getElem? (i := 1139) (by decide +kernel), List.mem_of_getElem? (i := 1140) (by decide +kernel)⟩
theorem lw_p62 : lw_okq (⟨"NameForgeModel", "value", "(I)I"⟩, 41) := ⟨⟨by decide +kernel, by decide +kernel⟩, List.mem_of_getElem? (i := 823) (by decide +kernel), List.mem_of_getElem? (i := 1143) (by decide +kernel), List.mem_of_getElem? (i := 1144) (by decide +kernel)⟩
theorem lw_p63 : lw_okq (⟨"NameForgeModel", "behind", "(IZ)I"⟩, 41) := ⟨⟨by decide +kernel, by decide +kernel⟩, List.mem_of_getElem? (i := 823) (by decide +kernel), List.mem_of_getElem? (i := 1147) (by decide +kernel), List.mem_of_getElem? (i := 1148) (by decide +kernel)⟩
def lw_privs_4 : List (MethodName × Nat) := [(⟨"NameForgeModel", "meet", "(III)Z"⟩, 41), (⟨"NameForgeModel", "becomes", "(III)Z"⟩, 41), (⟨"NameForgeModel", "knows", "(I)Z"⟩, 41), (⟨"NameForgeModel", "reckon", "(III)I"⟩, 41), (⟨"NameForgeModel", "ways", "(I)I"⟩, 41), (⟨"NameForgeModel", "findNeeded", "()V"⟩, 41), (⟨"NameForgeModel", "needs", "(I)Z"⟩, 41), (⟨"NameForgeModel", "needsParts", "(I)Z"⟩, 41), (⟨"NameForgeModel", "phiOf", "(II)I"⟩, 41), (⟨"NameForgeModel", "plainBlock", "(I)V"⟩, 41), (⟨"NameForgeModel", "tell", "(I)V"⟩, 41), (⟨"NameForgeModel", "plainValue", "(I)I"⟩, 41), (⟨"NameForgeModel", "ask", "()I"⟩, 41), (⟨"NameForgeModel", "formedBlock", "(II)V"⟩, 41), (⟨"NameForgeModel", "value", "(I)I"⟩, 41), (⟨"NameForgeModel", "behind", "(IZ)I"⟩, 41)]
theorem lw_r4 : ∀ q ∈ lw_privs_4, lw_okq q := List.forall_mem_cons.mpr ⟨lw_p48, List.forall_mem_cons.mpr ⟨lw_p49, List.forall_mem_cons.mpr ⟨lw_p50, List.forall_mem_cons.mpr ⟨lw_p51, List.forall_mem_cons.mpr ⟨lw_p52, List.forall_mem_cons.mpr ⟨lw_p53, List.forall_mem_cons.mpr ⟨lw_p54, List.forall_mem_cons.mpr ⟨lw_p55, List.forall_mem_cons.mpr ⟨lw_p56, List.forall_mem_cons.mpr ⟨lw_p57, List.forall_mem_cons.mpr ⟨lw_p58, List.forall_mem_cons.mpr ⟨lw_p59, List.forall_mem_cons.mpr ⟨lw_p60, List.forall_mem_cons.mpr ⟨lw_p61, List.forall_mem_cons.mpr ⟨lw_p62, List.forall_mem_cons.mpr ⟨lw_p63, fun _ h => absurd h List.not_mem_nil⟩⟩⟩⟩⟩⟩⟩⟩⟩⟩⟩⟩⟩⟩⟩⟩
def lw_privs : List (MethodName × Nat) := lw_privs_1 ++ (lw_privs_2 ++ (lw_privs_3 ++ (lw_privs_4)))
def lw_tbl : List Cond := k2_sels lw_privs ++ tables_1
theorem lw_privs_ok : ∀ q ∈ lw_privs, lw_okq q := by
  show ∀ q ∈ lw_privs_1 ++ (lw_privs_2 ++ (lw_privs_3 ++ (lw_privs_4))), lw_okq q
  exact List.forall_mem_append.mpr ⟨lw_r1, List.forall_mem_append.mpr ⟨lw_r2, List.forall_mem_append.mpr ⟨lw_r3, lw_r4⟩⟩⟩
end
section
/-! rows of my own: new int[n][k]; a callee that throws; a handler behind others; the words of an exception's constructor -/
/-! ### two dimensions of ints at once -/
def ow_row (c : ClassId) (M : Nat) (v : Value) : Cell := { cls := c, slots := Array.replicate M v, vm := .none }
def ow_top (c : ClassId) (N a i : Nat) : Cell := { cls := c, slots := Array.ofFn (n := N) (fun j => if j.val < i then Value.ref (a + 1 + j.val) else .null), vm := .none }
/-- behind i rows: the heap has grown by the outer array and i rows -/
def ow_grid (T : State) (c0 c1 : ClassId) (N M : Nat) (v : Value) (i : Nat) : State :=
  { T with heap := T.heap.push (ow_top c0 N T.heap.size i) ++ Array.replicate i (ow_row c1 M v), slotsUsed := T.slotsUsed + N + i * M }
theorem ow_top_size (c : ClassId) (N a i : Nat) : (ow_top c N a i).slots.size = N := by simp [ow_top]
theorem ow_top_slot (c : ClassId) (N a i j : Nat) (h : j < N) : (ow_top c N a i).slots[j]? = some (if j < i then Value.ref (a + 1 + j) else .null) := by
  simp [ow_top, h]
theorem ow_top_zero (c : ClassId) (N a : Nat) : ow_top c N a 0 = ow_row c N .null := by
  have h : (Array.ofFn (n := N) (fun j => if j.val < 0 then Value.ref (a + 1 + j.val) else .null)) = Array.replicate N .null := by
    apply Array.ext
    · simp
    · intro j h1 h2
      simp
  unfold ow_top ow_row
  rw [h]
theorem ow_top_succ (c : ClassId) (N a i : Nat) : (ow_top c N a i).setSlot i (.ref (a + 1 + i)) = ow_top c N a (i + 1) := by
  have h : (Array.ofFn (n := N) (fun j => if j.val < i then Value.ref (a + 1 + j.val) else .null)).setIfInBounds i (.ref (a + 1 + i)) = Array.ofFn (n := N) (fun j => if j.val < i + 1 then Value.ref (a + 1 + j.val) else .null) := by
    apply Array.ext
    · simp
    · intro j h1 h2
      have hN : j < N := by simpa using h2
      rw [Array.getElem_setIfInBounds (by simpa using hN)]
      simp only [Array.getElem_ofFn]
      by_cases e : i = j
      · subst e
        simp
      · rw [if_neg e]
        by_cases hj : j < i
        · rw [if_pos hj, if_pos (by omega)]
        · rw [if_neg hj, if_neg (by omega)]
  unfold ow_top Cell.setSlot
  simp only
  rw [h]
section OG
variable (T : State) (c0 c1 : ClassId) (N M : Nat) (v : Value)
theorem ow_grid_size (i : Nat) : (ow_grid T c0 c1 N M v i).heap.size = T.heap.size + 1 + i := by simp [ow_grid]
theorem ow_grid_old (i : Nat) {a : Nat} (h : a < T.heap.size) : (ow_grid T c0 c1 N M v i).heap[a]? = T.heap[a]? := by
  unfold ow_grid
  simp only
  rw [Array.getElem?_append_left (by simp; omega), Array.getElem?_push_lt h, Array.getElem?_eq_getElem h]
theorem ow_grid_top (i : Nat) : (ow_grid T c0 c1 N M v i).heap[T.heap.size]? = some (ow_top c0 N T.heap.size i) := by
  unfold ow_grid
  simp only
  rw [Array.getElem?_append_left (by simp), Array.getElem?_push_size]
theorem ow_grid_row (i j : Nat) (h : j < i) : (ow_grid T c0 c1 N M v i).heap[T.heap.size + 1 + j]? = some (ow_row c1 M v) := by
  unfold ow_grid
  simp only
  rw [Array.getElem?_append_right (by simp), Array.size_push, Array.getElem?_replicate, if_pos (by omega)]
theorem ow_grid_zero : T.pushCell (ow_row c0 N .null) = ow_grid T c0 c1 N M v 0 := by
  unfold ow_grid State.pushCell
  rw [ow_top_zero]
  simp [ow_row]
theorem ow_grid_succ (i : Nat) : ((ow_grid T c0 c1 N M v i).pushCell (ow_row c1 M v)).setCell T.heap.size (ow_top c0 N T.heap.size (i + 1)) = ow_grid T c0 c1 N M v (i + 1) := by
  have h : (((T.heap.push (ow_top c0 N T.heap.size i) ++ Array.replicate i (ow_row c1 M v)).push (ow_row c1 M v)).setIfInBounds T.heap.size (ow_top c0 N T.heap.size (i + 1)))
      = T.heap.push (ow_top c0 N T.heap.size (i + 1)) ++ Array.replicate (i + 1) (ow_row c1 M v) := by
    apply Array.ext_getElem?
    intro j
    rw [Array.getElem?_setIfInBounds]
    rcases Nat.lt_trichotomy j T.heap.size with hj | hj | hj
    · rw [if_neg (by omega), Array.getElem?_push_lt (by simp; omega), Array.getElem?_append_left (by simp; omega), Array.getElem?_push_lt hj]
      simp [Array.getElem_append, Array.getElem_push, hj, show j < T.heap.size + 1 by omega]
    · subst hj
      rw [if_pos rfl, if_pos (by simp; omega), Array.getElem?_append_left (by simp), Array.getElem?_push_size]
    · rw [if_neg (by omega), Array.getElem?_append_right (by simp; omega), Array.getElem?_push]
      simp only [Array.size_append, Array.size_push, Array.size_replicate]
      by_cases e : j = T.heap.size + 1 + i
      · rw [if_pos e, Array.getElem?_replicate, if_pos (by omega)]
      · rw [if_neg e, Array.getElem?_append_right (by simp; omega), Array.getElem?_replicate, Array.getElem?_replicate, Array.size_push]
        by_cases hk : j - (T.heap.size + 1) < i
        · rw [if_pos hk, if_pos (by omega)]
        · rw [if_neg hk, if_neg (by omega)]
  have hs : T.slotsUsed + N + i * M + (ow_row c1 M v).slots.size = T.slotsUsed + N + (i + 1) * M := by
    rw [show (ow_row c1 M v).slots.size = M by simp [ow_row], Nat.succ_mul]
    omega
  unfold ow_grid State.pushCell State.setCell
  simp only
  rw [h, hs]
end OG
section OM
variable {E : CtlPost} {e : Env} {d : Bool} {acts : List Action} {s : State}
/-- a new array whose elements are all of one default -/
theorem ow_new {c cc : ClassId} {k : Class} {ty : FieldType} {n : Nat} {v : Value} (hk : s.vm.classes[c]? = some k) (hkind : k.kind = .array cc ty) (hv : fits ty v = true) (hd : v.isDefault = true)
    (h1 : n ≤ e.platform.arrayLengthLimit) (h2 : n * componentBytes ty ≤ e.platform.maxHeapBytes) (h3 : s.heap.size < e.platform.maxCells) (h4 : s.slotsUsed + n ≤ e.platform.maxSlots)
    {Q : Addr → Pre} (hq : ∀ acts', Q s.heap.size d acts' (s.pushCell (ow_row c n v))) : wp (Jvm.newArray c n v) Q E e d acts s := by
  have h1' : ¬ n > e.platform.arrayLengthLimit := Nat.not_lt.mpr h1
  have h2' : ¬ n * componentBytes ty > e.platform.maxHeapBytes := Nat.not_lt.mpr h2
  unfold Jvm.newArray Jvm.arrayFits
  simp only [wp_bind', wp_pure', W.ask, W.ite, h1', h2', if_false, W.theClass, hk, hkind, Option.some.injEq, exists_eq_left']
  rw [if_neg (by omega)]
  refine (W.alloc c (Array.replicate n v) .none).mpr ⟨h3, by simpa using h4, fun i x hx => ?_, hq _⟩
  rw [Array.getElem?_replicate] at hx
  split at hx
  · cases hx
    simp [State.fitsSlot, State.slotType?, hk, hkind, hv]
  · cases hx
/-- the rows and their outer array: 'make' of two lengths, where the inner arrays are of ints -/
theorem ow_make {c cc c1 : ClassId} {k k1 : Class} {n m : Int32} (hk : s.vm.classes[c]? = some k) (hkind : k.kind = .array c1 (.array .int)) (hk1 : s.vm.classes[c1]? = some k1) (hkind1 : k1.kind = .array cc .int)
    (hn : ¬ n < 0) (hm : ¬ m < 0) (h1 : n.toNatClampNeg ≤ e.platform.arrayLengthLimit) (h2 : n.toNatClampNeg * 4 ≤ e.platform.maxHeapBytes) (h3 : m.toNatClampNeg ≤ e.platform.arrayLengthLimit) (h4 : m.toNatClampNeg * 4 ≤ e.platform.maxHeapBytes)
    (h5 : s.heap.size + 1 + n.toNatClampNeg ≤ e.platform.maxCells) (h6 : s.slotsUsed + n.toNatClampNeg + n.toNatClampNeg * m.toNatClampNeg ≤ e.platform.maxSlots)
    {Q : Addr → Pre} (hq : ∀ d' acts', Q s.heap.size d' acts' (ow_grid s c c1 n.toNatClampNeg m.toNatClampNeg (.int 0) n.toNatClampNeg)) : wp (multianewarray.make c [n, m]) Q E e d acts s := by
  have hbad : [m].find? (· < 0) = none := by simp [hm]
  rw [multianewarray.make]
  simp only [wp_bind', wp_pure', W.ite, hn, if_false, W.theClass, hk, hkind, Option.some.injEq, exists_eq_left']
  refine ow_new hk hkind rfl rfl h1 h2 (by omega) (by omega) fun acts1 => ?_
  simp only [hbad]
  rw [ite_self, wp_bind', Std.Legacy.Range.forIn_eq_forIn_range', ow_grid_zero s c c1 n.toNatClampNeg m.toNatClampNeg (.int 0)]
  have hz : ([:n.toNatClampNeg] : Std.Legacy.Range).size = n.toNatClampNeg := by simp [Std.Legacy.Range.size]
  rw [hz]
  generalize hN : n.toNatClampNeg = N at *
  generalize hM : m.toNatClampNeg = M at *
  refine wp_forIn_inv (fun l S => l.length ≤ N ∧ l = List.range' (N - l.length) l.length ∧ S = ow_grid s c c1 N M (.int 0) (N - l.length)) _ _ ⟨by simp, by simp, by simp⟩ ?_ ?_
  · rintro x l S d1 a1 Q1 ⟨hl, hr, rfl⟩ next
    rw [List.length_cons] at hl hr
    rw [List.length_cons]
    rw [List.range'_succ] at hr
    obtain ⟨hx, hr⟩ := List.cons.inj hr
    have hi : N - (l.length + 1) + 1 = N - l.length := by omega
    rw [hi] at hr
    have hlt : x < N := by omega
    rw [← hx]
    have hmul : x * M + M ≤ N * M := by
      have := Nat.mul_le_mul_right M (show x + 1 ≤ N from hlt)
      rwa [Nat.succ_mul] at this
    have gs := ow_grid_size s c c1 N M (.int 0) x
    simp only [wp_bind']
    rw [multianewarray.make]
    simp only [wp_bind', wp_pure', W.ite, hm, if_false, W.theClass, show (ow_grid s c c1 N M (.int 0) x).vm = s.vm from rfl, hk1, hkind1, Option.some.injEq, exists_eq_left']
    rw [hM]
    refine ow_new (s := ow_grid s c c1 N M (.int 0) x) (k := k1) (cc := cc) (ty := .int) (v := .int 0) hk1 hkind1 rfl rfl h3 h4 (by rw [gs]; omega) (by show s.slotsUsed + N + x * M + M ≤ _; omega) fun acts2 => ?_
    simp only [wp_bind', wp_pure']
    refine (W.writeLoc _ _ _ _).mpr ⟨ow_top c N s.heap.size x, ?_, by simp [ow_top], by rw [ow_top_size]; exact hlt, ?_, ?_⟩
    · have hlt0 : s.heap.size < (ow_grid s c c1 N M (.int 0) x).heap.size := by rw [gs]; omega
      rw [State.heap_pushCell_of_lt (h := hlt0)]
      exact ow_grid_top s c c1 N M (.int 0) x
    · show State.fitsSlot _ c .none x _ = true
      simp [State.fitsSlot, State.slotType?, show (ow_grid s c c1 N M (.int 0) x).vm = s.vm from rfl, hk, hkind]
      rfl
    · refine next _ _ _ ⟨by omega, hr, ?_⟩
      rw [gs, ow_top_succ, ow_grid_succ, ← hi, ← hx]
  · rintro S d1 a1 ⟨-, -, rfl⟩
    simp only [wp_pure']
    exact hq _ _
end OM
/-- the word that there is an array class over an array class, as facts -/
theorem ow_over {A : Array Value} {u : State} {t : FieldType} (h : (Cond.arrayOver (.array t)).before A u = true) :
    ∃ c1 c k, u.vm.findClass (FieldType.array t).toString = some c1 ∧ (u.vm.classes.findIdx? fun x => match x.kind with | .array cc _ => cc == c1 | _ => false) = some c ∧ u.vm.classes[c]? = some k ∧ k.kind = .array c1 (.array t) ∧ u.vm.findClass ("[" ++ (FieldType.array t).toString) = some c := by
  have h' : (Cond.arrayOver (.array t)).holds A u none u [] = true := h
  simp only [Cond.holds, Cond.value, beq_iff_eq] at h'
  obtain ⟨c1, h1, h'⟩ := Option.bind_eq_some_iff.mp h'
  obtain ⟨c, h2, h'⟩ := Option.bind_eq_some_iff.mp h'
  obtain ⟨k, h3, h4⟩ := Option.map_eq_some_iff.mp h'
  obtain ⟨hlt, hp, -⟩ := Array.findIdx?_eq_some_iff_getElem.mp h2
  rw [(Array.getElem?_eq_some_iff.mp h3).2] at hp
  cases hk : k.kind with
  | array cc ty =>
    simp [hk] at hp h4
    exact ⟨c1, c, k, h1, h2, h3, by rw [hk, hp, h4.1], h4.2⟩
  | _ => simp [hk] at hp
theorem ow_over_moved {u U : State} (hvm : u.vm.Alike U.vm) {A B : Array Value} {t : FieldType} (h : (Cond.arrayOver (.array t)).before A u = true) : (Cond.arrayOver (.array t)).before B U = true := by
  obtain ⟨c1, c, k, h1, h2, h3, h4, h5⟩ := ow_over h
  obtain ⟨k', h3', e3⟩ := hvm.2.2 _ _ h3
  have h4' : k'.kind = .array c1 (.array t) := by rw [e3]; exact h4
  have h2' := (hvm.findIdx?_eqK (fun x => match x.kind with | .array cc _ => cc == c1 | _ => false) (fun _ => rfl)).trans h2
  rw [← hvm.findClass] at h1 h5
  show (Cond.arrayOver (.array t)).holds B U none U [] = true
  simp only [Cond.holds, Cond.value, beq_iff_eq]
  exact Option.bind_eq_some_iff.mpr ⟨c1, h1, Option.bind_eq_some_iff.mpr ⟨c, h2', Option.map_eq_some_iff.mpr ⟨k', h3', by simp [h4', h5]⟩⟩⟩
section OS
variable {p : Program} {l : Launch} {e : Env} {R : Room} {s : State} {m : MethodId} {args : Array Value} {below : List Frame} {meth : Method} {c : Code} {T : State} {locs : List Loc} {cells slots : Nat}
theorem ow_stand (X : Stand p l e R s m args below meth c T locs cells slots) (c0 c1 : ClassId) (N M : Nat) (v : Value) (i : Nat) : Stand p l e R s m args below meth c (ow_grid T c0 c1 N M v i) locs (cells + 1 + i) (slots + N + i * M) := by
  induction i with
  | zero =>
    have h := X.pushed (ow_row c0 N .null)
    rw [ow_grid_zero T c0 c1 N M v, show (ow_row c0 N .null).slots.size = N by simp [ow_row]] at h
    simpa using h
  | succ i ih =>
    have h := ih.pushed (ow_row c1 M v)
    have hlt : T.heap.size < (ow_grid T c0 c1 N M v i).heap.size := by rw [ow_grid_size]; omega
    have hc : ((ow_grid T c0 c1 N M v i).pushCell (ow_row c1 M v)).heap[T.heap.size]? = some (ow_top c0 N T.heap.size i) := by
      rw [State.heap_pushCell_of_lt (h := hlt)]
      exact ow_grid_top T c0 c1 N M v i
    have h2 := (h.stored hc i (.ref (T.heap.size + 1 + i))).dropFresh (fun x hx => by
      rw [List.mem_singleton] at hx
      subst hx
      exact X.heapGrown)
    rw [ow_top_succ, ow_grid_succ, show (ow_row c1 M v).slots.size = M by simp [ow_row]] at h2
    rw [Nat.succ_mul, ← Nat.add_assoc, ← Nat.add_assoc]
    exact h2
/-- new int[n][k] -/
theorem ow_mna (X : Stand p l e R s m args below meth c T locs cells slots) (hexec : p.tables.exec = Jvm.exec) {own : String} {index : Nat} (hown : s.vm.findClass own = some m.cls)
    (hcl : (Cond.classLink own index "[[I").before args s = true) (hov : (Cond.arrayOver (.array .int)).before args s = true) (hac : (Cond.arrayClass .int).before args s = true)
    {g : JFrame} (hg : g.method = m) (hdg : decode c.code g.pc = .ok (.multianewarray index 2, 4)) {n k : Int32} {rest : List Value} (hst : g.stack = .int k :: .int n :: rest) (hn : ¬ n < 0) (hk : ¬ k < 0)
    (hb1 : n.toNatClampNeg * 4 ≤ 536870912) (hb2 : k.toNatClampNeg * 4 ≤ 536870912) (hcells : cells + (1 + n.toNatClampNeg) ≤ R.cells) (hslots : slots + (n.toNatClampNeg + n.toNatClampNeg * k.toNatClampNeg) ≤ R.slots) :
    ∃ (vm₁ : Vm) (c0 c1 : ClassId), s.WarmedH vm₁ ∧ s.vm.findClass "[[I" = some c0 ∧ s.vm.findClass "[I" = some c1 ∧
      Stand p l e R s m args below meth c (ow_grid (T.setVm vm₁) c0 c1 n.toNatClampNeg k.toNatClampNeg (.int 0) n.toNatClampNeg) locs (cells + 1 + n.toNatClampNeg) (slots + n.toNatClampNeg + n.toNatClampNeg * k.toNatClampNeg) ∧
      ∀ target, Steps p.tables e below ((ow_grid (T.setVm vm₁) c0 c1 n.toNatClampNeg k.toNatClampNeg (.int 0) n.toNatClampNeg).setTop { g with pc := g.pc + 4, stack := .ref T.heap.size :: rest }) target → Steps p.tables e below (T.setTop g) target := by
  subst hg
  have hpl : e.platform.magicAccessors = ({} : Platform).magicAccessors := by rw [X.admits.platform]
  obtain ⟨c1, c0, k0, f1, -, hk0, hd0, f0⟩ := ow_over hov
  obtain ⟨c1', k1, cc, f1', hk1, hd1⟩ := Cond.arrayClass_spec hac
  cases Option.some.inj (f1'.symm.trans f1)
  obtain ⟨c0', f0', hl⟩ := Cond.classLink_spec hown hcl e.platform hpl
  cases Option.some.inj (f0.symm.trans f0')
  obtain ⟨hgv, hW, -⟩ := State.classEntry (e := e) X.warmed hl
  generalize T.vm.noted g.method.cls index (.cls c0) = vm₁ at hgv hW
  obtain ⟨q0, hq0, e0⟩ := hW.alike.2.2 _ _ hk0
  obtain ⟨q1, hq1, e1⟩ := hW.alike.2.2 _ _ hk1
  have X1 := X.noted hW
  have XF := ow_stand X1 c0 c1 n.toNatClampNeg k.toNatClampNeg (.int 0) n.toNatClampNeg
  refine ⟨vm₁, c0, c1, hW, f0, f1, XF, fun target hrest => ?_⟩
  have hr1 := X.cellsAbove hcells
  have hr2 := X.slotsAbove hslots
  have hlim := Launch.admits_arrayLengthLimit X.admits
  have hbyt := Launch.admits_maxHeapBytes X.admits
  jvm_step X.here [hexec, hdg]
  simp only [multianewarray.sem, wp_bind', W.resolveClassAt_links (State.method?_setTop g X.here.top) hgv]
  rw [W.popN, if_neg (by decide)]
  refine ⟨g, State.topJava?_setTop' (s := T.setVm vm₁) g X.here.top, [.int n, .int k], rest, rfl, hst, ?_⟩
  simp only [List.mapM_cons, List.mapM_nil, wp_bind', wp_pure']
  have hS : ((T.setTop g).setVm vm₁).setTop { g with stack := rest } = (T.setVm vm₁).setTop { g with stack := rest } := by
    show ((T.setVm vm₁).setTop g).setTop _ = _
    rw [State.setTop_setTop]
  rw [hS]
  refine ow_make (k := q0) (k1 := q1) (cc := cc) hq0 (by rw [e0]; exact hd0) hq1 (by rw [e1]; exact hd1) hn hk (by rw [hlim]; omega) (by rw [hbyt]; omega) (by rw [hlim]; omega) (by rw [hbyt]; omega)
    (by show T.heap.size + 1 + _ ≤ _; omega) (by show T.slotsUsed + _ + _ ≤ _; omega) fun d' acts' => ?_
  have hC : ow_grid ((T.setVm vm₁).setTop { g with stack := rest }) c0 c1 n.toNatClampNeg k.toNatClampNeg (.int 0) n.toNatClampNeg = (ow_grid (T.setVm vm₁) c0 c1 n.toNatClampNeg k.toNatClampNeg (.int 0) n.toNatClampNeg).setTop { g with stack := rest } := rfl
  rw [hC]
  simp only [wp_bind', W.mark, W.pushRef, State.topJava?_setTop' _ XF.here.top, Option.some.injEq, exists_eq_left', State.setTop_setTop, State.heap_setTop]
  intro acts
  simp [jvm, XF.here.top]
  exact hrest
end OS
/-! ### an exception's constructor E(String), whose own call up may stand anywhere in its pool -/
/-- the words that its making and throwing ask -/
def ow_words (own : String) (ic : Nat) (X : String) (ix : Nat) (rx : ByteArray) (names : List String) : List Cond :=
  [.methodLink own ic (Bundle.initS X), .instantiable X 6, .selects X Bundle.tFill0 Bundle.tFill0, .selects X Bundle.tFill Bundle.tFill, .fieldLink Bundle.tN 198 Bundle.tN "backtrace" "Ljava/lang/Object;",
    .isRef (.static Bundle.tN "UNASSIGNED_STACK" Bundle.steD), .isRef (.static Bundle.tN "SUPPRESSED_SENTINEL" Bundle.listD), .lays Bundle.tN Bundle.tN "backtrace" "Ljava/lang/Object;"] ++
  [("cause", "Ljava/lang/Throwable;"), ("stackTrace", Bundle.steD), ("suppressedExceptions", Bundle.listD), ("detailMessage", "Ljava/lang/String;"), ("backtrace", "Ljava/lang/Object;")].map (fun f => Cond.lays X Bundle.tN f.1 f.2) ++
  Bundle.passSAtoms X (names.headD Bundle.tN) ix rx ++ (match names with | [] => [] | Y :: r => Bundle.chainSAtoms Y r) ++ (Bundle.throwableAtoms ++ Bundle.throwableSAtoms)
theorem ow_chain {A : Array Value} {u : State} {pl : Platform} (hpl : pl.magicAccessors = ({} : Platform).magicAccessors) {top : MethodId} (htop : u.methodNamed? (Bundle.initS Bundle.tN) = some top) {own X : String} {ic ix : Nat} {rx : ByteArray} {names : List String}
    (x0 : decode rx 0 = .ok (.aload_n 0, 1)) (x1 : decode rx 1 = .ok (.aload_n 1, 1)) (x2 : decode rx 2 = .ok (.invokespecial ix, 3)) (x5 : decode rx 5 = .ok (.return_, 1))
    (hX : Bundle.fit X = true) (hn : ∀ n ∈ names, Bundle.fit n = true) (h : ∀ w ∈ ow_words own ic X ix rx names, w.before A u = true) :
    ∃ (P1 : PassC) (Ps : List PassC), Ps.length = names.length ∧ P1.LinksS pl u ∧ (∀ P ∈ Ps, P.LinksS pl u) ∧ u.methodNamed? (Bundle.initS X) = some P1.m ∧ P1.sup = firstOf top (Ps.map (·.toPassT)) ∧ PassesOn top (Ps.map (·.toPassT)) := by
  have hp : ∀ w ∈ Bundle.passSAtoms X (names.headD Bundle.tN) ix rx, w.before A u = true := fun w hw => h w (by simp only [ow_words, List.mem_append]; exact Or.inl (Or.inl (Or.inr hw)))
  obtain ⟨P, L, hm, hs⟩ := PassC.ofS_atoms (args := A) (s := u) hpl (X := X) (Y := names.headD Bundle.tN) (Bundle.fit_spec hX).1 (by
    cases names with
    | nil => decide
    | cons Y r => exact (Bundle.fit_spec (hn Y List.mem_cons_self)).2) x0 x1 x2 x5 hp
  cases names with
  | nil => exact ⟨P, [], rfl, L, (fun _ h => nomatch h), hm, Option.some.inj (hs.symm.trans htop), trivial⟩
  | cons Y r =>
    obtain ⟨P', Ps, hlen, L', hL, hm', hup, hon⟩ := Bundle.chainS (args := A) hpl htop r Y (hn Y List.mem_cons_self) (fun n h' => hn n (List.mem_cons_of_mem _ h')) (fun w hw => h w (by simp [ow_words, hw]))
    exact ⟨P, P' :: Ps, congrArg Nat.succ hlen, L, List.forall_mem_cons.mpr ⟨L', hL⟩, hm, Option.some.inj (hs.symm.trans hm'), hup, hon⟩
theorem ow_sel {l : Launch} {e : Env} (ha : l.admits e) {A : Array Value} {u : State} {X : String} {t : MethodName} {mt : MethodId} {cX : ClassId} (hn : u.methodNamed? t = some mt) (ht : t.cls ≠ "java/lang/invoke/MethodHandle" ∧ t.cls ≠ "java/lang/invoke/VarHandle")
    (hX : u.vm.findClass X = some cX) (h : (Cond.selects X t t).before A u = true) : selectMethod e.platform u.vm cX mt = .method mt := by
  obtain ⟨c2, r2, m2, q1, q2, q3, q4, -⟩ := Cond.selects_spec h
  rw [hX] at q1
  rw [State.methodFound?_of_named hn ht] at q2
  rw [hn] at q3
  cases q1; cases q2; cases q3
  rw [Launch.admits_selectMethod ha]
  exact q4
section OT
variable {p : Program} {l : Launch} {e : Env} {R : Room} {s : State} {m : MethodId} {args : Array Value} {below : List Frame} {meth : Method} {c : Code} {T : State} {locs : List Loc} {cells slots : Nat}
set_option maxHeartbeats 4000000 in
/-- 'throw new X(text)', from the call of the constructor on, where no traces are kept: the new object alone changes, and the method is left -/
theorem ow_throw (S : Stand p l e R s m args below meth c T locs cells slots) (hexec : p.tables.exec = Jvm.exec) (htr : e.platform.stackTraces = false) (hlocs : ∀ x ∈ locs, ∀ cell, s.heap[x.base]? = some cell → cell.vm.isStatics = false)
    {own X : String} {names : List String} {ic ix : Nat} {rx : ByteArray} (x0 : decode rx 0 = .ok (.aload_n 0, 1)) (x1 : decode rx 1 = .ok (.aload_n 1, 1)) (x2 : decode rx 2 = .ok (.invokespecial ix, 3)) (x5 : decode rx 5 = .ok (.return_, 1))
    (hown : s.vm.findClass own = some m.cls) (hX : Bundle.fit X = true) (hn : ∀ n ∈ names, Bundle.fit n = true) (h : ∀ w ∈ ow_words own ic X ix rx names, w.before args s = true)
    {q : Addr} {cX : ClassId} {kX : Class} (hfX : s.vm.findClass X = some cX) (hkX : s.vm.classes[cX]? = some kX) (hq : T.heap[q]? = some (freshCell cX kX)) (hnew : s.heap.size ≤ q) {tx : Value} (htx : tx.isRef = true)
    {g : JFrame} (hg : g.method = m) (hsz : g.locals.size = c.maxLocals) (hlk : g.locked = none) (hen : g.entered = []) {rest : List Value} (hst : g.stack = tx :: .ref q :: .ref q :: rest)
    (d0 : decode c.code g.pc = .ok (.invokespecial ic, 3)) (d3 : decode c.code (g.pc + 3) = .ok (.athrow, 1)) (hout : ∀ x ∈ c.exceptionTable.toList, covers x (g.pc + 3) = false)
    (hRf : names.length + 3 < R.frames) (hRl : 2 * g.monitorRoom + ((Value.ref q :: rest).map fun v => v.category).sum + (13 * (names.length + 1) + 42) ≤ R.locals) (hlocks : meth.locks = false) :
    ∃ U : State, Steps p.tables e below (T.setTop g) U ∧ U.status = .running ∧ Ended U below (.threw q) ∧ s.WarmedH U.vm ∧ s.sameButNew ({ U with vm := s.vm } : State) locs cells slots ∧ (∀ z : Nat, z ≠ q → U.heap[z]? = T.heap[z]?) ∧ T.heap.size ≤ U.heap.size ∧ ∃ ce, U.heap[q]? = some ce ∧ ce.cls = cX ∧ ce.vm = .none := by
  have hpl : e.platform.magicAccessors = ({} : Platform).magicAccessors := by rw [S.admits.platform]
  obtain ⟨V, Z0, L, LZ0, Y⟩ := ThrowableC.of_atoms (args := args) (s := s) (pl := e.platform) (by rw [S.admits.platform]) (by rw [S.admits.platform]) hpl (fun w hw => h w (by simp [ow_words, hw]))
  obtain ⟨Z, M, LZ, LM, hZ⟩ := Init0T.ofS_atoms (args := args) hpl L Y (fun w hw => h w (by simp [ow_words, hw]))
  obtain ⟨P, Ps, hlen, LP, LPs, hP, hup, hon⟩ := ow_chain (A := args) hpl hZ x0 x1 x2 x5 hX hn h
  cases hfX.symm.trans (findClass_of_methodNamed hP)
  obtain ⟨cI, kI, i1, i2, hord, -, -, -⟩ := Cond.instantiable_spec (h (.instantiable X 6) (by simp [ow_words]))
  cases hfX.symm.trans i1
  cases hkX.symm.trans i2
  /- the statics of Throwable, as they still stand -/
  obtain ⟨zc, hz, hzs⟩ := Y.statics
  obtain ⟨u0, hu0⟩ := Cond.staticRefV Y.unassigned L.unassignedStatic L.statics hz hzs (h (.isRef (.static Bundle.tN "UNASSIGNED_STACK" Bundle.steD)) (by simp [ow_words]))
  obtain ⟨u1, hu1⟩ := Cond.staticRefV Y.sentinel L.sentinelStatic L.statics hz hzs (h (.isRef (.static Bundle.tN "SUPPRESSED_SENTINEL" Bundle.listD)) (by simp [ow_words]))
  obtain ⟨zc', hz', hvm', -, hzk⟩ := S.same.2.2.2.2.2 V.aS zc hz
  have hfar : ∀ i, zc'.slots[i]? = zc.slots[i]? := fun i => hzk i fun hm => absurd (hlocs _ hm zc hz) (by rw [hzs]; decide)
  have hzu : zc'.vm ≠ .unknown := fun hu => by
    have hv : zc'.vm = zc.vm := by rw [hvm']
    rw [← hv, hu] at hzs
    cases hzs
  have hzq : V.aS ≠ q := fun hh => Nat.lt_irrefl _ (Nat.lt_of_lt_of_le (Array.getElem?_eq_some_iff.mp hz).1 (hh ▸ hnew))
  /- the fields of the new object -/
  have hlay : ∀ n d, (n, d) ∈ [("cause", "Ljava/lang/Throwable;"), ("stackTrace", Bundle.steD), ("suppressedExceptions", Bundle.listD), ("detailMessage", "Ljava/lang/String;"), ("backtrace", "Ljava/lang/Object;")] → (Cond.lays X Bundle.tN n d).before args s = true :=
    fun n d hm => h _ (by simp only [ow_words, List.mem_append]; exact Or.inl (Or.inl (Or.inl (Or.inr (List.mem_map.mpr ⟨(n, d), hm, rfl⟩)))))
  obtain ⟨iM, hfM⟩ := Y.msg
  obtain ⟨b1, b2, fB, hb1, hb2, hb3, hb4, -, nB, tB, hfB⟩ := Cond.ownField (t := .object "java/lang/Object") Y.found L.cls (by decide +kernel) (h (.fieldLink Bundle.tN 198 Bundle.tN "backtrace" "Ljava/lang/Object;") (by simp [ow_words])) (h (.lays Bundle.tN Bundle.tN "backtrace" "Ljava/lang/Object;") (by simp [ow_words])) e.platform hpl
  obtain ⟨yC, wC, aC, oC⟩ := Cond.laysAt hfX hkX Y.cause (hlay "cause" "Ljava/lang/Throwable;" (by simp))
  obtain ⟨yS, wS, aS, oS⟩ := Cond.laysAt hfX hkX Y.stack (hlay "stackTrace" Bundle.steD (by simp))
  obtain ⟨yP, wP, aP, oP⟩ := Cond.laysAt hfX hkX Y.supp (hlay "suppressedExceptions" Bundle.listD (by simp))
  obtain ⟨yM, wM, aM, oM⟩ := Cond.laysAt hfX hkX hfM (hlay "detailMessage" "Ljava/lang/String;" (by simp))
  obtain ⟨yB, wB, aB, oB⟩ := Cond.laysAt hfX hkX hfB (hlay "backtrace" "Ljava/lang/Object;" (by simp))
  have n1 : fB.slot ≠ V.fCause.slot := Cond.laysApart aB aC oB oC (by rw [nB, Y.causeName]; decide)
  have n2 : fB.slot ≠ V.fStack.slot := Cond.laysApart aB aS oB oS (by rw [nB, Y.stackName]; decide)
  have n3 : fB.slot ≠ V.fSupp.slot := Cond.laysApart aB aP oB oP (by rw [nB, Y.suppName]; decide)
  have hskip : SkipFacts V e.platform s (fun u => u) u0 ((preparedCellV V.toThrowableT (freshCell P.m.cls kX) q u0 u1).withEntry T.cur) := by
    refine ⟨{ ci198 := b1, i198 := b2, fBack := fB }, ⟨hb1, hb2, hb3, hb4⟩, ?_, fun _ _ => rfl⟩
    have hdf := fresh_default (c := P.m.cls) yB
    rw [tB] at hdf
    simpa [preparedCellV, Cell.setSlot, Cell.withEntry, Array.getElem?_setIfInBounds, n1, n2, n3, n1.symm, n2.symm, n3.symm, defaultValue] using hdf
  /- the call, the constructors, the throw -/
  have hpass : ∀ w ∈ Bundle.passSAtoms X (names.headD Bundle.tN) ix rx, w.before args s = true := fun w hw => h w (by simp only [ow_words, List.mem_append]; exact Or.inl (Or.inl (Or.inr hw)))
  obtain ⟨mi, -, -, -, vm1, hmi, -, -, -, -, -, -, -, hW1, st1⟩ := Steps.initColdS (tb := p.tables) (e := e) (below := below) (s := s) (U := T) S.here hexec S.warmed hpl hown (t := Bundle.initS X) rfl rfl (Bundle.fit_spec hX).2
    (h (.methodLink own ic (Bundle.initS X)) (by simp [ow_words])) (hpass _ (by simp [Bundle.passSAtoms])) (bytes := rx) (maxL := 2) (hpass _ (by simp [Bundle.passSAtoms])) (f := g) hg (a := q) (msg := tx) (rest := .ref q :: rest) hst d0
  cases hmi.symm.trans hP
  obtain ⟨vm2, S2, st2⟩ := (S.noted hW1).ctorMessageOffV hexec (g := { g with stack := .ref q :: rest }) hg hsz V L Z LZ M LM (P :: Ps) (List.forall_mem_cons.mpr ⟨LP, LPs⟩) ⟨hup, hon⟩ (u0 := u0) (sen := u1) (self := q) htx (cell := freshCell P.m.cls kX) (cellS := zc')
    hq (fun _ => by simp) (by simp) rfl rfl
    (ow_sel S.admits Y.fill0 (by decide) hfX (h (.selects X Bundle.tFill0 Bundle.tFill0) (by simp [ow_words]))) (ow_sel S.admits Y.fill (by decide) hfX (h (.selects X Bundle.tFill Bundle.tFill) (by simp [ow_words])))
    hz' hzq hzu (by rw [hfar]; exact hu0) (by rw [hfar]; exact hu1)
    (Takes.of_laid hkX hord yC (by rw [Y.causeType]; rfl)) (Takes.of_laid hkX hord yS (by rw [Y.stackType]; exact fits_refV_array _ u0)) (Takes.of_laid hkX hord yP (by rw [Y.suppType]; exact fits_refV_object _ u1)) (Takes.of_laid hkX hord yM (by rw [Y.msgType]; exact fits_refV_object _ ⟨tx, htx⟩))
    Y.objLocals hskip htr [] d0 (by rw [List.length_cons, hlen]; omega) (by rw [List.length_cons, hlen]; exact hRl)
  obtain ⟨st3, hrun, hend, hWU, hsame⟩ := S2.athrowLeaves hexec (g := { g with stack := .ref q :: rest, pc := g.pc + 3 }) hg hlk hen hout (a := q) (rest := rest) rfl d3 hlocks
  refine ⟨_, st1 _ (fun acts => by rw [doInvoke_state]; exact st2 _ st3), hrun, hend, hWU, hsame.weaken (fun y hy hlt => ?_) (Nat.le_refl _) (Nat.le_refl _), fun z hz => ?_, ?_, _, heapAt_setCell_self (s := (T.setVm vm1).setVm vm2) _ (Array.getElem?_eq_some_iff.mp hq).1, rfl, rfl⟩
  · rcases List.mem_append.mp hy with h1 | h1
    · exact h1
    · have hb : y.base = q := by
        simp only [List.mem_cons, List.not_mem_nil, or_false] at h1
        rcases h1 with rfl | rfl | rfl | rfl | rfl <;> rfl
      exact absurd (hb ▸ hlt) (Nat.not_lt.mpr hnew)
  · show ((((T.setVm vm1).setVm vm2).setCell q _).setFrames _).heap[z]? = T.heap[z]?
    simp [State.setCell, State.setFrames, Array.getElem?_setIfInBounds, Ne.symm hz]
  · show T.heap.size ≤ ((((T.setVm vm1).setVm vm2).setCell q _).setFrames _).heap.size
    simp [State.setCell, State.setFrames]
end OT
/-! ### a callee that throws, and the handler -/
section OC
variable {p : Program} {l : Launch} {e : Env} {R : Room} {s : State} {m : MethodId} {args : Array Value} {below : List Frame} {meth : Method} {c : Code} {T : State} {locs : List Loc} {cells slots : Nat}
/-- the call of a method whose contract says that it throws -/
theorem ow_call (X : Stand p l e R s m args below meth c T locs cells slots) {y : MethodName} {sp : Spec} {P : Array Value → State → Prop} {Q : Array Value → State → Outcome → State → Prop} {bytes : ByteArray} {maxL w k0 n0 : Nat} {ret : Option FieldType}
    (hM : MetFree l y sp P (fun _ _ _ _ _ => True) Q) {g : JFrame} (hg : g.method = m) (hsz : g.locals.size = c.maxLocals) {ig : Instr} {len : Nat} (hdg : decode c.code g.pc = .ok (ig, len)) (hw : 2 * g.monitorRoom + (g.stack.map fun v => v.category).sum ≤ w)
    {mk : MethodId} (hn : T.methodNamed? y = some mk) {a : Array Value} (hpre : sp.pre.before a T = true) (hcode : (Cond.code y bytes maxL ret).before a T = true) (hini : (Cond.initialized y.cls).before a T = true)
    (hf : sp.room.frames + 1 ≤ R.frames) (hl : w + (maxL + 11) + sp.room.locals ≤ R.locals) (hc : cells + sp.room.cells ≤ R.cells) (hs : slots + sp.room.slots ≤ R.slots) (hP : P a (T.calling g mk a)) {E : Addr → List Loc → Heap → Prop}
    (hQ : ∀ o t, Q a (T.calling g mk a) o t → ∃ q L, o = .threw q ∧ (T.calling g mk a).WarmedH t.vm ∧ (T.calling g mk a).sameButNew ({ t with vm := (T.calling g mk a).vm } : State) L k0 n0 ∧ E q L t.heap) :
    ∃ q L B, Stand p l e R s m args below meth c B (locs ++ L) (cells + k0) (slots + n0) ∧ E q L B.heap ∧ Steps p.tables e below (doInvoke e (T.setTop g) [] mk a).1 ((B.setTop g).pushFrame (.throwing q)) := by
  subst hg
  obtain ⟨my, cy, h1, h2, -, h3, -⟩ := Cond.code_spec hn hcode
  obtain ⟨ky, hk, -⟩ := className_of_methodNamed hn
  obtain ⟨g0, hfr⟩ := X.frames_eq
  have hap := Spec.appliesLoose_calling (e := e) (g := g) (args := a) (S := sp) X.here hdg hn hk (Cond.initialized_spec (findClass_of_methodNamed hn) hk hini) (X.room_calling hsz h1 h2 hf (by rw [h3]; omega) hc hs) hpre
  have hfr' : (T.setTop g).frames = [.java g] ++ below := State.frames_setTop _ hfr
  obtain ⟨o, t, st, -, hend, hq⟩ := Steps.callFree hM p X.admits X.cas X.clock (acts := []) hfr' hap hP trivial
  obtain ⟨q, L, rfl, hW, hsm, hE⟩ := hQ o t hq
  rw [hfr'] at hend
  obtain ⟨B, XB, -, -, rfl⟩ := X.outOfThrown rfl hend hW hsm
  exact ⟨q, L, B, XB, by rwa [Stand.throwing_heap] at hE, st⟩
end OC
section OH
variable {E : CtlPost} {e : Env} {d : Bool} {acts : List Action} {s S : State} {f : JFrame} {a : Addr} {Q : Handler → Pre}
/-- a row that covers the place and whose class is in the tables: it is asked, and noted -/
theorem ow_look {y : ExceptionTableEntry} {t : List ExceptionTableEntry} {cc : ClassId} {cell : Cell} (hy : covers y f.pc = true) (h0 : y.catchType ≠ 0) (hl : S.vm.ClassLinks e.platform f.method.cls y.catchType cc) (hcell : S.heap[a]? = some cell) (hobj : cell.vm = .none)
    (hk : ∃ k, S.vm.classes[cell.cls]? = some k) (hc : ∃ k, S.vm.classes[cc]? = some k) {b : Bool} (hb : S.vm.assignable cell.cls cc = b) :
    wp (findHandler.go f a (y :: t)) Q E e d acts S ↔ if b = true then Q (.found y.handlerPc) d acts (S.setVm (S.vm.noted f.method.cls y.catchType (.cls cc))) else wp (findHandler.go f a t) Q E e d acts (S.setVm (S.vm.noted f.method.cls y.catchType (.cls cc))) := by
  obtain ⟨g1, g2⟩ := (resolveClass_links e.toSetting hl).op (op := VmOp.resolveClass f.method.cls y.catchType) rfl
  have hA : S.vm.Alike (S.vm.noted f.method.cls y.catchType (.cls cc)) := (Vm.Alike.refl S.vm).noted _ _ _
  obtain ⟨k1, hk1⟩ := hk
  obtain ⟨k2, hk2⟩ := hc
  obtain ⟨k1', hk1', -⟩ := hA.2.2 _ _ hk1
  obtain ⟨k2', hk2', -⟩ := hA.2.2 _ _ hk2
  have hb' : (S.vm.noted f.method.cls y.catchType (.cls cc)).assignable cell.cls cc = b := by rw [hA.assignable]; exact hb
  have hobj' : ∀ k, cell.vm ≠ .statics k := fun k h => by rw [hobj] at h; cases h
  simp only [covers] at hy
  cases b <;> simp [findHandler.go, hy, h0, g1, g2, hcell, hobj', hk1', hk2', hb', VmOp.dirties, VmOp.acts]
end OH
section OF
variable {e : Env} {s : State} {f : JFrame} {a : Addr} {cell : Cell}
/-- rows that are asked in vain, then one that takes the object: where the search ends, and what the tables know then -/
theorem ow_find (hobj : cell.vm = .none) (hk : ∃ k, s.vm.classes[cell.cls]? = some k) {x : ExceptionTableEntry} {suf : List ExceptionTableEntry} (hx : covers x f.pc = true) (h0 : x.catchType ≠ 0) {cx : ClassId} (hl : s.vm.ClassLinks e.platform f.method.cls x.catchType cx) (hfit : s.vm.assignable cell.cls cx = true)
    (pre : List ExceptionTableEntry) (hpre : ∀ z ∈ pre, z.catchType ≠ 0 ∧ ∃ cz, s.vm.ClassLinks e.platform f.method.cls z.catchType cz ∧ s.vm.assignable cell.cls cz = false) (S : State) (hW : s.WarmedH S.vm) (hcell : S.heap[a]? = some cell) :
    ∃ vm', s.WarmedH vm' ∧ ∀ (Q : Handler → Pre) (E : CtlPost) (d : Bool) (acts : List Action), wp (findHandler.go f a (pre ++ x :: suf)) Q E e d acts S ↔ Q (.found x.handlerPc) d acts (S.setVm vm') := by
  have there : ∀ {vm : Vm} {i : ClassId}, s.WarmedH vm → (∃ k, s.vm.classes[i]? = some k) → ∃ k, vm.classes[i]? = some k := fun hv ⟨k, h⟩ => (hv.alike.2.2 _ _ h).elim fun k' h' => ⟨k', h'.1⟩
  have cls : ∀ {i : Nat} {cz : ClassId}, s.vm.ClassLinks e.platform f.method.cls i cz → ∃ k, s.vm.classes[cz]? = some k := fun h => by
    obtain ⟨_, _, _, kt, _, _, _, _, _, hkt, _, _⟩ := h.here
    exact ⟨kt, hkt⟩
  induction pre generalizing S with
  | nil =>
    refine ⟨_, (State.classEntry (e := e) hW hl).2.1, fun Q E d acts => ?_⟩
    rw [List.nil_append, ow_look hx h0 (hW.classLinks hl) hcell hobj (there hW hk) (there hW (cls hl)) (b := true) (by rw [hW.alike.assignable]; exact hfit)]
    simp
  | cons z zs ih =>
    obtain ⟨z0, cz, hz, hno⟩ := hpre z List.mem_cons_self
    cases hcov : covers z f.pc with
    | false =>
      obtain ⟨vm', hW', hq⟩ := ih (fun y hy => hpre y (List.mem_cons_of_mem _ hy)) S hW hcell
      exact ⟨vm', hW', fun Q E d acts => by rw [List.cons_append, W.findHandler_go_skip hcov]; exact hq Q E d acts⟩
    | true =>
      obtain ⟨vm', hW', hq⟩ := ih (fun y hy => hpre y (List.mem_cons_of_mem _ hy)) (S.setVm (S.vm.noted f.method.cls z.catchType (.cls cz))) (State.classEntry (e := e) hW hz).2.1 hcell
      refine ⟨vm', hW', fun Q E d acts => ?_⟩
      rw [List.cons_append, ow_look hcov z0 (hW.classLinks hz) hcell hobj (there hW hk) (there hW (cls hz)) (b := false) (by rw [hW.alike.assignable]; exact hno)]
      rw [if_neg Bool.false_ne_true]
      exact hq Q E d acts
end OF
section OK
variable {p : Program} {l : Launch} {e : Env} {R : Room} {s : State} {m : MethodId} {args : Array Value} {below : List Frame} {meth : Method} {c : Code} {T : State} {locs : List Loc} {cells slots : Nat}
/-- into the handler -/
theorem ow_caught (X : Stand p l e R s m args below meth c T locs cells slots) (q : Addr) {g : JFrame} (hg : g.method = m) {cell : Cell} (hcell : T.heap[q]? = some cell) (hobj : cell.vm = .none) (hk : ∃ k, s.vm.classes[cell.cls]? = some k)
    {pre suf : List ExceptionTableEntry} {x : ExceptionTableEntry} (hsplit : c.exceptionTable.toList = pre ++ x :: suf) (hpre : ∀ z ∈ pre, z.catchType ≠ 0 ∧ ∃ cz, s.vm.ClassLinks e.platform m.cls z.catchType cz ∧ s.vm.assignable cell.cls cz = false)
    (hx : covers x g.pc = true) (h0 : x.catchType ≠ 0) {cx : ClassId} (hl : s.vm.ClassLinks e.platform m.cls x.catchType cx) (hfit : s.vm.assignable cell.cls cx = true) :
    ∃ vm', Stand p l e R s m args below meth c (T.setVm vm') locs cells slots ∧ Steps p.tables e below ((T.setTop g).pushFrame (.throwing q)) ((T.setVm vm').setTop { g with pc := x.handlerPc, stack := [.ref q] }) := by
  subst hg
  obtain ⟨vm', hW', hq⟩ := ow_find (e := e) (f := g) (a := q) (suf := suf) hobj hk hx h0 hl hfit pre hpre ((T.setTop g).pushFrame (.throwing q)) (by rw [Stand.throwing_vm]; exact X.warmed) (by rw [Stand.throwing_heap]; exact hcell)
  have hfind : ∀ (Q : Handler → Pre) (E : CtlPost) (d : Bool) (acts : List Action), wp (findHandler g q) Q E e d acts ((T.setTop g).pushFrame (.throwing q)) ↔ Q (.found x.handlerPc) d acts (((T.setTop g).pushFrame (.throwing q)).setVm vm') := fun Q E d acts => by
    rw [W.findHandler_eq (meth := meth) (code := c) (by rw [Stand.throwing_vm]; exact X.method') X.code, hsplit]
    exact hq Q E d acts
  refine ⟨vm', X.noted hW', ?_⟩
  obtain ⟨go, inn⟩ := X.here.throwing q
  refine Steps.head go inn ?_
  have hstep : (stepThrowing e ((T.setTop g).pushFrame (.throwing q)) q (.java g :: below)).Is ((((T.setTop g).pushFrame (.throwing q)).setVm vm').setFrames (.java { g with pc := x.handlerPc, stack := [.ref q] } :: below)) [] := by
    simp only [stepThrowing, searchFrame, vmDo]
    generalize hr : Sem.go _ e false [] ((T.setTop g).pushFrame (.throwing q)) = res
    obtain ⟨as, rfl, ha⟩ := Sem.eq_ok_of hr (a := Handler.found x.handlerPc) (s' := ((T.setTop g).pushFrame (.throwing q)).setVm vm') (acts' := [])
      (by simp [hfind])
    exact ⟨rfl, ha⟩
  obtain ⟨g0, hfr⟩ := X.frames_eq
  have hfr2 : ((T.setTop g).pushFrame (.throwing q)).frames = .throwing q :: .java g :: below := by
    rw [frames_entered X.here.top, hfr]
    rfl
  rw [stepThread_throwing hfr2, hstep.1]
  have hend : (((T.setTop g).pushFrame (.throwing q)).setVm vm').setFrames (.java { g with pc := x.handlerPc, stack := [.ref q] } :: below) = (T.setVm vm').setTop { g with pc := x.handlerPc, stack := [.ref q] } := by
    rw [State.setTop_of_frames (s := T.setVm vm') _ (show (T.setVm vm').frames = .java g0 :: below from hfr)]
    show ((((T.setVm vm').setTop g).pushFrame (.throwing q)).setFrames _) = _
    rw [State.pushFrame, State.setFrames_setFrames, State.setTop_of_frames (s := T.setVm vm') _ (show (T.setVm vm').frames = .java g0 :: below from hfr), State.setFrames_setFrames]
  rw [hend]
  exact Steps.refl _
end OK
/-- a class that can not be cast to another: no object of it is taken there -/
theorem ow_no {A : Array Value} {u : State} {n1 n2 : String} {i1 i2 : ClassId} (h : (Cond.not (.castable n1 n2)).before A u = true) (h1 : u.vm.findClass n1 = some i1) (h2 : u.vm.findClass n2 = some i2) : u.vm.assignable i1 i2 = false := by
  have hv := Cond.holds_not_iff.mp h
  simp only [Cond.value, h1, h2] at hv
  exact Option.some.inj hv
end
section
def wT : List Cond := lw_tbl.filter goodWord
theorem wT_good : ∀ w ∈ wT, goodWord w = true := fun w h => (List.mem_filter.mp h).2
theorem wT_tbl : ∀ w ∈ wT, w ∈ lw_tbl := fun w h => (List.mem_filter.mp h).1
theorem wT_in {w : Cond} (h : w ∈ lw_tbl) (hg : goodWord w = true) : w ∈ wT := List.mem_filter.mpr ⟨h, hg⟩
theorem tb_0 : ∀ w ∈ tables_1_1, w ∈ lw_tbl := fun w h => List.mem_append_right _ (List.mem_append_left _ h)
theorem tb_1 : ∀ w ∈ tables_1_2, w ∈ lw_tbl := fun w h => List.mem_append_right _ (List.mem_append_right _ (List.mem_append_left _ h))
theorem tb_2 : ∀ w ∈ tables_1_3, w ∈ lw_tbl := fun w h => List.mem_append_right _ (List.mem_append_right _ (List.mem_append_right _ (List.mem_append_left _ h)))
theorem tb_3 : ∀ w ∈ tables_1_4, w ∈ lw_tbl := fun w h => List.mem_append_right _ (List.mem_append_right _ (List.mem_append_right _ (List.mem_append_right _ (List.mem_append_left _ h))))
theorem tb_4 : ∀ w ∈ tables_1_5, w ∈ lw_tbl := fun w h => List.mem_append_right _ (List.mem_append_right _ (List.mem_append_right _ (List.mem_append_right _ (List.mem_append_right _ (h)))))
def RN : String := "NameForge"
def TN : u_T := fun k => match k with
  | 0 => ("NameForge", "program", "LNameForge$Program;", true)
  | 1 => ("NameForge", "shape", "LNameForge$Shape;", true)
  | 2 => ("NameForge", "naming", "LNameForge$Naming;", true)
  | 3 => ("NameForge", "known", "LNameForge$Known;", true)
  | 4 => ("NameForge", "needed", "LNameForge$Needed;", true)
  | 5 => ("NameForge", "machine", "LNameForge$Machine;", true)
  | _ => ("NameForge", "built", "Z", false)
def tyN : Nat → FieldType := fun k => match k with
  | 0 => .object "NameForge$Program"
  | 1 => .object "NameForge$Shape"
  | 2 => .object "NameForge$Naming"
  | 3 => .object "NameForge$Known"
  | 4 => .object "NameForge$Needed"
  | 5 => .object "NameForge$Machine"
  | _ => .boolean
theorem nmN : ∀ a, a < 7 → ∀ b, b < 7 → a ≠ b → (TN a).2.1 ≠ (TN b).2.1 := by decide +kernel
theorem tyN_ok : ∀ k, k < 7 → parseFieldDescriptor (TN k).2.2.1 = some (tyN k) := by decide +kernel
def RP : String := "NameForge$Program"
def TP : u_T := fun k => match k with
  | 0 => ("NameForge$Program", "blocks", "I", false)
  | 1 => ("NameForge$Program", "length", "[I", true)
  | 2 => ("NameForge$Program", "kind", "[[I", true)
  | 3 => ("NameForge$Program", "d", "[[I", true)
  | 4 => ("NameForge$Program", "x", "[[I", true)
  | 5 => ("NameForge$Program", "y", "[[I", true)
  | 6 => ("NameForge$Program", "end", "[I", true)
  | 7 => ("NameForge$Program", "test", "[I", true)
  | 8 => ("NameForge$Program", "yes", "[I", true)
  | _ => ("NameForge$Program", "no", "[I", true)
def tyP : Nat → FieldType := fun k => match k with
  | 0 => .int
  | 1 => .array .int
  | 2 => .array (.array .int)
  | 3 => .array (.array .int)
  | 4 => .array (.array .int)
  | 5 => .array (.array .int)
  | 6 => .array .int
  | 7 => .array .int
  | 8 => .array .int
  | _ => .array .int
theorem nmP : ∀ a, a < 10 → ∀ b, b < 10 → a ≠ b → (TP a).2.1 ≠ (TP b).2.1 := by decide +kernel
theorem tyP_ok : ∀ k, k < 10 → parseFieldDescriptor (TP k).2.2.1 = some (tyP k) := by decide +kernel
def RS : String := "NameForge$Shape"
def TS : u_T := fun k => match k with
  | 0 => ("NameForge$Shape", "program", "LNameForge$Program;", true)
  | 1 => ("NameForge$Shape", "reached", "I", false)
  | 2 => ("NameForge$Shape", "before", "[I", true)
  | 3 => ("NameForge$Shape", "under", "[I", true)
  | 4 => ("NameForge$Shape", "parent", "[I", true)
  | 5 => ("NameForge$Shape", "frontier", "[I", true)
  | 6 => ("NameForge$Shape", "order", "[I", true)
  | 7 => ("NameForge$Shape", "ordered", "I", false)
  | _ => ("NameForge$Shape", "waiting", "[I", true)
def tyS : Nat → FieldType := fun k => match k with
  | 0 => .object "NameForge$Program"
  | 1 => .int
  | 2 => .array .int
  | 3 => .array .int
  | 4 => .array .int
  | 5 => .array .int
  | 6 => .array .int
  | 7 => .int
  | _ => .array .int
theorem nmS : ∀ a, a < 9 → ∀ b, b < 9 → a ≠ b → (TS a).2.1 ≠ (TS b).2.1 := by decide +kernel
theorem tyS_ok : ∀ k, k < 9 → parseFieldDescriptor (TS k).2.2.1 = some (tyS k) := by decide +kernel
def RG : String := "NameForge$Naming"
def TG : u_T := fun k => match k with
  | 0 => ("NameForge$Naming", "program", "LNameForge$Program;", true)
  | 1 => ("NameForge$Naming", "shape", "LNameForge$Shape;", true)
  | 2 => ("NameForge$Naming", "names", "I", false)
  | 3 => ("NameForge$Naming", "phis", "[I", true)
  | 4 => ("NameForge$Naming", "defined", "[I", true)
  | 5 => ("NameForge$Naming", "phiName", "[[I", true)
  | 6 => ("NameForge$Naming", "atEnd", "[[I", true)
  | 7 => ("NameForge$Naming", "made", "[[I", true)
  | 8 => ("NameForge$Naming", "usedX", "[[I", true)
  | 9 => ("NameForge$Naming", "usedY", "[[I", true)
  | 10 => ("NameForge$Naming", "tested", "[I", true)
  | 11 => ("NameForge$Naming", "home", "[I", true)
  | 12 => ("NameForge$Naming", "row", "[I", true)
  | _ => ("NameForge$Naming", "variable", "[I", true)
def tyG : Nat → FieldType := fun k => match k with
  | 0 => .object "NameForge$Program"
  | 1 => .object "NameForge$Shape"
  | 2 => .int
  | 3 => .array .int
  | 4 => .array .int
  | 5 => .array (.array .int)
  | 6 => .array (.array .int)
  | 7 => .array (.array .int)
  | 8 => .array (.array .int)
  | 9 => .array (.array .int)
  | 10 => .array .int
  | 11 => .array .int
  | 12 => .array .int
  | _ => .array .int
theorem nmG : ∀ a, a < 14 → ∀ b, b < 14 → a ≠ b → (TG a).2.1 ≠ (TG b).2.1 := by decide +kernel
theorem tyG_ok : ∀ k, k < 14 → parseFieldDescriptor (TG k).2.2.1 = some (tyG k) := by decide +kernel
def RK : String := "NameForge$Known"
def TK : u_T := fun k => match k with
  | 0 => ("NameForge$Known", "program", "LNameForge$Program;", true)
  | 1 => ("NameForge$Known", "shape", "LNameForge$Shape;", true)
  | 2 => ("NameForge$Known", "naming", "LNameForge$Naming;", true)
  | 3 => ("NameForge$Known", "comeTo", "I", false)
  | 4 => ("NameForge$Known", "taken", "[I", true)
  | 5 => ("NameForge$Known", "state", "[I", true)
  | 6 => ("NameForge$Known", "number", "[I", true)
  | _ => ("NameForge$Known", "changed", "Z", false)
def tyK : Nat → FieldType := fun k => match k with
  | 0 => .object "NameForge$Program"
  | 1 => .object "NameForge$Shape"
  | 2 => .object "NameForge$Naming"
  | 3 => .int
  | 4 => .array .int
  | 5 => .array .int
  | 6 => .array .int
  | _ => .boolean
theorem nmK : ∀ a, a < 8 → ∀ b, b < 8 → a ≠ b → (TK a).2.1 ≠ (TK b).2.1 := by decide +kernel
theorem tyK_ok : ∀ k, k < 8 → parseFieldDescriptor (TK k).2.2.1 = some (tyK k) := by decide +kernel
def RD : String := "NameForge$Needed"
def TD : u_T := fun k => match k with
  | 0 => ("NameForge$Needed", "program", "LNameForge$Program;", true)
  | 1 => ("NameForge$Needed", "naming", "LNameForge$Naming;", true)
  | 2 => ("NameForge$Needed", "known", "LNameForge$Known;", true)
  | 3 => ("NameForge$Needed", "isNeeded", "[Z", true)
  | 4 => ("NameForge$Needed", "list", "[I", true)
  | _ => ("NameForge$Needed", "listed", "I", false)
def tyD : Nat → FieldType := fun k => match k with
  | 0 => .object "NameForge$Program"
  | 1 => .object "NameForge$Naming"
  | 2 => .object "NameForge$Known"
  | 3 => .array .boolean
  | 4 => .array .int
  | _ => .int
theorem nmD : ∀ a, a < 6 → ∀ b, b < 6 → a ≠ b → (TD a).2.1 ≠ (TD b).2.1 := by decide +kernel
theorem tyD_ok : ∀ k, k < 6 → parseFieldDescriptor (TD k).2.2.1 = some (tyD k) := by decide +kernel
def RA : String := "NameForge$Machine"
def TA : u_T := fun k => match k with
  | 0 => ("NameForge$Machine", "program", "LNameForge$Program;", true)
  | 1 => ("NameForge$Machine", "naming", "LNameForge$Naming;", true)
  | 2 => ("NameForge$Machine", "known", "LNameForge$Known;", true)
  | 3 => ("NameForge$Machine", "needed", "LNameForge$Needed;", true)
  | 4 => ("NameForge$Machine", "inputs", "I", false)
  | 5 => ("NameForge$Machine", "input", "[I", true)
  | 6 => ("NameForge$Machine", "ofVariable", "[I", true)
  | 7 => ("NameForge$Machine", "ofName", "[I", true)
  | 8 => ("NameForge$Machine", "chosen", "[I", true)
  | 9 => ("NameForge$Machine", "tellings", "I", false)
  | 10 => ("NameForge$Machine", "kept", "[I", true)
  | 11 => ("NameForge$Machine", "blocksRun", "I", false)
  | 12 => ("NameForge$Machine", "instructionsDone", "I", false)
  | _ => ("NameForge$Machine", "inputsAsked", "I", false)
def tyA : Nat → FieldType := fun k => match k with
  | 0 => .object "NameForge$Program"
  | 1 => .object "NameForge$Naming"
  | 2 => .object "NameForge$Known"
  | 3 => .object "NameForge$Needed"
  | 4 => .int
  | 5 => .array .int
  | 6 => .array .int
  | 7 => .array .int
  | 8 => .array .int
  | 9 => .int
  | 10 => .array .int
  | 11 => .int
  | 12 => .int
  | _ => .int
theorem nmA : ∀ a, a < 14 → ∀ b, b < 14 → a ≠ b → (TA a).2.1 ≠ (TA b).2.1 := by decide +kernel
theorem tyA_ok : ∀ k, k < 14 → parseFieldDescriptor (TA k).2.2.1 = some (tyA k) := by decide +kernel
def RR : String := "NameForgeModel"
def TR : u_T := fun k => match k with
  | 0 => ("NameForgeModel", "thrown", "I", false)
  | 1 => ("NameForgeModel", "blocks", "I", false)
  | 2 => ("NameForgeModel", "counts", "[I", true)
  | 3 => ("NameForgeModel", "kinds", "[I", true)
  | 4 => ("NameForgeModel", "targets", "[I", true)
  | 5 => ("NameForgeModel", "firsts", "[I", true)
  | 6 => ("NameForgeModel", "seconds", "[I", true)
  | 7 => ("NameForgeModel", "ends", "[I", true)
  | 8 => ("NameForgeModel", "tests", "[I", true)
  | 9 => ("NameForgeModel", "thens", "[I", true)
  | 10 => ("NameForgeModel", "elses", "[I", true)
  | 11 => ("NameForgeModel", "built", "Z", false)
  | 12 => ("NameForgeModel", "reached", "I", false)
  | 13 => ("NameForgeModel", "over", "[I", true)
  | 14 => ("NameForgeModel", "before", "[I", true)
  | 15 => ("NameForgeModel", "parent", "[I", true)
  | 16 => ("NameForgeModel", "phis", "[I", true)
  | 17 => ("NameForgeModel", "names", "I", false)
  | 18 => ("NameForgeModel", "blockOf", "[I", true)
  | 19 => ("NameForgeModel", "madeBy", "[I", true)
  | 20 => ("NameForgeModel", "phiName", "[I", true)
  | 21 => ("NameForgeModel", "sets", "[I", true)
  | 22 => ("NameForgeModel", "usesX", "[I", true)
  | 23 => ("NameForgeModel", "usesY", "[I", true)
  | 24 => ("NameForgeModel", "testName", "[I", true)
  | 25 => ("NameForgeModel", "atEnd", "[I", true)
  | 26 => ("NameForgeModel", "walk", "[I", true)
  | 27 => ("NameForgeModel", "comeTo", "I", false)
  | 28 => ("NameForgeModel", "taken", "[I", true)
  | 29 => ("NameForgeModel", "state", "[I", true)
  | 30 => ("NameForgeModel", "number", "[I", true)
  | 31 => ("NameForgeModel", "needed", "[Z", true)
  | 32 => ("NameForgeModel", "given", "I", false)
  | 33 => ("NameForgeModel", "input", "[I", true)
  | 34 => ("NameForgeModel", "asked", "I", false)
  | 35 => ("NameForgeModel", "told", "I", false)
  | 36 => ("NameForgeModel", "heard", "[I", true)
  | 37 => ("NameForgeModel", "ran", "I", false)
  | 38 => ("NameForgeModel", "done", "I", false)
  | 39 => ("NameForgeModel", "now", "[I", true)
  | _ => ("NameForgeModel", "next", "[I", true)
def tyR : Nat → FieldType := fun k => match k with
  | 0 => .int
  | 1 => .int
  | 2 => .array .int
  | 3 => .array .int
  | 4 => .array .int
  | 5 => .array .int
  | 6 => .array .int
  | 7 => .array .int
  | 8 => .array .int
  | 9 => .array .int
  | 10 => .array .int
  | 11 => .boolean
  | 12 => .int
  | 13 => .array .int
  | 14 => .array .int
  | 15 => .array .int
  | 16 => .array .int
  | 17 => .int
  | 18 => .array .int
  | 19 => .array .int
  | 20 => .array .int
  | 21 => .array .int
  | 22 => .array .int
  | 23 => .array .int
  | 24 => .array .int
  | 25 => .array .int
  | 26 => .array .int
  | 27 => .int
  | 28 => .array .int
  | 29 => .array .int
  | 30 => .array .int
  | 31 => .array .boolean
  | 32 => .int
  | 33 => .array .int
  | 34 => .int
  | 35 => .int
  | 36 => .array .int
  | 37 => .int
  | 38 => .int
  | 39 => .array .int
  | _ => .array .int
theorem nmR : ∀ a, a < 41 → ∀ b, b < 41 → a ≠ b → (TR a).2.1 ≠ (TR b).2.1 := by decide +kernel
theorem tyR_ok : ∀ k, k < 41 → parseFieldDescriptor (TR k).2.2.1 = some (tyR k) := by decide +kernel
abbrev vCl : List vw_C := [(RN, TN, 7), (RP, TP, 10), (RS, TS, 9), (RG, TG, 14), (RK, TK, 8), (RD, TD, 6), (RA, TA, 14), (RR, TR, 41)]
abbrev b_N_init : ByteArray := prog_1_method_1_code
def y_N_init : MethodName := ⟨"NameForge", "<init>", "()V"⟩
abbrev b_N_block : ByteArray := prog_1_method_2_code
def y_N_block : MethodName := ⟨"NameForge", "block", "()I"⟩
abbrev b_N_put : ByteArray := prog_1_method_3_code
def y_N_put : MethodName := ⟨"NameForge", "put", "(IIIII)I"⟩
abbrev b_N_go : ByteArray := prog_1_method_4_code
def y_N_go : MethodName := ⟨"NameForge", "go", "(II)V"⟩
abbrev b_N_fork : ByteArray := prog_1_method_5_code
def y_N_fork : MethodName := ⟨"NameForge", "fork", "(IIII)V"⟩
abbrev b_N_stop : ByteArray := prog_1_method_6_code
def y_N_stop : MethodName := ⟨"NameForge", "stop", "(I)V"⟩
abbrev b_N_clear : ByteArray := prog_1_method_7_code
def y_N_clear : MethodName := ⟨"NameForge", "clear", "()V"⟩
abbrev b_N_build : ByteArray := prog_1_method_8_code
def y_N_build : MethodName := ⟨"NameForge", "build", "()I"⟩
abbrev b_N_look : ByteArray := prog_1_method_9_code
def y_N_look : MethodName := ⟨"NameForge", "look", "(II)I"⟩
abbrev b_N_phi : ByteArray := prog_1_method_10_code
def y_N_phi : MethodName := ⟨"NameForge", "phi", "(III)I"⟩
abbrev b_N_uses : ByteArray := prog_1_method_11_code
def y_N_uses : MethodName := ⟨"NameForge", "uses", "(III)I"⟩
abbrev b_N_name : ByteArray := prog_1_method_12_code
def y_N_name : MethodName := ⟨"NameForge", "name", "(II)I"⟩
abbrev b_N_give : ByteArray := prog_1_method_13_code
def y_N_give : MethodName := ⟨"NameForge", "give", "(I)Z"⟩
abbrev b_N_take : ByteArray := prog_1_method_14_code
def y_N_take : MethodName := ⟨"NameForge", "take", "()V"⟩
abbrev b_N_run : ByteArray := prog_1_method_15_code
def y_N_run : MethodName := ⟨"NameForge", "run", "(ZI)I"⟩
abbrev b_N_told : ByteArray := prog_1_method_16_code
def y_N_told : MethodName := ⟨"NameForge", "told", "()I"⟩
abbrev b_N_heard : ByteArray := prog_1_method_17_code
def y_N_heard : MethodName := ⟨"NameForge", "heard", "(I)I"⟩
abbrev b_N_spent : ByteArray := prog_1_method_18_code
def y_N_spent : MethodName := ⟨"NameForge", "spent", "(I)I"⟩
abbrev b_R_init : ByteArray := prog_9_method_1_code
def y_R_init : MethodName := ⟨"NameForgeModel", "<init>", "()V"⟩
abbrev b_R_thrown : ByteArray := prog_9_method_2_code
def y_R_thrown : MethodName := ⟨"NameForgeModel", "thrown", "()I"⟩
abbrev b_R_fails : ByteArray := prog_9_method_3_code
def y_R_fails : MethodName := ⟨"NameForgeModel", "fails", "(ZI)Z"⟩
abbrev b_R_noBlock : ByteArray := prog_9_method_4_code
def y_R_noBlock : MethodName := ⟨"NameForgeModel", "noBlock", "(I)Z"⟩
abbrev b_R_block : ByteArray := prog_9_method_9_code
def y_R_block : MethodName := ⟨"NameForgeModel", "block", "()I"⟩
abbrev b_R_put : ByteArray := prog_9_method_10_code
def y_R_put : MethodName := ⟨"NameForgeModel", "put", "(IIIII)I"⟩
abbrev b_R_go : ByteArray := prog_9_method_12_code
def y_R_go : MethodName := ⟨"NameForgeModel", "go", "(II)V"⟩
abbrev b_R_fork : ByteArray := prog_9_method_13_code
def y_R_fork : MethodName := ⟨"NameForgeModel", "fork", "(IIII)V"⟩
abbrev b_R_stop : ByteArray := prog_9_method_14_code
def y_R_stop : MethodName := ⟨"NameForgeModel", "stop", "(I)V"⟩
abbrev b_R_clear : ByteArray := prog_9_method_15_code
def y_R_clear : MethodName := ⟨"NameForgeModel", "clear", "()V"⟩
abbrev b_R_build : ByteArray := prog_9_method_37_code
def y_R_build : MethodName := ⟨"NameForgeModel", "build", "()I"⟩
abbrev b_R_look : ByteArray := prog_9_method_38_code
def y_R_look : MethodName := ⟨"NameForgeModel", "look", "(II)I"⟩
abbrev b_R_phi : ByteArray := prog_9_method_40_code
def y_R_phi : MethodName := ⟨"NameForgeModel", "phi", "(III)I"⟩
abbrev b_R_uses : ByteArray := prog_9_method_41_code
def y_R_uses : MethodName := ⟨"NameForgeModel", "uses", "(III)I"⟩
abbrev b_R_name : ByteArray := prog_9_method_42_code
def y_R_name : MethodName := ⟨"NameForgeModel", "name", "(II)I"⟩
abbrev b_R_give : ByteArray := prog_9_method_43_code
def y_R_give : MethodName := ⟨"NameForgeModel", "give", "(I)Z"⟩
abbrev b_R_take : ByteArray := prog_9_method_44_code
def y_R_take : MethodName := ⟨"NameForgeModel", "take", "()V"⟩
abbrev b_R_run : ByteArray := prog_9_method_52_code
def y_R_run : MethodName := ⟨"NameForgeModel", "run", "(ZI)I"⟩
abbrev b_R_told : ByteArray := prog_9_method_53_code
def y_R_told : MethodName := ⟨"NameForgeModel", "told", "()I"⟩
abbrev b_R_heard : ByteArray := prog_9_method_54_code
def y_R_heard : MethodName := ⟨"NameForgeModel", "heard", "(I)I"⟩
abbrev b_R_spent : ByteArray := prog_9_method_55_code
def y_R_spent : MethodName := ⟨"NameForgeModel", "spent", "(I)I"⟩
abbrev b_K_init : ByteArray := prog_2_method_1_code
def y_K_init : MethodName := ⟨"NameForge$Known", "<init>", "(LNameForge$Program;LNameForge$Shape;LNameForge$Naming;)V"⟩
abbrev b_A_init : ByteArray := prog_3_method_1_code
def y_A_init : MethodName := ⟨"NameForge$Machine", "<init>", "(LNameForge$Program;LNameForge$Naming;LNameForge$Known;LNameForge$Needed;)V"⟩
abbrev b_A_addInput : ByteArray := prog_3_method_2_code
def y_A_addInput : MethodName := ⟨"NameForge$Machine", "addInput", "(I)Z"⟩
abbrev b_G_init : ByteArray := prog_4_method_1_code
def y_G_init : MethodName := ⟨"NameForge$Naming", "<init>", "(LNameForge$Program;LNameForge$Shape;)V"⟩
abbrev b_D_init : ByteArray := prog_5_method_1_code
def y_D_init : MethodName := ⟨"NameForge$Needed", "<init>", "(LNameForge$Program;LNameForge$Naming;LNameForge$Known;)V"⟩
abbrev b_P_init : ByteArray := prog_6_method_1_code
def y_P_init : MethodName := ⟨"NameForge$Program", "<init>", "()V"⟩
abbrev b_P_has : ByteArray := prog_6_method_2_code
def y_P_has : MethodName := ⟨"NameForge$Program", "has", "(I)Z"⟩
abbrev b_P_addBlock : ByteArray := prog_6_method_4_code
def y_P_addBlock : MethodName := ⟨"NameForge$Program", "addBlock", "()I"⟩
abbrev b_P_setEnd : ByteArray := prog_6_method_6_code
def y_P_setEnd : MethodName := ⟨"NameForge$Program", "setEnd", "(IIIII)V"⟩
abbrev b_S_init : ByteArray := prog_7_method_1_code
def y_S_init : MethodName := ⟨"NameForge$Shape", "<init>", "(LNameForge$Program;)V"⟩
abbrev b_L_block : ByteArray := method_3_code
def y_L_block : MethodName := ⟨"NameForgeLaw", "block", "(LNameForge;[J)I"⟩
abbrev b_L_put : ByteArray := method_4_code
def y_L_put : MethodName := ⟨"NameForgeLaw", "put", "(LNameForge;IIIII[J)I"⟩
abbrev b_L_go : ByteArray := method_5_code
def y_L_go : MethodName := ⟨"NameForgeLaw", "go", "(LNameForge;II)I"⟩
abbrev b_L_fork : ByteArray := method_6_code
def y_L_fork : MethodName := ⟨"NameForgeLaw", "fork", "(LNameForge;IIII)I"⟩
abbrev b_L_stop : ByteArray := method_7_code
def y_L_stop : MethodName := ⟨"NameForgeLaw", "stop", "(LNameForge;I)I"⟩
abbrev b_L_build : ByteArray := method_8_code
def y_L_build : MethodName := ⟨"NameForgeLaw", "build", "(LNameForge;[J)I"⟩
abbrev b_L_look : ByteArray := method_9_code
def y_L_look : MethodName := ⟨"NameForgeLaw", "look", "(LNameForge;II[J)I"⟩
abbrev b_L_phi : ByteArray := method_10_code
def y_L_phi : MethodName := ⟨"NameForgeLaw", "phi", "(LNameForge;III[J)I"⟩
abbrev b_L_uses : ByteArray := method_11_code
def y_L_uses : MethodName := ⟨"NameForgeLaw", "uses", "(LNameForge;III[J)I"⟩
abbrev b_L_name : ByteArray := method_12_code
def y_L_name : MethodName := ⟨"NameForgeLaw", "name", "(LNameForge;II[J)I"⟩
abbrev b_L_run : ByteArray := method_13_code
def y_L_run : MethodName := ⟨"NameForgeLaw", "run", "(LNameForge;ZI[J)I"⟩
abbrev b_L_heard : ByteArray := method_14_code
def y_L_heard : MethodName := ⟨"NameForgeLaw", "heard", "(LNameForge;I[J)I"⟩
theorem wd_0 : (.initialized "NameForgeLaw" : Cond) ∈ wT := wT_in (tb_0 _ (List.mem_of_getElem? (i := 0) (by decide +kernel))) rfl
theorem wd_1 : (.initialized "NameForge" : Cond) ∈ wT := wT_in (tb_0 _ (List.mem_of_getElem? (i := 1) (by decide +kernel))) rfl
theorem wd_2 : (.initialized "NameForge$Program" : Cond) ∈ wT := wT_in (tb_0 _ (List.mem_of_getElem? (i := 2) (by decide +kernel))) rfl
theorem wd_3 : (.initialized "NameForge$Shape" : Cond) ∈ wT := wT_in (tb_0 _ (List.mem_of_getElem? (i := 3) (by decide +kernel))) rfl
theorem wd_4 : (.initialized "NameForge$Naming" : Cond) ∈ wT := wT_in (tb_0 _ (List.mem_of_getElem? (i := 4) (by decide +kernel))) rfl
theorem wd_5 : (.initialized "NameForge$Known" : Cond) ∈ wT := wT_in (tb_0 _ (List.mem_of_getElem? (i := 5) (by decide +kernel))) rfl
theorem wd_6 : (.initialized "NameForge$Needed" : Cond) ∈ wT := wT_in (tb_0 _ (List.mem_of_getElem? (i := 6) (by decide +kernel))) rfl
theorem wd_7 : (.initialized "NameForge$Machine" : Cond) ∈ wT := wT_in (tb_0 _ (List.mem_of_getElem? (i := 7) (by decide +kernel))) rfl
theorem wd_8 : (.initialized "NameForgeModel" : Cond) ∈ wT := wT_in (tb_0 _ (List.mem_of_getElem? (i := 8) (by decide +kernel))) rfl
theorem wd_12 : (.initialized "java/lang/IllegalStateException" : Cond) ∈ wT := wT_in (tb_0 _ (List.mem_of_getElem? (i := 12) (by decide +kernel))) rfl
theorem wd_13 : (.initialized "java/lang/IllegalArgumentException" : Cond) ∈ wT := wT_in (tb_0 _ (List.mem_of_getElem? (i := 13) (by decide +kernel))) rfl
theorem wd_15 : (.initialized "java/util/NoSuchElementException" : Cond) ∈ wT := wT_in (tb_0 _ (List.mem_of_getElem? (i := 15) (by decide +kernel))) rfl
theorem wd_17 : (.classLink "NameForgeLaw" 8 "NameForge" : Cond) ∈ wT := wT_in (tb_0 _ (List.mem_of_getElem? (i := 17) (by decide +kernel))) rfl
theorem wd_18 : (.instantiable "NameForge" 7 : Cond) ∈ wT := wT_in (tb_0 _ (List.mem_of_getElem? (i := 18) (by decide +kernel))) rfl
theorem wd_19 : (.methodLink "NameForgeLaw" 60 ⟨"NameForge", "<init>", "()V"⟩ : Cond) ∈ wT := wT_in (tb_0 _ (List.mem_of_getElem? (i := 19) (by decide +kernel))) rfl
theorem wd_20 : (.instanceMethod ⟨"NameForge", "<init>", "()V"⟩ : Cond) ∈ wT := wT_in (tb_0 _ (List.mem_of_getElem? (i := 20) (by decide +kernel))) rfl
theorem wd_21 : (.code ⟨"NameForge", "<init>", "()V"⟩ prog_1_method_1_code 1 none : Cond) ∈ wT := wT_in (tb_0 _ (List.mem_of_getElem? (i := 21) (by decide +kernel))) rfl
theorem wd_22 : (.methodLink "NameForge" 3 ⟨"java/lang/Object", "<init>", "()V"⟩ : Cond) ∈ wT := wT_in (tb_0 _ (List.mem_of_getElem? (i := 22) (by decide +kernel))) rfl
theorem wd_23 : (.instanceMethod ⟨"java/lang/Object", "<init>", "()V"⟩ : Cond) ∈ wT := wT_in (tb_0 _ (List.mem_of_getElem? (i := 23) (by decide +kernel))) rfl
theorem wd_24 : (.code ⟨"java/lang/Object", "<init>", "()V"⟩ object_method_1_code 1 none : Cond) ∈ wT := wT_in (tb_0 _ (List.mem_of_getElem? (i := 24) (by decide +kernel))) rfl
theorem wd_25 : (.classLink "NameForge" 9 "NameForge$Program" : Cond) ∈ wT := wT_in (tb_0 _ (List.mem_of_getElem? (i := 25) (by decide +kernel))) rfl
theorem wd_26 : (.instantiable "NameForge$Program" 10 : Cond) ∈ wT := wT_in (tb_0 _ (List.mem_of_getElem? (i := 26) (by decide +kernel))) rfl
theorem wz_27 : (.methodLinkNest "NameForge" 11 ⟨"NameForge$Program", "<init>", "()V"⟩ "NameForge" : Cond) ∈ lw_tbl := tb_0 _ (List.mem_of_getElem? (i := 27) (by decide +kernel))
theorem wd_28 : (.instanceMethod ⟨"NameForge$Program", "<init>", "()V"⟩ : Cond) ∈ wT := wT_in (tb_0 _ (List.mem_of_getElem? (i := 28) (by decide +kernel))) rfl
theorem wd_29 : (.code ⟨"NameForge$Program", "<init>", "()V"⟩ prog_6_method_1_code 1 none : Cond) ∈ wT := wT_in (tb_0 _ (List.mem_of_getElem? (i := 29) (by decide +kernel))) rfl
theorem wd_30 : (.methodLink "NameForge$Program" 3 ⟨"java/lang/Object", "<init>", "()V"⟩ : Cond) ∈ wT := wT_in (tb_0 _ (List.mem_of_getElem? (i := 30) (by decide +kernel))) rfl
theorem wd_31 : (.classLink "NameForge$Program" 15 "[[I" : Cond) ∈ wT := wT_in (tb_0 _ (List.mem_of_getElem? (i := 31) (by decide +kernel))) rfl
theorem wz_32 : (.arrayOver (.array .int) : Cond) ∈ lw_tbl := tb_0 _ (List.mem_of_getElem? (i := 32) (by decide +kernel))
theorem wd_33 : (.fieldLink "NameForge" 65 "NameForge$Program" "blocks" "I" : Cond) ∈ wT := wT_in (tb_0 _ (List.mem_of_getElem? (i := 33) (by decide +kernel))) rfl
theorem wd_34 : (.fieldLink "NameForge$Program" 41 "NameForge$Program" "blocks" "I" : Cond) ∈ wT := wT_in (tb_0 _ (List.mem_of_getElem? (i := 34) (by decide +kernel))) rfl
theorem wd_39 : (.fieldLink "NameForge$Program" 9 "NameForge$Program" "length" "[I" : Cond) ∈ wT := wT_in (tb_0 _ (List.mem_of_getElem? (i := 39) (by decide +kernel))) rfl
theorem wd_45 : (.fieldLink "NameForge$Program" 17 "NameForge$Program" "kind" "[[I" : Cond) ∈ wT := wT_in (tb_0 _ (List.mem_of_getElem? (i := 45) (by decide +kernel))) rfl
theorem wd_50 : (.fieldLink "NameForge$Program" 20 "NameForge$Program" "d" "[[I" : Cond) ∈ wT := wT_in (tb_0 _ (List.mem_of_getElem? (i := 50) (by decide +kernel))) rfl
theorem wd_53 : (.fieldLink "NameForge$Program" 23 "NameForge$Program" "x" "[[I" : Cond) ∈ wT := wT_in (tb_0 _ (List.mem_of_getElem? (i := 53) (by decide +kernel))) rfl
theorem wd_57 : (.fieldLink "NameForge$Program" 26 "NameForge$Program" "y" "[[I" : Cond) ∈ wT := wT_in (tb_0 _ (List.mem_of_getElem? (i := 57) (by decide +kernel))) rfl
theorem wd_60 : (.fieldLink "NameForge$Program" 29 "NameForge$Program" "end" "[I" : Cond) ∈ wT := wT_in (tb_0 _ (List.mem_of_getElem? (i := 60) (by decide +kernel))) rfl
theorem wd_63 : (.fieldLink "NameForge$Program" 32 "NameForge$Program" "test" "[I" : Cond) ∈ wT := wT_in (tb_0 _ (List.mem_of_getElem? (i := 63) (by decide +kernel))) rfl
theorem wd_66 : (.fieldLink "NameForge$Program" 35 "NameForge$Program" "yes" "[I" : Cond) ∈ wT := wT_in (tb_0 _ (List.mem_of_getElem? (i := 66) (by decide +kernel))) rfl
theorem wd_69 : (.fieldLink "NameForge$Program" 38 "NameForge$Program" "no" "[I" : Cond) ∈ wT := wT_in (tb_0 _ (List.mem_of_getElem? (i := 69) (by decide +kernel))) rfl
theorem wd_72 : (.lays "NameForge$Program" "NameForge$Program" "blocks" "I" : Cond) ∈ wT := wT_in (tb_0 _ (List.mem_of_getElem? (i := 72) (by decide +kernel))) rfl
theorem wd_74 : (.laysFinal "NameForge$Program" "NameForge$Program" "length" "[I" : Cond) ∈ wT := wT_in (tb_0 _ (List.mem_of_getElem? (i := 74) (by decide +kernel))) rfl
theorem wd_76 : (.laysFinal "NameForge$Program" "NameForge$Program" "kind" "[[I" : Cond) ∈ wT := wT_in (tb_0 _ (List.mem_of_getElem? (i := 76) (by decide +kernel))) rfl
theorem wd_78 : (.laysFinal "NameForge$Program" "NameForge$Program" "d" "[[I" : Cond) ∈ wT := wT_in (tb_0 _ (List.mem_of_getElem? (i := 78) (by decide +kernel))) rfl
theorem wd_80 : (.laysFinal "NameForge$Program" "NameForge$Program" "x" "[[I" : Cond) ∈ wT := wT_in (tb_0 _ (List.mem_of_getElem? (i := 80) (by decide +kernel))) rfl
theorem wd_82 : (.laysFinal "NameForge$Program" "NameForge$Program" "y" "[[I" : Cond) ∈ wT := wT_in (tb_0 _ (List.mem_of_getElem? (i := 82) (by decide +kernel))) rfl
theorem wd_84 : (.laysFinal "NameForge$Program" "NameForge$Program" "end" "[I" : Cond) ∈ wT := wT_in (tb_0 _ (List.mem_of_getElem? (i := 84) (by decide +kernel))) rfl
theorem wd_86 : (.laysFinal "NameForge$Program" "NameForge$Program" "test" "[I" : Cond) ∈ wT := wT_in (tb_0 _ (List.mem_of_getElem? (i := 86) (by decide +kernel))) rfl
theorem wd_88 : (.laysFinal "NameForge$Program" "NameForge$Program" "yes" "[I" : Cond) ∈ wT := wT_in (tb_0 _ (List.mem_of_getElem? (i := 88) (by decide +kernel))) rfl
theorem wd_90 : (.laysFinal "NameForge$Program" "NameForge$Program" "no" "[I" : Cond) ∈ wT := wT_in (tb_0 _ (List.mem_of_getElem? (i := 90) (by decide +kernel))) rfl
theorem wd_93 : (.arrayClass .int : Cond) ∈ wT := wT_in (tb_0 _ (List.mem_of_getElem? (i := 93) (by decide +kernel))) rfl
theorem wd_94 : (.classLink "NameForge" 16 "NameForge$Shape" : Cond) ∈ wT := wT_in (tb_0 _ (List.mem_of_getElem? (i := 94) (by decide +kernel))) rfl
theorem wd_95 : (.instantiable "NameForge$Shape" 9 : Cond) ∈ wT := wT_in (tb_0 _ (List.mem_of_getElem? (i := 95) (by decide +kernel))) rfl
theorem wd_96 : (.methodLink "NameForge" 18 ⟨"NameForge$Shape", "<init>", "(LNameForge$Program;)V"⟩ : Cond) ∈ wT := wT_in (tb_0 _ (List.mem_of_getElem? (i := 96) (by decide +kernel))) rfl
theorem wd_97 : (.instanceMethod ⟨"NameForge$Shape", "<init>", "(LNameForge$Program;)V"⟩ : Cond) ∈ wT := wT_in (tb_0 _ (List.mem_of_getElem? (i := 97) (by decide +kernel))) rfl
theorem wd_98 : (.code ⟨"NameForge$Shape", "<init>", "(LNameForge$Program;)V"⟩ prog_7_method_1_code 2 none : Cond) ∈ wT := wT_in (tb_0 _ (List.mem_of_getElem? (i := 98) (by decide +kernel))) rfl
theorem wd_99 : (.methodLink "NameForge$Shape" 3 ⟨"java/lang/Object", "<init>", "()V"⟩ : Cond) ∈ wT := wT_in (tb_0 _ (List.mem_of_getElem? (i := 99) (by decide +kernel))) rfl
theorem wd_100 : (.fieldLink "NameForge$Shape" 30 "NameForge$Shape" "program" "LNameForge$Program;" : Cond) ∈ wT := wT_in (tb_0 _ (List.mem_of_getElem? (i := 100) (by decide +kernel))) rfl
theorem wd_103 : (.fieldLink "NameForge$Shape" 9 "NameForge$Shape" "before" "[I" : Cond) ∈ wT := wT_in (tb_0 _ (List.mem_of_getElem? (i := 103) (by decide +kernel))) rfl
theorem wd_105 : (.fieldLink "NameForge$Shape" 15 "NameForge$Shape" "under" "[I" : Cond) ∈ wT := wT_in (tb_0 _ (List.mem_of_getElem? (i := 105) (by decide +kernel))) rfl
theorem wd_106 : (.fieldLink "NameForge$Shape" 18 "NameForge$Shape" "parent" "[I" : Cond) ∈ wT := wT_in (tb_0 _ (List.mem_of_getElem? (i := 106) (by decide +kernel))) rfl
theorem wd_109 : (.fieldLink "NameForge$Shape" 21 "NameForge$Shape" "frontier" "[I" : Cond) ∈ wT := wT_in (tb_0 _ (List.mem_of_getElem? (i := 109) (by decide +kernel))) rfl
theorem wd_111 : (.fieldLink "NameForge$Shape" 24 "NameForge$Shape" "order" "[I" : Cond) ∈ wT := wT_in (tb_0 _ (List.mem_of_getElem? (i := 111) (by decide +kernel))) rfl
theorem wd_117 : (.fieldLink "NameForge$Shape" 27 "NameForge$Shape" "waiting" "[I" : Cond) ∈ wT := wT_in (tb_0 _ (List.mem_of_getElem? (i := 117) (by decide +kernel))) rfl
theorem wd_118 : (.laysFinal "NameForge$Shape" "NameForge$Shape" "program" "LNameForge$Program;" : Cond) ∈ wT := wT_in (tb_0 _ (List.mem_of_getElem? (i := 118) (by decide +kernel))) rfl
theorem wd_120 : (.lays "NameForge$Shape" "NameForge$Shape" "reached" "I" : Cond) ∈ wT := wT_in (tb_0 _ (List.mem_of_getElem? (i := 120) (by decide +kernel))) rfl
theorem wd_122 : (.laysFinal "NameForge$Shape" "NameForge$Shape" "before" "[I" : Cond) ∈ wT := wT_in (tb_0 _ (List.mem_of_getElem? (i := 122) (by decide +kernel))) rfl
theorem wd_124 : (.laysFinal "NameForge$Shape" "NameForge$Shape" "under" "[I" : Cond) ∈ wT := wT_in (tb_0 _ (List.mem_of_getElem? (i := 124) (by decide +kernel))) rfl
theorem wd_126 : (.laysFinal "NameForge$Shape" "NameForge$Shape" "parent" "[I" : Cond) ∈ wT := wT_in (tb_0 _ (List.mem_of_getElem? (i := 126) (by decide +kernel))) rfl
theorem wd_128 : (.laysFinal "NameForge$Shape" "NameForge$Shape" "frontier" "[I" : Cond) ∈ wT := wT_in (tb_0 _ (List.mem_of_getElem? (i := 128) (by decide +kernel))) rfl
theorem wd_130 : (.laysFinal "NameForge$Shape" "NameForge$Shape" "order" "[I" : Cond) ∈ wT := wT_in (tb_0 _ (List.mem_of_getElem? (i := 130) (by decide +kernel))) rfl
theorem wd_132 : (.lays "NameForge$Shape" "NameForge$Shape" "ordered" "I" : Cond) ∈ wT := wT_in (tb_0 _ (List.mem_of_getElem? (i := 132) (by decide +kernel))) rfl
theorem wd_134 : (.laysFinal "NameForge$Shape" "NameForge$Shape" "waiting" "[I" : Cond) ∈ wT := wT_in (tb_0 _ (List.mem_of_getElem? (i := 134) (by decide +kernel))) rfl
theorem wd_137 : (.classLink "NameForge" 25 "NameForge$Naming" : Cond) ∈ wT := wT_in (tb_0 _ (List.mem_of_getElem? (i := 137) (by decide +kernel))) rfl
theorem wd_138 : (.instantiable "NameForge$Naming" 14 : Cond) ∈ wT := wT_in (tb_0 _ (List.mem_of_getElem? (i := 138) (by decide +kernel))) rfl
theorem wd_139 : (.methodLink "NameForge" 27 ⟨"NameForge$Naming", "<init>", "(LNameForge$Program;LNameForge$Shape;)V"⟩ : Cond) ∈ wT := wT_in (tb_0 _ (List.mem_of_getElem? (i := 139) (by decide +kernel))) rfl
theorem wd_140 : (.instanceMethod ⟨"NameForge$Naming", "<init>", "(LNameForge$Program;LNameForge$Shape;)V"⟩ : Cond) ∈ wT := wT_in (tb_0 _ (List.mem_of_getElem? (i := 140) (by decide +kernel))) rfl
theorem wd_141 : (.code ⟨"NameForge$Naming", "<init>", "(LNameForge$Program;LNameForge$Shape;)V"⟩ prog_4_method_1_code 3 none : Cond) ∈ wT := wT_in (tb_0 _ (List.mem_of_getElem? (i := 141) (by decide +kernel))) rfl
theorem wd_142 : (.methodLink "NameForge$Naming" 3 ⟨"java/lang/Object", "<init>", "()V"⟩ : Cond) ∈ wT := wT_in (tb_0 _ (List.mem_of_getElem? (i := 142) (by decide +kernel))) rfl
theorem wd_143 : (.classLink "NameForge$Naming" 18 "[[I" : Cond) ∈ wT := wT_in (tb_0 _ (List.mem_of_getElem? (i := 143) (by decide +kernel))) rfl
theorem wd_144 : (.fieldLink "NameForge$Naming" 47 "NameForge$Naming" "program" "LNameForge$Program;" : Cond) ∈ wT := wT_in (tb_0 _ (List.mem_of_getElem? (i := 144) (by decide +kernel))) rfl
theorem wd_145 : (.fieldLink "NameForge$Naming" 51 "NameForge$Naming" "shape" "LNameForge$Shape;" : Cond) ∈ wT := wT_in (tb_0 _ (List.mem_of_getElem? (i := 145) (by decide +kernel))) rfl
theorem wd_148 : (.fieldLink "NameForge$Naming" 9 "NameForge$Naming" "phis" "[I" : Cond) ∈ wT := wT_in (tb_0 _ (List.mem_of_getElem? (i := 148) (by decide +kernel))) rfl
theorem wd_152 : (.fieldLink "NameForge$Naming" 15 "NameForge$Naming" "defined" "[I" : Cond) ∈ wT := wT_in (tb_0 _ (List.mem_of_getElem? (i := 152) (by decide +kernel))) rfl
theorem wd_153 : (.fieldLink "NameForge$Naming" 20 "NameForge$Naming" "phiName" "[[I" : Cond) ∈ wT := wT_in (tb_0 _ (List.mem_of_getElem? (i := 153) (by decide +kernel))) rfl
theorem wd_157 : (.fieldLink "NameForge$Naming" 23 "NameForge$Naming" "atEnd" "[[I" : Cond) ∈ wT := wT_in (tb_0 _ (List.mem_of_getElem? (i := 157) (by decide +kernel))) rfl
theorem wd_162 : (.fieldLink "NameForge$Naming" 26 "NameForge$Naming" "made" "[[I" : Cond) ∈ wT := wT_in (tb_0 _ (List.mem_of_getElem? (i := 162) (by decide +kernel))) rfl
theorem wd_167 : (.fieldLink "NameForge$Naming" 29 "NameForge$Naming" "usedX" "[[I" : Cond) ∈ wT := wT_in (tb_0 _ (List.mem_of_getElem? (i := 167) (by decide +kernel))) rfl
theorem wd_172 : (.fieldLink "NameForge$Naming" 32 "NameForge$Naming" "usedY" "[[I" : Cond) ∈ wT := wT_in (tb_0 _ (List.mem_of_getElem? (i := 172) (by decide +kernel))) rfl
theorem wd_177 : (.fieldLink "NameForge$Naming" 35 "NameForge$Naming" "tested" "[I" : Cond) ∈ wT := wT_in (tb_0 _ (List.mem_of_getElem? (i := 177) (by decide +kernel))) rfl
theorem wd_182 : (.fieldLink "NameForge$Naming" 38 "NameForge$Naming" "home" "[I" : Cond) ∈ wT := wT_in (tb_0 _ (List.mem_of_getElem? (i := 182) (by decide +kernel))) rfl
theorem wd_185 : (.fieldLink "NameForge$Naming" 41 "NameForge$Naming" "row" "[I" : Cond) ∈ wT := wT_in (tb_0 _ (List.mem_of_getElem? (i := 185) (by decide +kernel))) rfl
theorem wd_187 : (.fieldLink "NameForge$Naming" 44 "NameForge$Naming" "variable" "[I" : Cond) ∈ wT := wT_in (tb_0 _ (List.mem_of_getElem? (i := 187) (by decide +kernel))) rfl
theorem wd_189 : (.laysFinal "NameForge$Naming" "NameForge$Naming" "program" "LNameForge$Program;" : Cond) ∈ wT := wT_in (tb_0 _ (List.mem_of_getElem? (i := 189) (by decide +kernel))) rfl
theorem wd_191 : (.laysFinal "NameForge$Naming" "NameForge$Naming" "shape" "LNameForge$Shape;" : Cond) ∈ wT := wT_in (tb_0 _ (List.mem_of_getElem? (i := 191) (by decide +kernel))) rfl
theorem wd_193 : (.lays "NameForge$Naming" "NameForge$Naming" "names" "I" : Cond) ∈ wT := wT_in (tb_0 _ (List.mem_of_getElem? (i := 193) (by decide +kernel))) rfl
theorem wd_195 : (.laysFinal "NameForge$Naming" "NameForge$Naming" "phis" "[I" : Cond) ∈ wT := wT_in (tb_0 _ (List.mem_of_getElem? (i := 195) (by decide +kernel))) rfl
theorem wd_197 : (.laysFinal "NameForge$Naming" "NameForge$Naming" "defined" "[I" : Cond) ∈ wT := wT_in (tb_0 _ (List.mem_of_getElem? (i := 197) (by decide +kernel))) rfl
theorem wd_199 : (.laysFinal "NameForge$Naming" "NameForge$Naming" "phiName" "[[I" : Cond) ∈ wT := wT_in (tb_0 _ (List.mem_of_getElem? (i := 199) (by decide +kernel))) rfl
theorem wd_201 : (.laysFinal "NameForge$Naming" "NameForge$Naming" "atEnd" "[[I" : Cond) ∈ wT := wT_in (tb_0 _ (List.mem_of_getElem? (i := 201) (by decide +kernel))) rfl
theorem wd_203 : (.laysFinal "NameForge$Naming" "NameForge$Naming" "made" "[[I" : Cond) ∈ wT := wT_in (tb_0 _ (List.mem_of_getElem? (i := 203) (by decide +kernel))) rfl
theorem wd_205 : (.laysFinal "NameForge$Naming" "NameForge$Naming" "usedX" "[[I" : Cond) ∈ wT := wT_in (tb_0 _ (List.mem_of_getElem? (i := 205) (by decide +kernel))) rfl
theorem wd_207 : (.laysFinal "NameForge$Naming" "NameForge$Naming" "usedY" "[[I" : Cond) ∈ wT := wT_in (tb_0 _ (List.mem_of_getElem? (i := 207) (by decide +kernel))) rfl
theorem wd_209 : (.laysFinal "NameForge$Naming" "NameForge$Naming" "tested" "[I" : Cond) ∈ wT := wT_in (tb_0 _ (List.mem_of_getElem? (i := 209) (by decide +kernel))) rfl
theorem wd_211 : (.laysFinal "NameForge$Naming" "NameForge$Naming" "home" "[I" : Cond) ∈ wT := wT_in (tb_0 _ (List.mem_of_getElem? (i := 211) (by decide +kernel))) rfl
theorem wd_213 : (.laysFinal "NameForge$Naming" "NameForge$Naming" "row" "[I" : Cond) ∈ wT := wT_in (tb_0 _ (List.mem_of_getElem? (i := 213) (by decide +kernel))) rfl
theorem wd_215 : (.laysFinal "NameForge$Naming" "NameForge$Naming" "variable" "[I" : Cond) ∈ wT := wT_in (tb_0 _ (List.mem_of_getElem? (i := 215) (by decide +kernel))) rfl
theorem wd_218 : (.classLink "NameForge" 34 "NameForge$Known" : Cond) ∈ wT := wT_in (tb_0 _ (List.mem_of_getElem? (i := 218) (by decide +kernel))) rfl
theorem wd_219 : (.instantiable "NameForge$Known" 8 : Cond) ∈ wT := wT_in (tb_0 _ (List.mem_of_getElem? (i := 219) (by decide +kernel))) rfl
theorem wd_220 : (.methodLink "NameForge" 36 ⟨"NameForge$Known", "<init>", "(LNameForge$Program;LNameForge$Shape;LNameForge$Naming;)V"⟩ : Cond) ∈ wT := wT_in (tb_0 _ (List.mem_of_getElem? (i := 220) (by decide +kernel))) rfl
theorem wd_221 : (.instanceMethod ⟨"NameForge$Known", "<init>", "(LNameForge$Program;LNameForge$Shape;LNameForge$Naming;)V"⟩ : Cond) ∈ wT := wT_in (tb_0 _ (List.mem_of_getElem? (i := 221) (by decide +kernel))) rfl
theorem wd_222 : (.code ⟨"NameForge$Known", "<init>", "(LNameForge$Program;LNameForge$Shape;LNameForge$Naming;)V"⟩ prog_2_method_1_code 4 none : Cond) ∈ wT := wT_in (tb_0 _ (List.mem_of_getElem? (i := 222) (by decide +kernel))) rfl
theorem wd_223 : (.methodLink "NameForge$Known" 3 ⟨"java/lang/Object", "<init>", "()V"⟩ : Cond) ∈ wT := wT_in (tb_0 _ (List.mem_of_getElem? (i := 223) (by decide +kernel))) rfl
theorem wd_224 : (.fieldLink "NameForge$Known" 21 "NameForge$Known" "program" "LNameForge$Program;" : Cond) ∈ wT := wT_in (tb_0 _ (List.mem_of_getElem? (i := 224) (by decide +kernel))) rfl
theorem wd_225 : (.fieldLink "NameForge$Known" 25 "NameForge$Known" "shape" "LNameForge$Shape;" : Cond) ∈ wT := wT_in (tb_0 _ (List.mem_of_getElem? (i := 225) (by decide +kernel))) rfl
theorem wd_226 : (.fieldLink "NameForge$Known" 29 "NameForge$Known" "naming" "LNameForge$Naming;" : Cond) ∈ wT := wT_in (tb_0 _ (List.mem_of_getElem? (i := 226) (by decide +kernel))) rfl
theorem wd_230 : (.fieldLink "NameForge$Known" 9 "NameForge$Known" "taken" "[I" : Cond) ∈ wT := wT_in (tb_0 _ (List.mem_of_getElem? (i := 230) (by decide +kernel))) rfl
theorem wd_231 : (.fieldLink "NameForge$Known" 15 "NameForge$Known" "state" "[I" : Cond) ∈ wT := wT_in (tb_0 _ (List.mem_of_getElem? (i := 231) (by decide +kernel))) rfl
theorem wd_235 : (.fieldLink "NameForge$Known" 18 "NameForge$Known" "number" "[I" : Cond) ∈ wT := wT_in (tb_0 _ (List.mem_of_getElem? (i := 235) (by decide +kernel))) rfl
theorem wd_239 : (.laysFinal "NameForge$Known" "NameForge$Known" "program" "LNameForge$Program;" : Cond) ∈ wT := wT_in (tb_0 _ (List.mem_of_getElem? (i := 239) (by decide +kernel))) rfl
theorem wd_241 : (.laysFinal "NameForge$Known" "NameForge$Known" "shape" "LNameForge$Shape;" : Cond) ∈ wT := wT_in (tb_1 _ (List.mem_of_getElem? (i := 1) (by decide +kernel))) rfl
theorem wd_243 : (.laysFinal "NameForge$Known" "NameForge$Known" "naming" "LNameForge$Naming;" : Cond) ∈ wT := wT_in (tb_1 _ (List.mem_of_getElem? (i := 3) (by decide +kernel))) rfl
theorem wd_245 : (.lays "NameForge$Known" "NameForge$Known" "comeTo" "I" : Cond) ∈ wT := wT_in (tb_1 _ (List.mem_of_getElem? (i := 5) (by decide +kernel))) rfl
theorem wd_247 : (.laysFinal "NameForge$Known" "NameForge$Known" "taken" "[I" : Cond) ∈ wT := wT_in (tb_1 _ (List.mem_of_getElem? (i := 7) (by decide +kernel))) rfl
theorem wd_249 : (.laysFinal "NameForge$Known" "NameForge$Known" "state" "[I" : Cond) ∈ wT := wT_in (tb_1 _ (List.mem_of_getElem? (i := 9) (by decide +kernel))) rfl
theorem wd_251 : (.laysFinal "NameForge$Known" "NameForge$Known" "number" "[I" : Cond) ∈ wT := wT_in (tb_1 _ (List.mem_of_getElem? (i := 11) (by decide +kernel))) rfl
theorem wd_253 : (.lays "NameForge$Known" "NameForge$Known" "changed" "Z" : Cond) ∈ wT := wT_in (tb_1 _ (List.mem_of_getElem? (i := 13) (by decide +kernel))) rfl
theorem wd_256 : (.classLink "NameForge" 43 "NameForge$Needed" : Cond) ∈ wT := wT_in (tb_1 _ (List.mem_of_getElem? (i := 16) (by decide +kernel))) rfl
theorem wd_257 : (.instantiable "NameForge$Needed" 6 : Cond) ∈ wT := wT_in (tb_1 _ (List.mem_of_getElem? (i := 17) (by decide +kernel))) rfl
theorem wd_258 : (.methodLink "NameForge" 45 ⟨"NameForge$Needed", "<init>", "(LNameForge$Program;LNameForge$Naming;LNameForge$Known;)V"⟩ : Cond) ∈ wT := wT_in (tb_1 _ (List.mem_of_getElem? (i := 18) (by decide +kernel))) rfl
theorem wd_259 : (.instanceMethod ⟨"NameForge$Needed", "<init>", "(LNameForge$Program;LNameForge$Naming;LNameForge$Known;)V"⟩ : Cond) ∈ wT := wT_in (tb_1 _ (List.mem_of_getElem? (i := 19) (by decide +kernel))) rfl
theorem wd_260 : (.code ⟨"NameForge$Needed", "<init>", "(LNameForge$Program;LNameForge$Naming;LNameForge$Known;)V"⟩ prog_5_method_1_code 4 none : Cond) ∈ wT := wT_in (tb_1 _ (List.mem_of_getElem? (i := 20) (by decide +kernel))) rfl
theorem wd_261 : (.methodLink "NameForge$Needed" 3 ⟨"java/lang/Object", "<init>", "()V"⟩ : Cond) ∈ wT := wT_in (tb_1 _ (List.mem_of_getElem? (i := 21) (by decide +kernel))) rfl
theorem wd_262 : (.fieldLink "NameForge$Needed" 19 "NameForge$Needed" "program" "LNameForge$Program;" : Cond) ∈ wT := wT_in (tb_1 _ (List.mem_of_getElem? (i := 22) (by decide +kernel))) rfl
theorem wd_263 : (.fieldLink "NameForge$Needed" 23 "NameForge$Needed" "naming" "LNameForge$Naming;" : Cond) ∈ wT := wT_in (tb_1 _ (List.mem_of_getElem? (i := 23) (by decide +kernel))) rfl
theorem wd_264 : (.fieldLink "NameForge$Needed" 27 "NameForge$Needed" "known" "LNameForge$Known;" : Cond) ∈ wT := wT_in (tb_1 _ (List.mem_of_getElem? (i := 24) (by decide +kernel))) rfl
theorem wd_265 : (.fieldLink "NameForge$Needed" 9 "NameForge$Needed" "isNeeded" "[Z" : Cond) ∈ wT := wT_in (tb_1 _ (List.mem_of_getElem? (i := 25) (by decide +kernel))) rfl
theorem wd_268 : (.fieldLink "NameForge$Needed" 15 "NameForge$Needed" "list" "[I" : Cond) ∈ wT := wT_in (tb_1 _ (List.mem_of_getElem? (i := 28) (by decide +kernel))) rfl
theorem wd_270 : (.laysFinal "NameForge$Needed" "NameForge$Needed" "program" "LNameForge$Program;" : Cond) ∈ wT := wT_in (tb_1 _ (List.mem_of_getElem? (i := 30) (by decide +kernel))) rfl
theorem wd_272 : (.laysFinal "NameForge$Needed" "NameForge$Needed" "naming" "LNameForge$Naming;" : Cond) ∈ wT := wT_in (tb_1 _ (List.mem_of_getElem? (i := 32) (by decide +kernel))) rfl
theorem wd_274 : (.laysFinal "NameForge$Needed" "NameForge$Needed" "known" "LNameForge$Known;" : Cond) ∈ wT := wT_in (tb_1 _ (List.mem_of_getElem? (i := 34) (by decide +kernel))) rfl
theorem wd_276 : (.laysFinal "NameForge$Needed" "NameForge$Needed" "isNeeded" "[Z" : Cond) ∈ wT := wT_in (tb_1 _ (List.mem_of_getElem? (i := 36) (by decide +kernel))) rfl
theorem wd_278 : (.laysFinal "NameForge$Needed" "NameForge$Needed" "list" "[I" : Cond) ∈ wT := wT_in (tb_1 _ (List.mem_of_getElem? (i := 38) (by decide +kernel))) rfl
theorem wd_280 : (.lays "NameForge$Needed" "NameForge$Needed" "listed" "I" : Cond) ∈ wT := wT_in (tb_1 _ (List.mem_of_getElem? (i := 40) (by decide +kernel))) rfl
theorem wd_283 : (.arrayClass .boolean : Cond) ∈ wT := wT_in (tb_1 _ (List.mem_of_getElem? (i := 43) (by decide +kernel))) rfl
theorem wd_284 : (.classLink "NameForge" 52 "NameForge$Machine" : Cond) ∈ wT := wT_in (tb_1 _ (List.mem_of_getElem? (i := 44) (by decide +kernel))) rfl
theorem wd_285 : (.instantiable "NameForge$Machine" 14 : Cond) ∈ wT := wT_in (tb_1 _ (List.mem_of_getElem? (i := 45) (by decide +kernel))) rfl
theorem wd_286 : (.methodLink "NameForge" 54 ⟨"NameForge$Machine", "<init>", "(LNameForge$Program;LNameForge$Naming;LNameForge$Known;LNameForge$Needed;)V"⟩ : Cond) ∈ wT := wT_in (tb_1 _ (List.mem_of_getElem? (i := 46) (by decide +kernel))) rfl
theorem wd_287 : (.instanceMethod ⟨"NameForge$Machine", "<init>", "(LNameForge$Program;LNameForge$Naming;LNameForge$Known;LNameForge$Needed;)V"⟩ : Cond) ∈ wT := wT_in (tb_1 _ (List.mem_of_getElem? (i := 47) (by decide +kernel))) rfl
theorem wd_288 : (.code ⟨"NameForge$Machine", "<init>", "(LNameForge$Program;LNameForge$Naming;LNameForge$Known;LNameForge$Needed;)V"⟩ prog_3_method_1_code 5 none : Cond) ∈ wT := wT_in (tb_1 _ (List.mem_of_getElem? (i := 48) (by decide +kernel))) rfl
theorem wd_289 : (.methodLink "NameForge$Machine" 3 ⟨"java/lang/Object", "<init>", "()V"⟩ : Cond) ∈ wT := wT_in (tb_1 _ (List.mem_of_getElem? (i := 49) (by decide +kernel))) rfl
theorem wd_290 : (.fieldLink "NameForge$Machine" 27 "NameForge$Machine" "program" "LNameForge$Program;" : Cond) ∈ wT := wT_in (tb_1 _ (List.mem_of_getElem? (i := 50) (by decide +kernel))) rfl
theorem wd_291 : (.fieldLink "NameForge$Machine" 31 "NameForge$Machine" "naming" "LNameForge$Naming;" : Cond) ∈ wT := wT_in (tb_1 _ (List.mem_of_getElem? (i := 51) (by decide +kernel))) rfl
theorem wd_292 : (.fieldLink "NameForge$Machine" 35 "NameForge$Machine" "known" "LNameForge$Known;" : Cond) ∈ wT := wT_in (tb_1 _ (List.mem_of_getElem? (i := 52) (by decide +kernel))) rfl
theorem wd_293 : (.fieldLink "NameForge$Machine" 39 "NameForge$Machine" "needed" "LNameForge$Needed;" : Cond) ∈ wT := wT_in (tb_1 _ (List.mem_of_getElem? (i := 53) (by decide +kernel))) rfl
theorem wd_294 : (.fieldLink "NameForge$Machine" 43 "NameForge$Machine" "inputs" "I" : Cond) ∈ wT := wT_in (tb_1 _ (List.mem_of_getElem? (i := 54) (by decide +kernel))) rfl
theorem wd_295 : (.fieldLink "NameForge" 216 "NameForge$Machine" "inputs" "I" : Cond) ∈ wT := wT_in (tb_1 _ (List.mem_of_getElem? (i := 55) (by decide +kernel))) rfl
theorem wd_296 : (.fieldLink "NameForge$Machine" 9 "NameForge$Machine" "input" "[I" : Cond) ∈ wT := wT_in (tb_1 _ (List.mem_of_getElem? (i := 56) (by decide +kernel))) rfl
theorem wd_297 : (.fieldLink "NameForge$Machine" 15 "NameForge$Machine" "ofVariable" "[I" : Cond) ∈ wT := wT_in (tb_1 _ (List.mem_of_getElem? (i := 57) (by decide +kernel))) rfl
theorem wd_298 : (.fieldLink "NameForge$Machine" 18 "NameForge$Machine" "ofName" "[I" : Cond) ∈ wT := wT_in (tb_1 _ (List.mem_of_getElem? (i := 58) (by decide +kernel))) rfl
theorem wd_299 : (.fieldLink "NameForge$Machine" 21 "NameForge$Machine" "chosen" "[I" : Cond) ∈ wT := wT_in (tb_1 _ (List.mem_of_getElem? (i := 59) (by decide +kernel))) rfl
theorem wd_301 : (.fieldLink "NameForge" 225 "NameForge$Machine" "tellings" "I" : Cond) ∈ wT := wT_in (tb_1 _ (List.mem_of_getElem? (i := 61) (by decide +kernel))) rfl
theorem wd_302 : (.fieldLink "NameForge$Machine" 24 "NameForge$Machine" "kept" "[I" : Cond) ∈ wT := wT_in (tb_1 _ (List.mem_of_getElem? (i := 62) (by decide +kernel))) rfl
theorem wd_305 : (.fieldLink "NameForge" 233 "NameForge$Machine" "blocksRun" "I" : Cond) ∈ wT := wT_in (tb_1 _ (List.mem_of_getElem? (i := 65) (by decide +kernel))) rfl
theorem wd_307 : (.fieldLink "NameForge" 236 "NameForge$Machine" "instructionsDone" "I" : Cond) ∈ wT := wT_in (tb_1 _ (List.mem_of_getElem? (i := 67) (by decide +kernel))) rfl
theorem wd_309 : (.fieldLink "NameForge" 239 "NameForge$Machine" "inputsAsked" "I" : Cond) ∈ wT := wT_in (tb_1 _ (List.mem_of_getElem? (i := 69) (by decide +kernel))) rfl
theorem wd_310 : (.laysFinal "NameForge$Machine" "NameForge$Machine" "program" "LNameForge$Program;" : Cond) ∈ wT := wT_in (tb_1 _ (List.mem_of_getElem? (i := 70) (by decide +kernel))) rfl
theorem wd_312 : (.laysFinal "NameForge$Machine" "NameForge$Machine" "naming" "LNameForge$Naming;" : Cond) ∈ wT := wT_in (tb_1 _ (List.mem_of_getElem? (i := 72) (by decide +kernel))) rfl
theorem wd_314 : (.laysFinal "NameForge$Machine" "NameForge$Machine" "known" "LNameForge$Known;" : Cond) ∈ wT := wT_in (tb_1 _ (List.mem_of_getElem? (i := 74) (by decide +kernel))) rfl
theorem wd_316 : (.laysFinal "NameForge$Machine" "NameForge$Machine" "needed" "LNameForge$Needed;" : Cond) ∈ wT := wT_in (tb_1 _ (List.mem_of_getElem? (i := 76) (by decide +kernel))) rfl
theorem wd_318 : (.lays "NameForge$Machine" "NameForge$Machine" "inputs" "I" : Cond) ∈ wT := wT_in (tb_1 _ (List.mem_of_getElem? (i := 78) (by decide +kernel))) rfl
theorem wd_320 : (.laysFinal "NameForge$Machine" "NameForge$Machine" "input" "[I" : Cond) ∈ wT := wT_in (tb_1 _ (List.mem_of_getElem? (i := 80) (by decide +kernel))) rfl
theorem wd_322 : (.laysFinal "NameForge$Machine" "NameForge$Machine" "ofVariable" "[I" : Cond) ∈ wT := wT_in (tb_1 _ (List.mem_of_getElem? (i := 82) (by decide +kernel))) rfl
theorem wd_324 : (.laysFinal "NameForge$Machine" "NameForge$Machine" "ofName" "[I" : Cond) ∈ wT := wT_in (tb_1 _ (List.mem_of_getElem? (i := 84) (by decide +kernel))) rfl
theorem wd_326 : (.laysFinal "NameForge$Machine" "NameForge$Machine" "chosen" "[I" : Cond) ∈ wT := wT_in (tb_1 _ (List.mem_of_getElem? (i := 86) (by decide +kernel))) rfl
theorem wd_328 : (.lays "NameForge$Machine" "NameForge$Machine" "tellings" "I" : Cond) ∈ wT := wT_in (tb_1 _ (List.mem_of_getElem? (i := 88) (by decide +kernel))) rfl
theorem wd_330 : (.laysFinal "NameForge$Machine" "NameForge$Machine" "kept" "[I" : Cond) ∈ wT := wT_in (tb_1 _ (List.mem_of_getElem? (i := 90) (by decide +kernel))) rfl
theorem wd_332 : (.lays "NameForge$Machine" "NameForge$Machine" "blocksRun" "I" : Cond) ∈ wT := wT_in (tb_1 _ (List.mem_of_getElem? (i := 92) (by decide +kernel))) rfl
theorem wd_334 : (.lays "NameForge$Machine" "NameForge$Machine" "instructionsDone" "I" : Cond) ∈ wT := wT_in (tb_1 _ (List.mem_of_getElem? (i := 94) (by decide +kernel))) rfl
theorem wd_336 : (.lays "NameForge$Machine" "NameForge$Machine" "inputsAsked" "I" : Cond) ∈ wT := wT_in (tb_1 _ (List.mem_of_getElem? (i := 96) (by decide +kernel))) rfl
theorem wd_339 : (.fieldLink "NameForge" 12 "NameForge" "program" "LNameForge$Program;" : Cond) ∈ wT := wT_in (tb_1 _ (List.mem_of_getElem? (i := 99) (by decide +kernel))) rfl
theorem wd_340 : (.fieldLink "NameForge" 21 "NameForge" "shape" "LNameForge$Shape;" : Cond) ∈ wT := wT_in (tb_1 _ (List.mem_of_getElem? (i := 100) (by decide +kernel))) rfl
theorem wd_341 : (.fieldLink "NameForge" 30 "NameForge" "naming" "LNameForge$Naming;" : Cond) ∈ wT := wT_in (tb_1 _ (List.mem_of_getElem? (i := 101) (by decide +kernel))) rfl
theorem wd_342 : (.fieldLink "NameForge" 39 "NameForge" "known" "LNameForge$Known;" : Cond) ∈ wT := wT_in (tb_1 _ (List.mem_of_getElem? (i := 102) (by decide +kernel))) rfl
theorem wd_343 : (.fieldLink "NameForge" 48 "NameForge" "needed" "LNameForge$Needed;" : Cond) ∈ wT := wT_in (tb_1 _ (List.mem_of_getElem? (i := 103) (by decide +kernel))) rfl
theorem wd_344 : (.fieldLink "NameForge" 57 "NameForge" "machine" "LNameForge$Machine;" : Cond) ∈ wT := wT_in (tb_1 _ (List.mem_of_getElem? (i := 104) (by decide +kernel))) rfl
theorem wd_345 : (.fieldLink "NameForge" 61 "NameForge" "built" "Z" : Cond) ∈ wT := wT_in (tb_1 _ (List.mem_of_getElem? (i := 105) (by decide +kernel))) rfl
theorem wd_346 : (.laysFinal "NameForge" "NameForge" "program" "LNameForge$Program;" : Cond) ∈ wT := wT_in (tb_1 _ (List.mem_of_getElem? (i := 106) (by decide +kernel))) rfl
theorem wd_348 : (.laysFinal "NameForge" "NameForge" "shape" "LNameForge$Shape;" : Cond) ∈ wT := wT_in (tb_1 _ (List.mem_of_getElem? (i := 108) (by decide +kernel))) rfl
theorem wd_350 : (.laysFinal "NameForge" "NameForge" "naming" "LNameForge$Naming;" : Cond) ∈ wT := wT_in (tb_1 _ (List.mem_of_getElem? (i := 110) (by decide +kernel))) rfl
theorem wd_352 : (.laysFinal "NameForge" "NameForge" "known" "LNameForge$Known;" : Cond) ∈ wT := wT_in (tb_1 _ (List.mem_of_getElem? (i := 112) (by decide +kernel))) rfl
theorem wd_354 : (.laysFinal "NameForge" "NameForge" "needed" "LNameForge$Needed;" : Cond) ∈ wT := wT_in (tb_1 _ (List.mem_of_getElem? (i := 114) (by decide +kernel))) rfl
theorem wd_356 : (.laysFinal "NameForge" "NameForge" "machine" "LNameForge$Machine;" : Cond) ∈ wT := wT_in (tb_1 _ (List.mem_of_getElem? (i := 116) (by decide +kernel))) rfl
theorem wd_358 : (.lays "NameForge" "NameForge" "built" "Z" : Cond) ∈ wT := wT_in (tb_1 _ (List.mem_of_getElem? (i := 118) (by decide +kernel))) rfl
theorem wd_361 : (.methodLink "NameForgeLaw" 89 ⟨"NameForge", "clear", "()V"⟩ : Cond) ∈ wT := wT_in (tb_1 _ (List.mem_of_getElem? (i := 121) (by decide +kernel))) rfl
theorem wd_362 : (.instanceMethod ⟨"NameForge", "clear", "()V"⟩ : Cond) ∈ wT := wT_in (tb_1 _ (List.mem_of_getElem? (i := 122) (by decide +kernel))) rfl
theorem wd_363 : (.selects "NameForge" ⟨"NameForge", "clear", "()V"⟩ ⟨"NameForge", "clear", "()V"⟩ : Cond) ∈ wT := wT_in (tb_1 _ (List.mem_of_getElem? (i := 123) (by decide +kernel))) rfl
theorem wd_364 : (.code ⟨"NameForge", "clear", "()V"⟩ prog_1_method_7_code 1 none : Cond) ∈ wT := wT_in (tb_1 _ (List.mem_of_getElem? (i := 124) (by decide +kernel))) rfl
theorem wd_365 : (.methodLink "NameForgeLaw" 110 ⟨"NameForge", "give", "(I)Z"⟩ : Cond) ∈ wT := wT_in (tb_1 _ (List.mem_of_getElem? (i := 125) (by decide +kernel))) rfl
theorem wd_366 : (.instanceMethod ⟨"NameForge", "give", "(I)Z"⟩ : Cond) ∈ wT := wT_in (tb_1 _ (List.mem_of_getElem? (i := 126) (by decide +kernel))) rfl
theorem wd_367 : (.selects "NameForge" ⟨"NameForge", "give", "(I)Z"⟩ ⟨"NameForge", "give", "(I)Z"⟩ : Cond) ∈ wT := wT_in (tb_1 _ (List.mem_of_getElem? (i := 127) (by decide +kernel))) rfl
theorem wd_368 : (.code ⟨"NameForge", "give", "(I)Z"⟩ prog_1_method_13_code 2 (some .boolean) : Cond) ∈ wT := wT_in (tb_1 _ (List.mem_of_getElem? (i := 128) (by decide +kernel))) rfl
theorem wd_369 : (.methodLink "NameForge" 213 ⟨"NameForge$Machine", "addInput", "(I)Z"⟩ : Cond) ∈ wT := wT_in (tb_1 _ (List.mem_of_getElem? (i := 129) (by decide +kernel))) rfl
theorem wd_370 : (.instanceMethod ⟨"NameForge$Machine", "addInput", "(I)Z"⟩ : Cond) ∈ wT := wT_in (tb_1 _ (List.mem_of_getElem? (i := 130) (by decide +kernel))) rfl
theorem wd_371 : (.selects "NameForge$Machine" ⟨"NameForge$Machine", "addInput", "(I)Z"⟩ ⟨"NameForge$Machine", "addInput", "(I)Z"⟩ : Cond) ∈ wT := wT_in (tb_1 _ (List.mem_of_getElem? (i := 131) (by decide +kernel))) rfl
theorem wd_372 : (.code ⟨"NameForge$Machine", "addInput", "(I)Z"⟩ prog_3_method_2_code 2 (some .boolean) : Cond) ∈ wT := wT_in (tb_1 _ (List.mem_of_getElem? (i := 132) (by decide +kernel))) rfl
theorem wd_373 : (.methodLink "NameForgeLaw" 115 ⟨"NameForge", "take", "()V"⟩ : Cond) ∈ wT := wT_in (tb_1 _ (List.mem_of_getElem? (i := 133) (by decide +kernel))) rfl
theorem wd_374 : (.instanceMethod ⟨"NameForge", "take", "()V"⟩ : Cond) ∈ wT := wT_in (tb_1 _ (List.mem_of_getElem? (i := 134) (by decide +kernel))) rfl
theorem wd_375 : (.selects "NameForge" ⟨"NameForge", "take", "()V"⟩ ⟨"NameForge", "take", "()V"⟩ : Cond) ∈ wT := wT_in (tb_1 _ (List.mem_of_getElem? (i := 135) (by decide +kernel))) rfl
theorem wd_376 : (.code ⟨"NameForge", "take", "()V"⟩ prog_1_method_14_code 1 none : Cond) ∈ wT := wT_in (tb_1 _ (List.mem_of_getElem? (i := 136) (by decide +kernel))) rfl
theorem wd_377 : (.methodLink "NameForgeLaw" 123 ⟨"NameForge", "told", "()I"⟩ : Cond) ∈ wT := wT_in (tb_1 _ (List.mem_of_getElem? (i := 137) (by decide +kernel))) rfl
theorem wd_378 : (.instanceMethod ⟨"NameForge", "told", "()I"⟩ : Cond) ∈ wT := wT_in (tb_1 _ (List.mem_of_getElem? (i := 138) (by decide +kernel))) rfl
theorem wd_379 : (.selects "NameForge" ⟨"NameForge", "told", "()I"⟩ ⟨"NameForge", "told", "()I"⟩ : Cond) ∈ wT := wT_in (tb_1 _ (List.mem_of_getElem? (i := 139) (by decide +kernel))) rfl
theorem wd_380 : (.code ⟨"NameForge", "told", "()I"⟩ prog_1_method_16_code 1 (some .int) : Cond) ∈ wT := wT_in (tb_1 _ (List.mem_of_getElem? (i := 140) (by decide +kernel))) rfl
theorem wd_381 : (.methodLink "NameForgeLaw" 131 ⟨"NameForge", "spent", "(I)I"⟩ : Cond) ∈ wT := wT_in (tb_1 _ (List.mem_of_getElem? (i := 141) (by decide +kernel))) rfl
theorem wd_382 : (.instanceMethod ⟨"NameForge", "spent", "(I)I"⟩ : Cond) ∈ wT := wT_in (tb_1 _ (List.mem_of_getElem? (i := 142) (by decide +kernel))) rfl
theorem wd_383 : (.selects "NameForge" ⟨"NameForge", "spent", "(I)I"⟩ ⟨"NameForge", "spent", "(I)I"⟩ : Cond) ∈ wT := wT_in (tb_1 _ (List.mem_of_getElem? (i := 143) (by decide +kernel))) rfl
theorem wd_384 : (.code ⟨"NameForge", "spent", "(I)I"⟩ prog_1_method_18_code 2 (some .int) : Cond) ∈ wT := wT_in (tb_1 _ (List.mem_of_getElem? (i := 144) (by decide +kernel))) rfl
theorem wd_385 : (.methodLink "NameForgeLaw" 64 ⟨"NameForgeLaw", "block", "(LNameForge;[J)I"⟩ : Cond) ∈ wT := wT_in (tb_1 _ (List.mem_of_getElem? (i := 145) (by decide +kernel))) rfl
theorem wd_386 : (.static ⟨"NameForgeLaw", "block", "(LNameForge;[J)I"⟩ : Cond) ∈ wT := wT_in (tb_1 _ (List.mem_of_getElem? (i := 146) (by decide +kernel))) rfl
theorem wd_387 : (.codeWith ⟨"NameForgeLaw", "block", "(LNameForge;[J)I"⟩ method_3_code 3 (some .int) [(0, 8, 11, 13)] : Cond) ∈ wT := wT_in (tb_1 _ (List.mem_of_getElem? (i := 147) (by decide +kernel))) rfl
theorem wd_388 : (.classLink "NameForgeLaw" 13 "java/lang/IllegalStateException" : Cond) ∈ wT := wT_in (tb_1 _ (List.mem_of_getElem? (i := 148) (by decide +kernel))) rfl
theorem wd_389 : (.methodLink "NameForgeLaw" 7 ⟨"NameForge", "block", "()I"⟩ : Cond) ∈ wT := wT_in (tb_1 _ (List.mem_of_getElem? (i := 149) (by decide +kernel))) rfl
theorem wd_390 : (.instanceMethod ⟨"NameForge", "block", "()I"⟩ : Cond) ∈ wT := wT_in (tb_1 _ (List.mem_of_getElem? (i := 150) (by decide +kernel))) rfl
theorem wd_391 : (.selects "NameForge" ⟨"NameForge", "block", "()I"⟩ ⟨"NameForge", "block", "()I"⟩ : Cond) ∈ wT := wT_in (tb_1 _ (List.mem_of_getElem? (i := 151) (by decide +kernel))) rfl
theorem wd_392 : (.code ⟨"NameForge", "block", "()I"⟩ prog_1_method_2_code 1 (some .int) : Cond) ∈ wT := wT_in (tb_1 _ (List.mem_of_getElem? (i := 152) (by decide +kernel))) rfl
theorem wd_393 : (.classLink "NameForge" 69 "java/lang/IllegalStateException" : Cond) ∈ wT := wT_in (tb_1 _ (List.mem_of_getElem? (i := 153) (by decide +kernel))) rfl
theorem wd_394 : (.instantiable "java/lang/IllegalStateException" 6 : Cond) ∈ wT := wT_in (tb_1 _ (List.mem_of_getElem? (i := 154) (by decide +kernel))) rfl
theorem wz_395 : (.castable "java/lang/IllegalStateException" "java/lang/IllegalStateException" : Cond) ∈ lw_tbl := tb_1 _ (List.mem_of_getElem? (i := 155) (by decide +kernel))
theorem wz_396 : (.declares ⟨"java/lang/RuntimeException", "<init>", "()V"⟩ : Cond) ∈ lw_tbl := tb_1 _ (List.mem_of_getElem? (i := 156) (by decide +kernel))
theorem wz_397 : (.declares ⟨"java/lang/RuntimeException", "<init>", "(Ljava/lang/String;)V"⟩ : Cond) ∈ lw_tbl := tb_1 _ (List.mem_of_getElem? (i := 157) (by decide +kernel))
theorem wz_398 : (.declares ⟨"java/lang/Exception", "<init>", "()V"⟩ : Cond) ∈ lw_tbl := tb_1 _ (List.mem_of_getElem? (i := 158) (by decide +kernel))
theorem wz_399 : (.declares ⟨"java/lang/Exception", "<init>", "(Ljava/lang/String;)V"⟩ : Cond) ∈ lw_tbl := tb_1 _ (List.mem_of_getElem? (i := 159) (by decide +kernel))
theorem wz_400 : (.declares ⟨"java/lang/Throwable", "<init>", "()V"⟩ : Cond) ∈ lw_tbl := tb_1 _ (List.mem_of_getElem? (i := 160) (by decide +kernel))
theorem wz_401 : (.declares ⟨"java/lang/Throwable", "<init>", "(Ljava/lang/String;)V"⟩ : Cond) ∈ lw_tbl := tb_1 _ (List.mem_of_getElem? (i := 161) (by decide +kernel))
theorem wz_420 : (.laysStatic "java/lang/Throwable" "UNASSIGNED_STACK" "[Ljava/lang/StackTraceElement;" : Cond) ∈ lw_tbl := tb_1 _ (List.mem_of_getElem? (i := 180) (by decide +kernel))
theorem wz_422 : (.laysStatic "java/lang/Throwable" "SUPPRESSED_SENTINEL" "Ljava/util/List;" : Cond) ∈ lw_tbl := tb_1 _ (List.mem_of_getElem? (i := 182) (by decide +kernel))
theorem wd_461 : (.methodLink "NameForge" 76 ⟨"NameForge$Program", "addBlock", "()I"⟩ : Cond) ∈ wT := wT_in (tb_1 _ (List.mem_of_getElem? (i := 221) (by decide +kernel))) rfl
theorem wd_462 : (.instanceMethod ⟨"NameForge$Program", "addBlock", "()I"⟩ : Cond) ∈ wT := wT_in (tb_1 _ (List.mem_of_getElem? (i := 222) (by decide +kernel))) rfl
theorem wd_463 : (.selects "NameForge$Program" ⟨"NameForge$Program", "addBlock", "()I"⟩ ⟨"NameForge$Program", "addBlock", "()I"⟩ : Cond) ∈ wT := wT_in (tb_1 _ (List.mem_of_getElem? (i := 223) (by decide +kernel))) rfl
theorem wd_464 : (.code ⟨"NameForge$Program", "addBlock", "()I"⟩ prog_6_method_4_code 2 (some .int) : Cond) ∈ wT := wT_in (tb_1 _ (List.mem_of_getElem? (i := 224) (by decide +kernel))) rfl
theorem wd_465 : (.methodLink "NameForge$Program" 49 ⟨"NameForge$Program", "setEnd", "(IIIII)V"⟩ : Cond) ∈ wT := wT_in (tb_1 _ (List.mem_of_getElem? (i := 225) (by decide +kernel))) rfl
theorem wd_466 : (.instanceMethod ⟨"NameForge$Program", "setEnd", "(IIIII)V"⟩ : Cond) ∈ wT := wT_in (tb_1 _ (List.mem_of_getElem? (i := 226) (by decide +kernel))) rfl
theorem wd_467 : (.selects "NameForge$Program" ⟨"NameForge$Program", "setEnd", "(IIIII)V"⟩ ⟨"NameForge$Program", "setEnd", "(IIIII)V"⟩ : Cond) ∈ wT := wT_in (tb_1 _ (List.mem_of_getElem? (i := 227) (by decide +kernel))) rfl
theorem wd_468 : (.code ⟨"NameForge$Program", "setEnd", "(IIIII)V"⟩ prog_6_method_6_code 6 none : Cond) ∈ wT := wT_in (tb_1 _ (List.mem_of_getElem? (i := 228) (by decide +kernel))) rfl
theorem wd_469 : (.methodLink "NameForgeLaw" 73 ⟨"NameForgeLaw", "put", "(LNameForge;IIIII[J)I"⟩ : Cond) ∈ wT := wT_in (tb_1 _ (List.mem_of_getElem? (i := 229) (by decide +kernel))) rfl
theorem wd_470 : (.static ⟨"NameForgeLaw", "put", "(LNameForge;IIIII[J)I"⟩ : Cond) ∈ wT := wT_in (tb_1 _ (List.mem_of_getElem? (i := 230) (by decide +kernel))) rfl
theorem wd_471 : (.codeWith ⟨"NameForgeLaw", "put", "(LNameForge;IIIII[J)I"⟩ method_4_code 8 (some .int) [(0, 16, 19, 19), (0, 16, 23, 13)] : Cond) ∈ wT := wT_in (tb_1 _ (List.mem_of_getElem? (i := 231) (by decide +kernel))) rfl
theorem wd_472 : (.classLink "NameForgeLaw" 19 "java/lang/IllegalArgumentException" : Cond) ∈ wT := wT_in (tb_1 _ (List.mem_of_getElem? (i := 232) (by decide +kernel))) rfl
theorem wd_473 : (.methodLink "NameForgeLaw" 15 ⟨"NameForge", "put", "(IIIII)I"⟩ : Cond) ∈ wT := wT_in (tb_1 _ (List.mem_of_getElem? (i := 233) (by decide +kernel))) rfl
theorem wd_474 : (.instanceMethod ⟨"NameForge", "put", "(IIIII)I"⟩ : Cond) ∈ wT := wT_in (tb_1 _ (List.mem_of_getElem? (i := 234) (by decide +kernel))) rfl
theorem wd_475 : (.selects "NameForge" ⟨"NameForge", "put", "(IIIII)I"⟩ ⟨"NameForge", "put", "(IIIII)I"⟩ : Cond) ∈ wT := wT_in (tb_1 _ (List.mem_of_getElem? (i := 235) (by decide +kernel))) rfl
theorem wd_476 : (.code ⟨"NameForge", "put", "(IIIII)I"⟩ prog_1_method_3_code 6 (some .int) : Cond) ∈ wT := wT_in (tb_1 _ (List.mem_of_getElem? (i := 236) (by decide +kernel))) rfl
theorem wd_477 : (.methodLink "NameForge" 80 ⟨"NameForge$Program", "has", "(I)Z"⟩ : Cond) ∈ wT := wT_in (tb_1 _ (List.mem_of_getElem? (i := 237) (by decide +kernel))) rfl
theorem wd_478 : (.instanceMethod ⟨"NameForge$Program", "has", "(I)Z"⟩ : Cond) ∈ wT := wT_in (tb_1 _ (List.mem_of_getElem? (i := 238) (by decide +kernel))) rfl
theorem wd_479 : (.selects "NameForge$Program" ⟨"NameForge$Program", "has", "(I)Z"⟩ ⟨"NameForge$Program", "has", "(I)Z"⟩ : Cond) ∈ wT := wT_in (tb_1 _ (List.mem_of_getElem? (i := 239) (by decide +kernel))) rfl
theorem wd_480 : (.code ⟨"NameForge$Program", "has", "(I)Z"⟩ prog_6_method_2_code 2 (some .boolean) : Cond) ∈ wT := wT_in (tb_2 _ (List.mem_of_getElem? (i := 0) (by decide +kernel))) rfl
theorem wd_496 : (.classLink "NameForge" 88 "java/lang/IllegalArgumentException" : Cond) ∈ wT := wT_in (tb_2 _ (List.mem_of_getElem? (i := 16) (by decide +kernel))) rfl
theorem wd_497 : (.instantiable "java/lang/IllegalArgumentException" 6 : Cond) ∈ wT := wT_in (tb_2 _ (List.mem_of_getElem? (i := 17) (by decide +kernel))) rfl
theorem wz_498 : (.castable "java/lang/IllegalArgumentException" "java/lang/IllegalArgumentException" : Cond) ∈ lw_tbl := tb_2 _ (List.mem_of_getElem? (i := 18) (by decide +kernel))
theorem wz_505 : (.stringRef "NameForge" 90 "no such block, kind or variable" : Cond) ∈ lw_tbl := tb_2 _ (List.mem_of_getElem? (i := 25) (by decide +kernel))
theorem wd_517 : (.methodLink "NameForgeLaw" 77 ⟨"NameForgeLaw", "go", "(LNameForge;II)I"⟩ : Cond) ∈ wT := wT_in (tb_2 _ (List.mem_of_getElem? (i := 37) (by decide +kernel))) rfl
theorem wd_518 : (.static ⟨"NameForgeLaw", "go", "(LNameForge;II)I"⟩ : Cond) ∈ wT := wT_in (tb_2 _ (List.mem_of_getElem? (i := 38) (by decide +kernel))) rfl
theorem wd_519 : (.codeWith ⟨"NameForgeLaw", "go", "(LNameForge;II)I"⟩ method_5_code 4 (some .int) [(0, 6, 9, 19)] : Cond) ∈ wT := wT_in (tb_2 _ (List.mem_of_getElem? (i := 39) (by decide +kernel))) rfl
theorem wd_520 : (.methodLink "NameForgeLaw" 21 ⟨"NameForge", "go", "(II)V"⟩ : Cond) ∈ wT := wT_in (tb_2 _ (List.mem_of_getElem? (i := 40) (by decide +kernel))) rfl
theorem wd_521 : (.instanceMethod ⟨"NameForge", "go", "(II)V"⟩ : Cond) ∈ wT := wT_in (tb_2 _ (List.mem_of_getElem? (i := 41) (by decide +kernel))) rfl
theorem wd_522 : (.selects "NameForge" ⟨"NameForge", "go", "(II)V"⟩ ⟨"NameForge", "go", "(II)V"⟩ : Cond) ∈ wT := wT_in (tb_2 _ (List.mem_of_getElem? (i := 42) (by decide +kernel))) rfl
theorem wd_523 : (.code ⟨"NameForge", "go", "(II)V"⟩ prog_1_method_4_code 3 none : Cond) ∈ wT := wT_in (tb_2 _ (List.mem_of_getElem? (i := 43) (by decide +kernel))) rfl
theorem wz_529 : (.stringRef "NameForge" 106 "no such block, or none to go to" : Cond) ∈ lw_tbl := tb_2 _ (List.mem_of_getElem? (i := 49) (by decide +kernel))
theorem wd_531 : (.methodLink "NameForgeLaw" 81 ⟨"NameForgeLaw", "fork", "(LNameForge;IIII)I"⟩ : Cond) ∈ wT := wT_in (tb_2 _ (List.mem_of_getElem? (i := 51) (by decide +kernel))) rfl
theorem wd_532 : (.static ⟨"NameForgeLaw", "fork", "(LNameForge;IIII)I"⟩ : Cond) ∈ wT := wT_in (tb_2 _ (List.mem_of_getElem? (i := 52) (by decide +kernel))) rfl
theorem wd_533 : (.codeWith ⟨"NameForgeLaw", "fork", "(LNameForge;IIII)I"⟩ method_6_code 6 (some .int) [(0, 9, 12, 19)] : Cond) ∈ wT := wT_in (tb_2 _ (List.mem_of_getElem? (i := 53) (by decide +kernel))) rfl
theorem wd_534 : (.methodLink "NameForgeLaw" 25 ⟨"NameForge", "fork", "(IIII)V"⟩ : Cond) ∈ wT := wT_in (tb_2 _ (List.mem_of_getElem? (i := 54) (by decide +kernel))) rfl
theorem wd_535 : (.instanceMethod ⟨"NameForge", "fork", "(IIII)V"⟩ : Cond) ∈ wT := wT_in (tb_2 _ (List.mem_of_getElem? (i := 55) (by decide +kernel))) rfl
theorem wd_536 : (.selects "NameForge" ⟨"NameForge", "fork", "(IIII)V"⟩ ⟨"NameForge", "fork", "(IIII)V"⟩ : Cond) ∈ wT := wT_in (tb_2 _ (List.mem_of_getElem? (i := 56) (by decide +kernel))) rfl
theorem wd_537 : (.code ⟨"NameForge", "fork", "(IIII)V"⟩ prog_1_method_5_code 5 none : Cond) ∈ wT := wT_in (tb_2 _ (List.mem_of_getElem? (i := 57) (by decide +kernel))) rfl
theorem wz_538 : (.stringRef "NameForge" 115 "no such block or variable, or none to go to" : Cond) ∈ lw_tbl := tb_2 _ (List.mem_of_getElem? (i := 58) (by decide +kernel))
theorem wd_539 : (.methodLink "NameForgeLaw" 85 ⟨"NameForgeLaw", "stop", "(LNameForge;I)I"⟩ : Cond) ∈ wT := wT_in (tb_2 _ (List.mem_of_getElem? (i := 59) (by decide +kernel))) rfl
theorem wd_540 : (.static ⟨"NameForgeLaw", "stop", "(LNameForge;I)I"⟩ : Cond) ∈ wT := wT_in (tb_2 _ (List.mem_of_getElem? (i := 60) (by decide +kernel))) rfl
theorem wd_541 : (.codeWith ⟨"NameForgeLaw", "stop", "(LNameForge;I)I"⟩ method_7_code 3 (some .int) [(0, 5, 8, 19)] : Cond) ∈ wT := wT_in (tb_2 _ (List.mem_of_getElem? (i := 61) (by decide +kernel))) rfl
theorem wd_542 : (.methodLink "NameForgeLaw" 29 ⟨"NameForge", "stop", "(I)V"⟩ : Cond) ∈ wT := wT_in (tb_2 _ (List.mem_of_getElem? (i := 62) (by decide +kernel))) rfl
theorem wd_543 : (.instanceMethod ⟨"NameForge", "stop", "(I)V"⟩ : Cond) ∈ wT := wT_in (tb_2 _ (List.mem_of_getElem? (i := 63) (by decide +kernel))) rfl
theorem wd_544 : (.selects "NameForge" ⟨"NameForge", "stop", "(I)V"⟩ ⟨"NameForge", "stop", "(I)V"⟩ : Cond) ∈ wT := wT_in (tb_2 _ (List.mem_of_getElem? (i := 64) (by decide +kernel))) rfl
theorem wd_545 : (.code ⟨"NameForge", "stop", "(I)V"⟩ prog_1_method_6_code 2 none : Cond) ∈ wT := wT_in (tb_2 _ (List.mem_of_getElem? (i := 65) (by decide +kernel))) rfl
theorem wz_546 : (.stringRef "NameForge" 117 "no such block" : Cond) ∈ lw_tbl := tb_2 _ (List.mem_of_getElem? (i := 66) (by decide +kernel))
theorem wd_547 : (.methodLink "NameForgeLaw" 93 ⟨"NameForgeLaw", "build", "(LNameForge;[J)I"⟩ : Cond) ∈ wT := wT_in (tb_2 _ (List.mem_of_getElem? (i := 67) (by decide +kernel))) rfl
theorem wd_548 : (.static ⟨"NameForgeLaw", "build", "(LNameForge;[J)I"⟩ : Cond) ∈ wT := wT_in (tb_2 _ (List.mem_of_getElem? (i := 68) (by decide +kernel))) rfl
theorem wd_549 : (.codeWith ⟨"NameForgeLaw", "build", "(LNameForge;[J)I"⟩ method_8_code 3 (some .int) [(0, 8, 11, 13)] : Cond) ∈ wT := wT_in (tb_2 _ (List.mem_of_getElem? (i := 69) (by decide +kernel))) rfl
theorem wd_550 : (.methodLink "NameForgeLaw" 33 ⟨"NameForge", "build", "()I"⟩ : Cond) ∈ wT := wT_in (tb_2 _ (List.mem_of_getElem? (i := 70) (by decide +kernel))) rfl
theorem wd_551 : (.instanceMethod ⟨"NameForge", "build", "()I"⟩ : Cond) ∈ wT := wT_in (tb_2 _ (List.mem_of_getElem? (i := 71) (by decide +kernel))) rfl
theorem wd_552 : (.selects "NameForge" ⟨"NameForge", "build", "()I"⟩ ⟨"NameForge", "build", "()I"⟩ : Cond) ∈ wT := wT_in (tb_2 _ (List.mem_of_getElem? (i := 72) (by decide +kernel))) rfl
theorem wd_553 : (.code ⟨"NameForge", "build", "()I"⟩ prog_1_method_8_code 1 (some .int) : Cond) ∈ wT := wT_in (tb_2 _ (List.mem_of_getElem? (i := 73) (by decide +kernel))) rfl
theorem wz_554 : (.stringRef "NameForge" 119 "there is no block" : Cond) ∈ lw_tbl := tb_2 _ (List.mem_of_getElem? (i := 74) (by decide +kernel))
theorem wd_688 : (.methodLink "NameForgeLaw" 96 ⟨"NameForgeLaw", "look", "(LNameForge;II[J)I"⟩ : Cond) ∈ wT := wT_in (tb_2 _ (List.mem_of_getElem? (i := 208) (by decide +kernel))) rfl
theorem wd_689 : (.static ⟨"NameForgeLaw", "look", "(LNameForge;II[J)I"⟩ : Cond) ∈ wT := wT_in (tb_2 _ (List.mem_of_getElem? (i := 209) (by decide +kernel))) rfl
theorem wd_690 : (.codeWith ⟨"NameForgeLaw", "look", "(LNameForge;II[J)I"⟩ method_9_code 5 (some .int) [(0, 10, 13, 40), (0, 10, 17, 13)] : Cond) ∈ wT := wT_in (tb_2 _ (List.mem_of_getElem? (i := 210) (by decide +kernel))) rfl
theorem wd_691 : (.classLink "NameForgeLaw" 40 "java/util/NoSuchElementException" : Cond) ∈ wT := wT_in (tb_2 _ (List.mem_of_getElem? (i := 211) (by decide +kernel))) rfl
theorem wd_692 : (.methodLink "NameForgeLaw" 36 ⟨"NameForge", "look", "(II)I"⟩ : Cond) ∈ wT := wT_in (tb_2 _ (List.mem_of_getElem? (i := 212) (by decide +kernel))) rfl
theorem wd_693 : (.instanceMethod ⟨"NameForge", "look", "(II)I"⟩ : Cond) ∈ wT := wT_in (tb_2 _ (List.mem_of_getElem? (i := 213) (by decide +kernel))) rfl
theorem wd_694 : (.selects "NameForge" ⟨"NameForge", "look", "(II)I"⟩ ⟨"NameForge", "look", "(II)I"⟩ : Cond) ∈ wT := wT_in (tb_2 _ (List.mem_of_getElem? (i := 214) (by decide +kernel))) rfl
theorem wd_695 : (.code ⟨"NameForge", "look", "(II)I"⟩ prog_1_method_9_code 3 (some .int) : Cond) ∈ wT := wT_in (tb_2 _ (List.mem_of_getElem? (i := 215) (by decide +kernel))) rfl
theorem wd_696 : (.classLink "NameForge" 136 "java/util/NoSuchElementException" : Cond) ∈ wT := wT_in (tb_2 _ (List.mem_of_getElem? (i := 216) (by decide +kernel))) rfl
theorem wd_697 : (.instantiable "java/util/NoSuchElementException" 6 : Cond) ∈ wT := wT_in (tb_2 _ (List.mem_of_getElem? (i := 217) (by decide +kernel))) rfl
theorem wz_698 : (.castable "java/util/NoSuchElementException" "java/util/NoSuchElementException" : Cond) ∈ lw_tbl := tb_2 _ (List.mem_of_getElem? (i := 218) (by decide +kernel))
theorem wz_705 : (.stringRef "NameForge" 138 "no such block or what" : Cond) ∈ lw_tbl := tb_2 _ (List.mem_of_getElem? (i := 225) (by decide +kernel))
theorem wz_712 : (.stringRef "NameForge" 141 "it is not built" : Cond) ∈ lw_tbl := tb_2 _ (List.mem_of_getElem? (i := 232) (by decide +kernel))
theorem wd_720 : (.methodLink "NameForgeLaw" 100 ⟨"NameForgeLaw", "phi", "(LNameForge;III[J)I"⟩ : Cond) ∈ wT := wT_in (tb_3 _ (List.mem_of_getElem? (i := 0) (by decide +kernel))) rfl
theorem wd_721 : (.static ⟨"NameForgeLaw", "phi", "(LNameForge;III[J)I"⟩ : Cond) ∈ wT := wT_in (tb_3 _ (List.mem_of_getElem? (i := 1) (by decide +kernel))) rfl
theorem wd_722 : (.codeWith ⟨"NameForgeLaw", "phi", "(LNameForge;III[J)I"⟩ method_10_code 6 (some .int) [(0, 12, 15, 40), (0, 12, 19, 13)] : Cond) ∈ wT := wT_in (tb_3 _ (List.mem_of_getElem? (i := 2) (by decide +kernel))) rfl
theorem wd_723 : (.methodLink "NameForgeLaw" 42 ⟨"NameForge", "phi", "(III)I"⟩ : Cond) ∈ wT := wT_in (tb_3 _ (List.mem_of_getElem? (i := 3) (by decide +kernel))) rfl
theorem wd_724 : (.instanceMethod ⟨"NameForge", "phi", "(III)I"⟩ : Cond) ∈ wT := wT_in (tb_3 _ (List.mem_of_getElem? (i := 4) (by decide +kernel))) rfl
theorem wd_725 : (.selects "NameForge" ⟨"NameForge", "phi", "(III)I"⟩ ⟨"NameForge", "phi", "(III)I"⟩ : Cond) ∈ wT := wT_in (tb_3 _ (List.mem_of_getElem? (i := 5) (by decide +kernel))) rfl
theorem wd_726 : (.code ⟨"NameForge", "phi", "(III)I"⟩ prog_1_method_10_code 5 (some .int) : Cond) ∈ wT := wT_in (tb_3 _ (List.mem_of_getElem? (i := 6) (by decide +kernel))) rfl
theorem wd_736 : (.methodLink "NameForgeLaw" 104 ⟨"NameForgeLaw", "uses", "(LNameForge;III[J)I"⟩ : Cond) ∈ wT := wT_in (tb_3 _ (List.mem_of_getElem? (i := 16) (by decide +kernel))) rfl
theorem wd_737 : (.static ⟨"NameForgeLaw", "uses", "(LNameForge;III[J)I"⟩ : Cond) ∈ wT := wT_in (tb_3 _ (List.mem_of_getElem? (i := 17) (by decide +kernel))) rfl
theorem wd_738 : (.codeWith ⟨"NameForgeLaw", "uses", "(LNameForge;III[J)I"⟩ method_11_code 6 (some .int) [(0, 12, 15, 40), (0, 12, 19, 13)] : Cond) ∈ wT := wT_in (tb_3 _ (List.mem_of_getElem? (i := 18) (by decide +kernel))) rfl
theorem wd_739 : (.methodLink "NameForgeLaw" 46 ⟨"NameForge", "uses", "(III)I"⟩ : Cond) ∈ wT := wT_in (tb_3 _ (List.mem_of_getElem? (i := 19) (by decide +kernel))) rfl
theorem wd_740 : (.instanceMethod ⟨"NameForge", "uses", "(III)I"⟩ : Cond) ∈ wT := wT_in (tb_3 _ (List.mem_of_getElem? (i := 20) (by decide +kernel))) rfl
theorem wd_741 : (.selects "NameForge" ⟨"NameForge", "uses", "(III)I"⟩ ⟨"NameForge", "uses", "(III)I"⟩ : Cond) ∈ wT := wT_in (tb_3 _ (List.mem_of_getElem? (i := 21) (by decide +kernel))) rfl
theorem wd_742 : (.code ⟨"NameForge", "uses", "(III)I"⟩ prog_1_method_11_code 4 (some .int) : Cond) ∈ wT := wT_in (tb_3 _ (List.mem_of_getElem? (i := 22) (by decide +kernel))) rfl
theorem wd_748 : (.methodLink "NameForgeLaw" 107 ⟨"NameForgeLaw", "name", "(LNameForge;II[J)I"⟩ : Cond) ∈ wT := wT_in (tb_3 _ (List.mem_of_getElem? (i := 28) (by decide +kernel))) rfl
theorem wd_749 : (.static ⟨"NameForgeLaw", "name", "(LNameForge;II[J)I"⟩ : Cond) ∈ wT := wT_in (tb_3 _ (List.mem_of_getElem? (i := 29) (by decide +kernel))) rfl
theorem wd_750 : (.codeWith ⟨"NameForgeLaw", "name", "(LNameForge;II[J)I"⟩ method_12_code 5 (some .int) [(0, 10, 13, 40), (0, 10, 17, 13)] : Cond) ∈ wT := wT_in (tb_3 _ (List.mem_of_getElem? (i := 30) (by decide +kernel))) rfl
theorem wd_751 : (.methodLink "NameForgeLaw" 49 ⟨"NameForge", "name", "(II)I"⟩ : Cond) ∈ wT := wT_in (tb_3 _ (List.mem_of_getElem? (i := 31) (by decide +kernel))) rfl
theorem wd_752 : (.instanceMethod ⟨"NameForge", "name", "(II)I"⟩ : Cond) ∈ wT := wT_in (tb_3 _ (List.mem_of_getElem? (i := 32) (by decide +kernel))) rfl
theorem wd_753 : (.selects "NameForge" ⟨"NameForge", "name", "(II)I"⟩ ⟨"NameForge", "name", "(II)I"⟩ : Cond) ∈ wT := wT_in (tb_3 _ (List.mem_of_getElem? (i := 33) (by decide +kernel))) rfl
theorem wd_754 : (.code ⟨"NameForge", "name", "(II)I"⟩ prog_1_method_12_code 3 (some .int) : Cond) ∈ wT := wT_in (tb_3 _ (List.mem_of_getElem? (i := 34) (by decide +kernel))) rfl
theorem wd_756 : (.methodLink "NameForgeLaw" 119 ⟨"NameForgeLaw", "run", "(LNameForge;ZI[J)I"⟩ : Cond) ∈ wT := wT_in (tb_3 _ (List.mem_of_getElem? (i := 36) (by decide +kernel))) rfl
theorem wd_757 : (.static ⟨"NameForgeLaw", "run", "(LNameForge;ZI[J)I"⟩ : Cond) ∈ wT := wT_in (tb_3 _ (List.mem_of_getElem? (i := 37) (by decide +kernel))) rfl
theorem wd_758 : (.codeWith ⟨"NameForgeLaw", "run", "(LNameForge;ZI[J)I"⟩ method_13_code 5 (some .int) [(0, 10, 13, 19), (0, 10, 17, 13)] : Cond) ∈ wT := wT_in (tb_3 _ (List.mem_of_getElem? (i := 38) (by decide +kernel))) rfl
theorem wd_759 : (.methodLink "NameForgeLaw" 52 ⟨"NameForge", "run", "(ZI)I"⟩ : Cond) ∈ wT := wT_in (tb_3 _ (List.mem_of_getElem? (i := 39) (by decide +kernel))) rfl
theorem wd_760 : (.instanceMethod ⟨"NameForge", "run", "(ZI)I"⟩ : Cond) ∈ wT := wT_in (tb_3 _ (List.mem_of_getElem? (i := 40) (by decide +kernel))) rfl
theorem wd_761 : (.selects "NameForge" ⟨"NameForge", "run", "(ZI)I"⟩ ⟨"NameForge", "run", "(ZI)I"⟩ : Cond) ∈ wT := wT_in (tb_3 _ (List.mem_of_getElem? (i := 41) (by decide +kernel))) rfl
theorem wd_762 : (.code ⟨"NameForge", "run", "(ZI)I"⟩ prog_1_method_15_code 3 (some .int) : Cond) ∈ wT := wT_in (tb_3 _ (List.mem_of_getElem? (i := 42) (by decide +kernel))) rfl
theorem wz_763 : (.stringRef "NameForge" 219 "steps are 0 to 200" : Cond) ∈ lw_tbl := tb_3 _ (List.mem_of_getElem? (i := 43) (by decide +kernel))
theorem wd_814 : (.methodLink "NameForgeLaw" 127 ⟨"NameForgeLaw", "heard", "(LNameForge;I[J)I"⟩ : Cond) ∈ wT := wT_in (tb_3 _ (List.mem_of_getElem? (i := 94) (by decide +kernel))) rfl
theorem wd_815 : (.static ⟨"NameForgeLaw", "heard", "(LNameForge;I[J)I"⟩ : Cond) ∈ wT := wT_in (tb_3 _ (List.mem_of_getElem? (i := 95) (by decide +kernel))) rfl
theorem wd_816 : (.codeWith ⟨"NameForgeLaw", "heard", "(LNameForge;I[J)I"⟩ method_14_code 4 (some .int) [(0, 9, 12, 40)] : Cond) ∈ wT := wT_in (tb_3 _ (List.mem_of_getElem? (i := 96) (by decide +kernel))) rfl
theorem wd_817 : (.methodLink "NameForgeLaw" 56 ⟨"NameForge", "heard", "(I)I"⟩ : Cond) ∈ wT := wT_in (tb_3 _ (List.mem_of_getElem? (i := 97) (by decide +kernel))) rfl
theorem wd_818 : (.instanceMethod ⟨"NameForge", "heard", "(I)I"⟩ : Cond) ∈ wT := wT_in (tb_3 _ (List.mem_of_getElem? (i := 98) (by decide +kernel))) rfl
theorem wd_819 : (.selects "NameForge" ⟨"NameForge", "heard", "(I)I"⟩ ⟨"NameForge", "heard", "(I)I"⟩ : Cond) ∈ wT := wT_in (tb_3 _ (List.mem_of_getElem? (i := 99) (by decide +kernel))) rfl
theorem wd_820 : (.code ⟨"NameForge", "heard", "(I)I"⟩ prog_1_method_17_code 2 (some .int) : Cond) ∈ wT := wT_in (tb_3 _ (List.mem_of_getElem? (i := 100) (by decide +kernel))) rfl
theorem wz_821 : (.stringRef "NameForge" 228 "not kept" : Cond) ∈ lw_tbl := tb_3 _ (List.mem_of_getElem? (i := 101) (by decide +kernel))
theorem wd_822 : (.classLink "NameForgeLaw" 61 "NameForgeModel" : Cond) ∈ wT := wT_in (tb_3 _ (List.mem_of_getElem? (i := 102) (by decide +kernel))) rfl
theorem wd_823 : (.instantiable "NameForgeModel" 41 : Cond) ∈ wT := wT_in (tb_3 _ (List.mem_of_getElem? (i := 103) (by decide +kernel))) rfl
theorem wd_824 : (.methodLink "NameForgeLaw" 63 ⟨"NameForgeModel", "<init>", "()V"⟩ : Cond) ∈ wT := wT_in (tb_3 _ (List.mem_of_getElem? (i := 104) (by decide +kernel))) rfl
theorem wd_825 : (.instanceMethod ⟨"NameForgeModel", "<init>", "()V"⟩ : Cond) ∈ wT := wT_in (tb_3 _ (List.mem_of_getElem? (i := 105) (by decide +kernel))) rfl
theorem wd_826 : (.code ⟨"NameForgeModel", "<init>", "()V"⟩ prog_9_method_1_code 1 none : Cond) ∈ wT := wT_in (tb_3 _ (List.mem_of_getElem? (i := 106) (by decide +kernel))) rfl
theorem wd_827 : (.methodLink "NameForgeModel" 1 ⟨"java/lang/Object", "<init>", "()V"⟩ : Cond) ∈ wT := wT_in (tb_3 _ (List.mem_of_getElem? (i := 107) (by decide +kernel))) rfl
theorem wd_828 : (.fieldLink "NameForgeModel" 101 "NameForgeModel" "thrown" "I" : Cond) ∈ wT := wT_in (tb_3 _ (List.mem_of_getElem? (i := 108) (by decide +kernel))) rfl
theorem wd_829 : (.fieldLink "NameForgeModel" 105 "NameForgeModel" "blocks" "I" : Cond) ∈ wT := wT_in (tb_3 _ (List.mem_of_getElem? (i := 109) (by decide +kernel))) rfl
theorem wd_830 : (.fieldLink "NameForgeModel" 7 "NameForgeModel" "counts" "[I" : Cond) ∈ wT := wT_in (tb_3 _ (List.mem_of_getElem? (i := 110) (by decide +kernel))) rfl
theorem wd_831 : (.fieldLink "NameForgeModel" 13 "NameForgeModel" "kinds" "[I" : Cond) ∈ wT := wT_in (tb_3 _ (List.mem_of_getElem? (i := 111) (by decide +kernel))) rfl
theorem wd_832 : (.fieldLink "NameForgeModel" 16 "NameForgeModel" "targets" "[I" : Cond) ∈ wT := wT_in (tb_3 _ (List.mem_of_getElem? (i := 112) (by decide +kernel))) rfl
theorem wd_833 : (.fieldLink "NameForgeModel" 19 "NameForgeModel" "firsts" "[I" : Cond) ∈ wT := wT_in (tb_3 _ (List.mem_of_getElem? (i := 113) (by decide +kernel))) rfl
theorem wd_834 : (.fieldLink "NameForgeModel" 22 "NameForgeModel" "seconds" "[I" : Cond) ∈ wT := wT_in (tb_3 _ (List.mem_of_getElem? (i := 114) (by decide +kernel))) rfl
theorem wd_835 : (.fieldLink "NameForgeModel" 25 "NameForgeModel" "ends" "[I" : Cond) ∈ wT := wT_in (tb_3 _ (List.mem_of_getElem? (i := 115) (by decide +kernel))) rfl
theorem wd_836 : (.fieldLink "NameForgeModel" 28 "NameForgeModel" "tests" "[I" : Cond) ∈ wT := wT_in (tb_3 _ (List.mem_of_getElem? (i := 116) (by decide +kernel))) rfl
theorem wd_837 : (.fieldLink "NameForgeModel" 31 "NameForgeModel" "thens" "[I" : Cond) ∈ wT := wT_in (tb_3 _ (List.mem_of_getElem? (i := 117) (by decide +kernel))) rfl
theorem wd_838 : (.fieldLink "NameForgeModel" 34 "NameForgeModel" "elses" "[I" : Cond) ∈ wT := wT_in (tb_3 _ (List.mem_of_getElem? (i := 118) (by decide +kernel))) rfl
theorem wd_839 : (.fieldLink "NameForgeModel" 112 "NameForgeModel" "built" "Z" : Cond) ∈ wT := wT_in (tb_3 _ (List.mem_of_getElem? (i := 119) (by decide +kernel))) rfl
theorem wd_841 : (.fieldLink "NameForgeModel" 37 "NameForgeModel" "over" "[I" : Cond) ∈ wT := wT_in (tb_3 _ (List.mem_of_getElem? (i := 121) (by decide +kernel))) rfl
theorem wd_842 : (.fieldLink "NameForgeModel" 40 "NameForgeModel" "before" "[I" : Cond) ∈ wT := wT_in (tb_3 _ (List.mem_of_getElem? (i := 122) (by decide +kernel))) rfl
theorem wd_843 : (.fieldLink "NameForgeModel" 43 "NameForgeModel" "parent" "[I" : Cond) ∈ wT := wT_in (tb_3 _ (List.mem_of_getElem? (i := 123) (by decide +kernel))) rfl
theorem wd_844 : (.fieldLink "NameForgeModel" 46 "NameForgeModel" "phis" "[I" : Cond) ∈ wT := wT_in (tb_3 _ (List.mem_of_getElem? (i := 124) (by decide +kernel))) rfl
theorem wd_846 : (.fieldLink "NameForgeModel" 49 "NameForgeModel" "blockOf" "[I" : Cond) ∈ wT := wT_in (tb_3 _ (List.mem_of_getElem? (i := 126) (by decide +kernel))) rfl
theorem wd_847 : (.fieldLink "NameForgeModel" 52 "NameForgeModel" "madeBy" "[I" : Cond) ∈ wT := wT_in (tb_3 _ (List.mem_of_getElem? (i := 127) (by decide +kernel))) rfl
theorem wd_848 : (.fieldLink "NameForgeModel" 55 "NameForgeModel" "phiName" "[I" : Cond) ∈ wT := wT_in (tb_3 _ (List.mem_of_getElem? (i := 128) (by decide +kernel))) rfl
theorem wd_849 : (.fieldLink "NameForgeModel" 58 "NameForgeModel" "sets" "[I" : Cond) ∈ wT := wT_in (tb_3 _ (List.mem_of_getElem? (i := 129) (by decide +kernel))) rfl
theorem wd_850 : (.fieldLink "NameForgeModel" 61 "NameForgeModel" "usesX" "[I" : Cond) ∈ wT := wT_in (tb_3 _ (List.mem_of_getElem? (i := 130) (by decide +kernel))) rfl
theorem wd_851 : (.fieldLink "NameForgeModel" 64 "NameForgeModel" "usesY" "[I" : Cond) ∈ wT := wT_in (tb_3 _ (List.mem_of_getElem? (i := 131) (by decide +kernel))) rfl
theorem wd_852 : (.fieldLink "NameForgeModel" 67 "NameForgeModel" "testName" "[I" : Cond) ∈ wT := wT_in (tb_3 _ (List.mem_of_getElem? (i := 132) (by decide +kernel))) rfl
theorem wd_853 : (.fieldLink "NameForgeModel" 70 "NameForgeModel" "atEnd" "[I" : Cond) ∈ wT := wT_in (tb_3 _ (List.mem_of_getElem? (i := 133) (by decide +kernel))) rfl
theorem wd_854 : (.fieldLink "NameForgeModel" 73 "NameForgeModel" "walk" "[I" : Cond) ∈ wT := wT_in (tb_3 _ (List.mem_of_getElem? (i := 134) (by decide +kernel))) rfl
theorem wd_856 : (.fieldLink "NameForgeModel" 76 "NameForgeModel" "taken" "[I" : Cond) ∈ wT := wT_in (tb_3 _ (List.mem_of_getElem? (i := 136) (by decide +kernel))) rfl
theorem wd_857 : (.fieldLink "NameForgeModel" 79 "NameForgeModel" "state" "[I" : Cond) ∈ wT := wT_in (tb_3 _ (List.mem_of_getElem? (i := 137) (by decide +kernel))) rfl
theorem wd_858 : (.fieldLink "NameForgeModel" 82 "NameForgeModel" "number" "[I" : Cond) ∈ wT := wT_in (tb_3 _ (List.mem_of_getElem? (i := 138) (by decide +kernel))) rfl
theorem wd_859 : (.fieldLink "NameForgeModel" 85 "NameForgeModel" "needed" "[Z" : Cond) ∈ wT := wT_in (tb_3 _ (List.mem_of_getElem? (i := 139) (by decide +kernel))) rfl
theorem wd_860 : (.fieldLink "NameForgeModel" 217 "NameForgeModel" "given" "I" : Cond) ∈ wT := wT_in (tb_3 _ (List.mem_of_getElem? (i := 140) (by decide +kernel))) rfl
theorem wd_861 : (.fieldLink "NameForgeModel" 89 "NameForgeModel" "input" "[I" : Cond) ∈ wT := wT_in (tb_3 _ (List.mem_of_getElem? (i := 141) (by decide +kernel))) rfl
theorem wd_862 : (.fieldLink "NameForgeModel" 223 "NameForgeModel" "asked" "I" : Cond) ∈ wT := wT_in (tb_3 _ (List.mem_of_getElem? (i := 142) (by decide +kernel))) rfl
theorem wd_863 : (.fieldLink "NameForgeModel" 220 "NameForgeModel" "told" "I" : Cond) ∈ wT := wT_in (tb_3 _ (List.mem_of_getElem? (i := 143) (by decide +kernel))) rfl
theorem wd_864 : (.fieldLink "NameForgeModel" 92 "NameForgeModel" "heard" "[I" : Cond) ∈ wT := wT_in (tb_3 _ (List.mem_of_getElem? (i := 144) (by decide +kernel))) rfl
theorem wd_865 : (.fieldLink "NameForgeModel" 242 "NameForgeModel" "ran" "I" : Cond) ∈ wT := wT_in (tb_3 _ (List.mem_of_getElem? (i := 145) (by decide +kernel))) rfl
theorem wd_866 : (.fieldLink "NameForgeModel" 230 "NameForgeModel" "done" "I" : Cond) ∈ wT := wT_in (tb_3 _ (List.mem_of_getElem? (i := 146) (by decide +kernel))) rfl
theorem wd_867 : (.fieldLink "NameForgeModel" 95 "NameForgeModel" "now" "[I" : Cond) ∈ wT := wT_in (tb_3 _ (List.mem_of_getElem? (i := 147) (by decide +kernel))) rfl
theorem wd_868 : (.fieldLink "NameForgeModel" 98 "NameForgeModel" "next" "[I" : Cond) ∈ wT := wT_in (tb_3 _ (List.mem_of_getElem? (i := 148) (by decide +kernel))) rfl
theorem wd_869 : (.lays "NameForgeModel" "NameForgeModel" "thrown" "I" : Cond) ∈ wT := wT_in (tb_3 _ (List.mem_of_getElem? (i := 149) (by decide +kernel))) rfl
theorem wd_871 : (.lays "NameForgeModel" "NameForgeModel" "blocks" "I" : Cond) ∈ wT := wT_in (tb_3 _ (List.mem_of_getElem? (i := 151) (by decide +kernel))) rfl
theorem wd_873 : (.laysFinal "NameForgeModel" "NameForgeModel" "counts" "[I" : Cond) ∈ wT := wT_in (tb_3 _ (List.mem_of_getElem? (i := 153) (by decide +kernel))) rfl
theorem wd_875 : (.laysFinal "NameForgeModel" "NameForgeModel" "kinds" "[I" : Cond) ∈ wT := wT_in (tb_3 _ (List.mem_of_getElem? (i := 155) (by decide +kernel))) rfl
theorem wd_877 : (.laysFinal "NameForgeModel" "NameForgeModel" "targets" "[I" : Cond) ∈ wT := wT_in (tb_3 _ (List.mem_of_getElem? (i := 157) (by decide +kernel))) rfl
theorem wd_879 : (.laysFinal "NameForgeModel" "NameForgeModel" "firsts" "[I" : Cond) ∈ wT := wT_in (tb_3 _ (List.mem_of_getElem? (i := 159) (by decide +kernel))) rfl
theorem wd_881 : (.laysFinal "NameForgeModel" "NameForgeModel" "seconds" "[I" : Cond) ∈ wT := wT_in (tb_3 _ (List.mem_of_getElem? (i := 161) (by decide +kernel))) rfl
theorem wd_883 : (.laysFinal "NameForgeModel" "NameForgeModel" "ends" "[I" : Cond) ∈ wT := wT_in (tb_3 _ (List.mem_of_getElem? (i := 163) (by decide +kernel))) rfl
theorem wd_885 : (.laysFinal "NameForgeModel" "NameForgeModel" "tests" "[I" : Cond) ∈ wT := wT_in (tb_3 _ (List.mem_of_getElem? (i := 165) (by decide +kernel))) rfl
theorem wd_887 : (.laysFinal "NameForgeModel" "NameForgeModel" "thens" "[I" : Cond) ∈ wT := wT_in (tb_3 _ (List.mem_of_getElem? (i := 167) (by decide +kernel))) rfl
theorem wd_889 : (.laysFinal "NameForgeModel" "NameForgeModel" "elses" "[I" : Cond) ∈ wT := wT_in (tb_3 _ (List.mem_of_getElem? (i := 169) (by decide +kernel))) rfl
theorem wd_891 : (.lays "NameForgeModel" "NameForgeModel" "built" "Z" : Cond) ∈ wT := wT_in (tb_3 _ (List.mem_of_getElem? (i := 171) (by decide +kernel))) rfl
theorem wd_893 : (.lays "NameForgeModel" "NameForgeModel" "reached" "I" : Cond) ∈ wT := wT_in (tb_3 _ (List.mem_of_getElem? (i := 173) (by decide +kernel))) rfl
theorem wd_895 : (.laysFinal "NameForgeModel" "NameForgeModel" "over" "[I" : Cond) ∈ wT := wT_in (tb_3 _ (List.mem_of_getElem? (i := 175) (by decide +kernel))) rfl
theorem wd_897 : (.laysFinal "NameForgeModel" "NameForgeModel" "before" "[I" : Cond) ∈ wT := wT_in (tb_3 _ (List.mem_of_getElem? (i := 177) (by decide +kernel))) rfl
theorem wd_899 : (.laysFinal "NameForgeModel" "NameForgeModel" "parent" "[I" : Cond) ∈ wT := wT_in (tb_3 _ (List.mem_of_getElem? (i := 179) (by decide +kernel))) rfl
theorem wd_901 : (.laysFinal "NameForgeModel" "NameForgeModel" "phis" "[I" : Cond) ∈ wT := wT_in (tb_3 _ (List.mem_of_getElem? (i := 181) (by decide +kernel))) rfl
theorem wd_903 : (.lays "NameForgeModel" "NameForgeModel" "names" "I" : Cond) ∈ wT := wT_in (tb_3 _ (List.mem_of_getElem? (i := 183) (by decide +kernel))) rfl
theorem wd_905 : (.laysFinal "NameForgeModel" "NameForgeModel" "blockOf" "[I" : Cond) ∈ wT := wT_in (tb_3 _ (List.mem_of_getElem? (i := 185) (by decide +kernel))) rfl
theorem wd_907 : (.laysFinal "NameForgeModel" "NameForgeModel" "madeBy" "[I" : Cond) ∈ wT := wT_in (tb_3 _ (List.mem_of_getElem? (i := 187) (by decide +kernel))) rfl
theorem wd_909 : (.laysFinal "NameForgeModel" "NameForgeModel" "phiName" "[I" : Cond) ∈ wT := wT_in (tb_3 _ (List.mem_of_getElem? (i := 189) (by decide +kernel))) rfl
theorem wd_911 : (.laysFinal "NameForgeModel" "NameForgeModel" "sets" "[I" : Cond) ∈ wT := wT_in (tb_3 _ (List.mem_of_getElem? (i := 191) (by decide +kernel))) rfl
theorem wd_913 : (.laysFinal "NameForgeModel" "NameForgeModel" "usesX" "[I" : Cond) ∈ wT := wT_in (tb_3 _ (List.mem_of_getElem? (i := 193) (by decide +kernel))) rfl
theorem wd_915 : (.laysFinal "NameForgeModel" "NameForgeModel" "usesY" "[I" : Cond) ∈ wT := wT_in (tb_3 _ (List.mem_of_getElem? (i := 195) (by decide +kernel))) rfl
theorem wd_917 : (.laysFinal "NameForgeModel" "NameForgeModel" "testName" "[I" : Cond) ∈ wT := wT_in (tb_3 _ (List.mem_of_getElem? (i := 197) (by decide +kernel))) rfl
theorem wd_919 : (.laysFinal "NameForgeModel" "NameForgeModel" "atEnd" "[I" : Cond) ∈ wT := wT_in (tb_3 _ (List.mem_of_getElem? (i := 199) (by decide +kernel))) rfl
theorem wd_921 : (.laysFinal "NameForgeModel" "NameForgeModel" "walk" "[I" : Cond) ∈ wT := wT_in (tb_3 _ (List.mem_of_getElem? (i := 201) (by decide +kernel))) rfl
theorem wd_923 : (.lays "NameForgeModel" "NameForgeModel" "comeTo" "I" : Cond) ∈ wT := wT_in (tb_3 _ (List.mem_of_getElem? (i := 203) (by decide +kernel))) rfl
theorem wd_925 : (.laysFinal "NameForgeModel" "NameForgeModel" "taken" "[I" : Cond) ∈ wT := wT_in (tb_3 _ (List.mem_of_getElem? (i := 205) (by decide +kernel))) rfl
theorem wd_927 : (.laysFinal "NameForgeModel" "NameForgeModel" "state" "[I" : Cond) ∈ wT := wT_in (tb_3 _ (List.mem_of_getElem? (i := 207) (by decide +kernel))) rfl
theorem wd_929 : (.laysFinal "NameForgeModel" "NameForgeModel" "number" "[I" : Cond) ∈ wT := wT_in (tb_3 _ (List.mem_of_getElem? (i := 209) (by decide +kernel))) rfl
theorem wd_931 : (.laysFinal "NameForgeModel" "NameForgeModel" "needed" "[Z" : Cond) ∈ wT := wT_in (tb_3 _ (List.mem_of_getElem? (i := 211) (by decide +kernel))) rfl
theorem wd_933 : (.lays "NameForgeModel" "NameForgeModel" "given" "I" : Cond) ∈ wT := wT_in (tb_3 _ (List.mem_of_getElem? (i := 213) (by decide +kernel))) rfl
theorem wd_935 : (.laysFinal "NameForgeModel" "NameForgeModel" "input" "[I" : Cond) ∈ wT := wT_in (tb_3 _ (List.mem_of_getElem? (i := 215) (by decide +kernel))) rfl
theorem wd_937 : (.lays "NameForgeModel" "NameForgeModel" "asked" "I" : Cond) ∈ wT := wT_in (tb_3 _ (List.mem_of_getElem? (i := 217) (by decide +kernel))) rfl
theorem wd_939 : (.lays "NameForgeModel" "NameForgeModel" "told" "I" : Cond) ∈ wT := wT_in (tb_3 _ (List.mem_of_getElem? (i := 219) (by decide +kernel))) rfl
theorem wd_941 : (.laysFinal "NameForgeModel" "NameForgeModel" "heard" "[I" : Cond) ∈ wT := wT_in (tb_3 _ (List.mem_of_getElem? (i := 221) (by decide +kernel))) rfl
theorem wd_943 : (.lays "NameForgeModel" "NameForgeModel" "ran" "I" : Cond) ∈ wT := wT_in (tb_3 _ (List.mem_of_getElem? (i := 223) (by decide +kernel))) rfl
theorem wd_945 : (.lays "NameForgeModel" "NameForgeModel" "done" "I" : Cond) ∈ wT := wT_in (tb_3 _ (List.mem_of_getElem? (i := 225) (by decide +kernel))) rfl
theorem wd_947 : (.laysFinal "NameForgeModel" "NameForgeModel" "now" "[I" : Cond) ∈ wT := wT_in (tb_3 _ (List.mem_of_getElem? (i := 227) (by decide +kernel))) rfl
theorem wd_949 : (.laysFinal "NameForgeModel" "NameForgeModel" "next" "[I" : Cond) ∈ wT := wT_in (tb_3 _ (List.mem_of_getElem? (i := 229) (by decide +kernel))) rfl
theorem wd_952 : (.methodLink "NameForgeLaw" 70 ⟨"NameForgeModel", "thrown", "()I"⟩ : Cond) ∈ wT := wT_in (tb_3 _ (List.mem_of_getElem? (i := 232) (by decide +kernel))) rfl
theorem wd_953 : (.instanceMethod ⟨"NameForgeModel", "thrown", "()I"⟩ : Cond) ∈ wT := wT_in (tb_3 _ (List.mem_of_getElem? (i := 233) (by decide +kernel))) rfl
theorem wd_954 : (.selects "NameForgeModel" ⟨"NameForgeModel", "thrown", "()I"⟩ ⟨"NameForgeModel", "thrown", "()I"⟩ : Cond) ∈ wT := wT_in (tb_3 _ (List.mem_of_getElem? (i := 234) (by decide +kernel))) rfl
theorem wd_955 : (.code ⟨"NameForgeModel", "thrown", "()I"⟩ prog_9_method_2_code 1 (some .int) : Cond) ∈ wT := wT_in (tb_3 _ (List.mem_of_getElem? (i := 235) (by decide +kernel))) rfl
theorem wd_956 : (.methodLink "NameForgeLaw" 69 ⟨"NameForgeModel", "block", "()I"⟩ : Cond) ∈ wT := wT_in (tb_3 _ (List.mem_of_getElem? (i := 236) (by decide +kernel))) rfl
theorem wd_957 : (.instanceMethod ⟨"NameForgeModel", "block", "()I"⟩ : Cond) ∈ wT := wT_in (tb_3 _ (List.mem_of_getElem? (i := 237) (by decide +kernel))) rfl
theorem wd_958 : (.selects "NameForgeModel" ⟨"NameForgeModel", "block", "()I"⟩ ⟨"NameForgeModel", "block", "()I"⟩ : Cond) ∈ wT := wT_in (tb_3 _ (List.mem_of_getElem? (i := 238) (by decide +kernel))) rfl
theorem wd_959 : (.code ⟨"NameForgeModel", "block", "()I"⟩ prog_9_method_9_code 1 (some .int) : Cond) ∈ wT := wT_in (tb_3 _ (List.mem_of_getElem? (i := 239) (by decide +kernel))) rfl
theorem wd_960 : (.methodLink "NameForgeModel" 108 ⟨"NameForgeModel", "fails", "(ZI)Z"⟩ : Cond) ∈ wT := wT_in (tb_4 _ (List.mem_of_getElem? (i := 0) (by decide +kernel))) rfl
theorem wd_962 : (.instanceMethod ⟨"NameForgeModel", "fails", "(ZI)Z"⟩ : Cond) ∈ wT := wT_in (tb_4 _ (List.mem_of_getElem? (i := 2) (by decide +kernel))) rfl
theorem wd_963 : (.code ⟨"NameForgeModel", "fails", "(ZI)Z"⟩ prog_9_method_3_code 3 (some .boolean) : Cond) ∈ wT := wT_in (tb_4 _ (List.mem_of_getElem? (i := 3) (by decide +kernel))) rfl
theorem wd_964 : (.methodLink "NameForgeLaw" 76 ⟨"NameForgeModel", "put", "(IIIII)I"⟩ : Cond) ∈ wT := wT_in (tb_4 _ (List.mem_of_getElem? (i := 4) (by decide +kernel))) rfl
theorem wd_965 : (.instanceMethod ⟨"NameForgeModel", "put", "(IIIII)I"⟩ : Cond) ∈ wT := wT_in (tb_4 _ (List.mem_of_getElem? (i := 5) (by decide +kernel))) rfl
theorem wd_966 : (.selects "NameForgeModel" ⟨"NameForgeModel", "put", "(IIIII)I"⟩ ⟨"NameForgeModel", "put", "(IIIII)I"⟩ : Cond) ∈ wT := wT_in (tb_4 _ (List.mem_of_getElem? (i := 6) (by decide +kernel))) rfl
theorem wd_967 : (.code ⟨"NameForgeModel", "put", "(IIIII)I"⟩ prog_9_method_10_code 8 (some .int) : Cond) ∈ wT := wT_in (tb_4 _ (List.mem_of_getElem? (i := 7) (by decide +kernel))) rfl
theorem wd_968 : (.methodLink "NameForgeModel" 116 ⟨"NameForgeModel", "noBlock", "(I)Z"⟩ : Cond) ∈ wT := wT_in (tb_4 _ (List.mem_of_getElem? (i := 8) (by decide +kernel))) rfl
theorem wd_970 : (.instanceMethod ⟨"NameForgeModel", "noBlock", "(I)Z"⟩ : Cond) ∈ wT := wT_in (tb_4 _ (List.mem_of_getElem? (i := 10) (by decide +kernel))) rfl
theorem wd_971 : (.code ⟨"NameForgeModel", "noBlock", "(I)Z"⟩ prog_9_method_4_code 2 (some .boolean) : Cond) ∈ wT := wT_in (tb_4 _ (List.mem_of_getElem? (i := 11) (by decide +kernel))) rfl
theorem wd_984 : (.methodLink "NameForgeLaw" 80 ⟨"NameForgeModel", "go", "(II)V"⟩ : Cond) ∈ wT := wT_in (tb_4 _ (List.mem_of_getElem? (i := 24) (by decide +kernel))) rfl
theorem wd_985 : (.instanceMethod ⟨"NameForgeModel", "go", "(II)V"⟩ : Cond) ∈ wT := wT_in (tb_4 _ (List.mem_of_getElem? (i := 25) (by decide +kernel))) rfl
theorem wd_986 : (.selects "NameForgeModel" ⟨"NameForgeModel", "go", "(II)V"⟩ ⟨"NameForgeModel", "go", "(II)V"⟩ : Cond) ∈ wT := wT_in (tb_4 _ (List.mem_of_getElem? (i := 26) (by decide +kernel))) rfl
theorem wd_987 : (.code ⟨"NameForgeModel", "go", "(II)V"⟩ prog_9_method_12_code 3 none : Cond) ∈ wT := wT_in (tb_4 _ (List.mem_of_getElem? (i := 27) (by decide +kernel))) rfl
theorem wd_992 : (.methodLink "NameForgeLaw" 84 ⟨"NameForgeModel", "fork", "(IIII)V"⟩ : Cond) ∈ wT := wT_in (tb_4 _ (List.mem_of_getElem? (i := 32) (by decide +kernel))) rfl
theorem wd_993 : (.instanceMethod ⟨"NameForgeModel", "fork", "(IIII)V"⟩ : Cond) ∈ wT := wT_in (tb_4 _ (List.mem_of_getElem? (i := 33) (by decide +kernel))) rfl
theorem wd_994 : (.selects "NameForgeModel" ⟨"NameForgeModel", "fork", "(IIII)V"⟩ ⟨"NameForgeModel", "fork", "(IIII)V"⟩ : Cond) ∈ wT := wT_in (tb_4 _ (List.mem_of_getElem? (i := 34) (by decide +kernel))) rfl
theorem wd_995 : (.code ⟨"NameForgeModel", "fork", "(IIII)V"⟩ prog_9_method_13_code 5 none : Cond) ∈ wT := wT_in (tb_4 _ (List.mem_of_getElem? (i := 35) (by decide +kernel))) rfl
theorem wd_996 : (.methodLink "NameForgeLaw" 88 ⟨"NameForgeModel", "stop", "(I)V"⟩ : Cond) ∈ wT := wT_in (tb_4 _ (List.mem_of_getElem? (i := 36) (by decide +kernel))) rfl
theorem wd_997 : (.instanceMethod ⟨"NameForgeModel", "stop", "(I)V"⟩ : Cond) ∈ wT := wT_in (tb_4 _ (List.mem_of_getElem? (i := 37) (by decide +kernel))) rfl
theorem wd_998 : (.selects "NameForgeModel" ⟨"NameForgeModel", "stop", "(I)V"⟩ ⟨"NameForgeModel", "stop", "(I)V"⟩ : Cond) ∈ wT := wT_in (tb_4 _ (List.mem_of_getElem? (i := 38) (by decide +kernel))) rfl
theorem wd_999 : (.code ⟨"NameForgeModel", "stop", "(I)V"⟩ prog_9_method_14_code 2 none : Cond) ∈ wT := wT_in (tb_4 _ (List.mem_of_getElem? (i := 39) (by decide +kernel))) rfl
theorem wd_1000 : (.methodLink "NameForgeLaw" 92 ⟨"NameForgeModel", "clear", "()V"⟩ : Cond) ∈ wT := wT_in (tb_4 _ (List.mem_of_getElem? (i := 40) (by decide +kernel))) rfl
theorem wd_1001 : (.instanceMethod ⟨"NameForgeModel", "clear", "()V"⟩ : Cond) ∈ wT := wT_in (tb_4 _ (List.mem_of_getElem? (i := 41) (by decide +kernel))) rfl
theorem wd_1002 : (.selects "NameForgeModel" ⟨"NameForgeModel", "clear", "()V"⟩ ⟨"NameForgeModel", "clear", "()V"⟩ : Cond) ∈ wT := wT_in (tb_4 _ (List.mem_of_getElem? (i := 42) (by decide +kernel))) rfl
theorem wd_1003 : (.code ⟨"NameForgeModel", "clear", "()V"⟩ prog_9_method_15_code 1 none : Cond) ∈ wT := wT_in (tb_4 _ (List.mem_of_getElem? (i := 43) (by decide +kernel))) rfl
theorem wd_1004 : (.methodLink "NameForgeLaw" 95 ⟨"NameForgeModel", "build", "()I"⟩ : Cond) ∈ wT := wT_in (tb_4 _ (List.mem_of_getElem? (i := 44) (by decide +kernel))) rfl
theorem wd_1005 : (.instanceMethod ⟨"NameForgeModel", "build", "()I"⟩ : Cond) ∈ wT := wT_in (tb_4 _ (List.mem_of_getElem? (i := 45) (by decide +kernel))) rfl
theorem wd_1006 : (.selects "NameForgeModel" ⟨"NameForgeModel", "build", "()I"⟩ ⟨"NameForgeModel", "build", "()I"⟩ : Cond) ∈ wT := wT_in (tb_4 _ (List.mem_of_getElem? (i := 46) (by decide +kernel))) rfl
theorem wd_1007 : (.code ⟨"NameForgeModel", "build", "()I"⟩ prog_9_method_37_code 1 (some .int) : Cond) ∈ wT := wT_in (tb_4 _ (List.mem_of_getElem? (i := 47) (by decide +kernel))) rfl
theorem wd_1090 : (.methodLink "NameForgeLaw" 99 ⟨"NameForgeModel", "look", "(II)I"⟩ : Cond) ∈ wT := wT_in (tb_4 _ (List.mem_of_getElem? (i := 130) (by decide +kernel))) rfl
theorem wd_1091 : (.instanceMethod ⟨"NameForgeModel", "look", "(II)I"⟩ : Cond) ∈ wT := wT_in (tb_4 _ (List.mem_of_getElem? (i := 131) (by decide +kernel))) rfl
theorem wd_1092 : (.selects "NameForgeModel" ⟨"NameForgeModel", "look", "(II)I"⟩ ⟨"NameForgeModel", "look", "(II)I"⟩ : Cond) ∈ wT := wT_in (tb_4 _ (List.mem_of_getElem? (i := 132) (by decide +kernel))) rfl
theorem wd_1093 : (.code ⟨"NameForgeModel", "look", "(II)I"⟩ prog_9_method_38_code 4 (some .int) : Cond) ∈ wT := wT_in (tb_4 _ (List.mem_of_getElem? (i := 133) (by decide +kernel))) rfl
theorem wd_1094 : (.methodLink "NameForgeLaw" 103 ⟨"NameForgeModel", "phi", "(III)I"⟩ : Cond) ∈ wT := wT_in (tb_4 _ (List.mem_of_getElem? (i := 134) (by decide +kernel))) rfl
theorem wd_1095 : (.instanceMethod ⟨"NameForgeModel", "phi", "(III)I"⟩ : Cond) ∈ wT := wT_in (tb_4 _ (List.mem_of_getElem? (i := 135) (by decide +kernel))) rfl
theorem wd_1096 : (.selects "NameForgeModel" ⟨"NameForgeModel", "phi", "(III)I"⟩ ⟨"NameForgeModel", "phi", "(III)I"⟩ : Cond) ∈ wT := wT_in (tb_4 _ (List.mem_of_getElem? (i := 136) (by decide +kernel))) rfl
theorem wd_1097 : (.code ⟨"NameForgeModel", "phi", "(III)I"⟩ prog_9_method_40_code 6 (some .int) : Cond) ∈ wT := wT_in (tb_4 _ (List.mem_of_getElem? (i := 137) (by decide +kernel))) rfl
theorem wd_1102 : (.methodLink "NameForgeLaw" 106 ⟨"NameForgeModel", "uses", "(III)I"⟩ : Cond) ∈ wT := wT_in (tb_4 _ (List.mem_of_getElem? (i := 142) (by decide +kernel))) rfl
theorem wd_1103 : (.instanceMethod ⟨"NameForgeModel", "uses", "(III)I"⟩ : Cond) ∈ wT := wT_in (tb_4 _ (List.mem_of_getElem? (i := 143) (by decide +kernel))) rfl
theorem wd_1104 : (.selects "NameForgeModel" ⟨"NameForgeModel", "uses", "(III)I"⟩ ⟨"NameForgeModel", "uses", "(III)I"⟩ : Cond) ∈ wT := wT_in (tb_4 _ (List.mem_of_getElem? (i := 144) (by decide +kernel))) rfl
theorem wd_1105 : (.code ⟨"NameForgeModel", "uses", "(III)I"⟩ prog_9_method_41_code 6 (some .int) : Cond) ∈ wT := wT_in (tb_4 _ (List.mem_of_getElem? (i := 145) (by decide +kernel))) rfl
theorem wd_1106 : (.methodLink "NameForgeLaw" 109 ⟨"NameForgeModel", "name", "(II)I"⟩ : Cond) ∈ wT := wT_in (tb_4 _ (List.mem_of_getElem? (i := 146) (by decide +kernel))) rfl
theorem wd_1107 : (.instanceMethod ⟨"NameForgeModel", "name", "(II)I"⟩ : Cond) ∈ wT := wT_in (tb_4 _ (List.mem_of_getElem? (i := 147) (by decide +kernel))) rfl
theorem wd_1108 : (.selects "NameForgeModel" ⟨"NameForgeModel", "name", "(II)I"⟩ ⟨"NameForgeModel", "name", "(II)I"⟩ : Cond) ∈ wT := wT_in (tb_4 _ (List.mem_of_getElem? (i := 148) (by decide +kernel))) rfl
theorem wd_1109 : (.code ⟨"NameForgeModel", "name", "(II)I"⟩ prog_9_method_42_code 3 (some .int) : Cond) ∈ wT := wT_in (tb_4 _ (List.mem_of_getElem? (i := 149) (by decide +kernel))) rfl
theorem wd_1110 : (.methodLink "NameForgeLaw" 114 ⟨"NameForgeModel", "give", "(I)Z"⟩ : Cond) ∈ wT := wT_in (tb_4 _ (List.mem_of_getElem? (i := 150) (by decide +kernel))) rfl
theorem wd_1111 : (.instanceMethod ⟨"NameForgeModel", "give", "(I)Z"⟩ : Cond) ∈ wT := wT_in (tb_4 _ (List.mem_of_getElem? (i := 151) (by decide +kernel))) rfl
theorem wd_1112 : (.selects "NameForgeModel" ⟨"NameForgeModel", "give", "(I)Z"⟩ ⟨"NameForgeModel", "give", "(I)Z"⟩ : Cond) ∈ wT := wT_in (tb_4 _ (List.mem_of_getElem? (i := 152) (by decide +kernel))) rfl
theorem wd_1113 : (.code ⟨"NameForgeModel", "give", "(I)Z"⟩ prog_9_method_43_code 2 (some .boolean) : Cond) ∈ wT := wT_in (tb_4 _ (List.mem_of_getElem? (i := 153) (by decide +kernel))) rfl
theorem wd_1114 : (.methodLink "NameForgeLaw" 118 ⟨"NameForgeModel", "take", "()V"⟩ : Cond) ∈ wT := wT_in (tb_4 _ (List.mem_of_getElem? (i := 154) (by decide +kernel))) rfl
theorem wd_1115 : (.instanceMethod ⟨"NameForgeModel", "take", "()V"⟩ : Cond) ∈ wT := wT_in (tb_4 _ (List.mem_of_getElem? (i := 155) (by decide +kernel))) rfl
theorem wd_1116 : (.selects "NameForgeModel" ⟨"NameForgeModel", "take", "()V"⟩ ⟨"NameForgeModel", "take", "()V"⟩ : Cond) ∈ wT := wT_in (tb_4 _ (List.mem_of_getElem? (i := 156) (by decide +kernel))) rfl
theorem wd_1117 : (.code ⟨"NameForgeModel", "take", "()V"⟩ prog_9_method_44_code 1 none : Cond) ∈ wT := wT_in (tb_4 _ (List.mem_of_getElem? (i := 157) (by decide +kernel))) rfl
theorem wd_1118 : (.methodLink "NameForgeLaw" 122 ⟨"NameForgeModel", "run", "(ZI)I"⟩ : Cond) ∈ wT := wT_in (tb_4 _ (List.mem_of_getElem? (i := 158) (by decide +kernel))) rfl
theorem wd_1119 : (.instanceMethod ⟨"NameForgeModel", "run", "(ZI)I"⟩ : Cond) ∈ wT := wT_in (tb_4 _ (List.mem_of_getElem? (i := 159) (by decide +kernel))) rfl
theorem wd_1120 : (.selects "NameForgeModel" ⟨"NameForgeModel", "run", "(ZI)I"⟩ ⟨"NameForgeModel", "run", "(ZI)I"⟩ : Cond) ∈ wT := wT_in (tb_4 _ (List.mem_of_getElem? (i := 160) (by decide +kernel))) rfl
theorem wd_1121 : (.code ⟨"NameForgeModel", "run", "(ZI)I"⟩ prog_9_method_52_code 5 (some .int) : Cond) ∈ wT := wT_in (tb_4 _ (List.mem_of_getElem? (i := 161) (by decide +kernel))) rfl
theorem wd_1150 : (.methodLink "NameForgeLaw" 126 ⟨"NameForgeModel", "told", "()I"⟩ : Cond) ∈ wT := wT_in (tb_4 _ (List.mem_of_getElem? (i := 190) (by decide +kernel))) rfl
theorem wd_1151 : (.instanceMethod ⟨"NameForgeModel", "told", "()I"⟩ : Cond) ∈ wT := wT_in (tb_4 _ (List.mem_of_getElem? (i := 191) (by decide +kernel))) rfl
theorem wd_1152 : (.selects "NameForgeModel" ⟨"NameForgeModel", "told", "()I"⟩ ⟨"NameForgeModel", "told", "()I"⟩ : Cond) ∈ wT := wT_in (tb_4 _ (List.mem_of_getElem? (i := 192) (by decide +kernel))) rfl
theorem wd_1153 : (.code ⟨"NameForgeModel", "told", "()I"⟩ prog_9_method_53_code 1 (some .int) : Cond) ∈ wT := wT_in (tb_4 _ (List.mem_of_getElem? (i := 193) (by decide +kernel))) rfl
theorem wd_1154 : (.methodLink "NameForgeLaw" 130 ⟨"NameForgeModel", "heard", "(I)I"⟩ : Cond) ∈ wT := wT_in (tb_4 _ (List.mem_of_getElem? (i := 194) (by decide +kernel))) rfl
theorem wd_1155 : (.instanceMethod ⟨"NameForgeModel", "heard", "(I)I"⟩ : Cond) ∈ wT := wT_in (tb_4 _ (List.mem_of_getElem? (i := 195) (by decide +kernel))) rfl
theorem wd_1156 : (.selects "NameForgeModel" ⟨"NameForgeModel", "heard", "(I)I"⟩ ⟨"NameForgeModel", "heard", "(I)I"⟩ : Cond) ∈ wT := wT_in (tb_4 _ (List.mem_of_getElem? (i := 196) (by decide +kernel))) rfl
theorem wd_1157 : (.code ⟨"NameForgeModel", "heard", "(I)I"⟩ prog_9_method_54_code 2 (some .int) : Cond) ∈ wT := wT_in (tb_4 _ (List.mem_of_getElem? (i := 197) (by decide +kernel))) rfl
theorem wd_1158 : (.methodLink "NameForgeLaw" 134 ⟨"NameForgeModel", "spent", "(I)I"⟩ : Cond) ∈ wT := wT_in (tb_4 _ (List.mem_of_getElem? (i := 198) (by decide +kernel))) rfl
theorem wd_1159 : (.instanceMethod ⟨"NameForgeModel", "spent", "(I)I"⟩ : Cond) ∈ wT := wT_in (tb_4 _ (List.mem_of_getElem? (i := 199) (by decide +kernel))) rfl
theorem wd_1160 : (.selects "NameForgeModel" ⟨"NameForgeModel", "spent", "(I)I"⟩ ⟨"NameForgeModel", "spent", "(I)I"⟩ : Cond) ∈ wT := wT_in (tb_4 _ (List.mem_of_getElem? (i := 200) (by decide +kernel))) rfl
theorem wd_1161 : (.code ⟨"NameForgeModel", "spent", "(I)I"⟩ prog_9_method_55_code 2 (some .int) : Cond) ∈ wT := wT_in (tb_4 _ (List.mem_of_getElem? (i := 201) (by decide +kernel))) rfl
theorem wd_1162 : (.arrayClass .long : Cond) ∈ wT := wT_in (tb_4 _ (List.mem_of_getElem? (i := 202) (by decide +kernel))) rfl
theorem inN : ∀ w ∈ u_ws RN TN 7, w ∈ wT := by
  intro w hw
  obtain ⟨k, hk, rfl⟩ := List.mem_map.mp hw
  have hk := List.mem_range.mp hk
  match k, hk with
  | 0, _ => exact wd_346
  | 1, _ => exact wd_348
  | 2, _ => exact wd_350
  | 3, _ => exact wd_352
  | 4, _ => exact wd_354
  | 5, _ => exact wd_356
  | 6, _ => exact wd_358
  | k + 7, h => omega
theorem inP : ∀ w ∈ u_ws RP TP 10, w ∈ wT := by
  intro w hw
  obtain ⟨k, hk, rfl⟩ := List.mem_map.mp hw
  have hk := List.mem_range.mp hk
  match k, hk with
  | 0, _ => exact wd_72
  | 1, _ => exact wd_74
  | 2, _ => exact wd_76
  | 3, _ => exact wd_78
  | 4, _ => exact wd_80
  | 5, _ => exact wd_82
  | 6, _ => exact wd_84
  | 7, _ => exact wd_86
  | 8, _ => exact wd_88
  | 9, _ => exact wd_90
  | k + 10, h => omega
theorem inS : ∀ w ∈ u_ws RS TS 9, w ∈ wT := by
  intro w hw
  obtain ⟨k, hk, rfl⟩ := List.mem_map.mp hw
  have hk := List.mem_range.mp hk
  match k, hk with
  | 0, _ => exact wd_118
  | 1, _ => exact wd_120
  | 2, _ => exact wd_122
  | 3, _ => exact wd_124
  | 4, _ => exact wd_126
  | 5, _ => exact wd_128
  | 6, _ => exact wd_130
  | 7, _ => exact wd_132
  | 8, _ => exact wd_134
  | k + 9, h => omega
theorem inG : ∀ w ∈ u_ws RG TG 14, w ∈ wT := by
  intro w hw
  obtain ⟨k, hk, rfl⟩ := List.mem_map.mp hw
  have hk := List.mem_range.mp hk
  match k, hk with
  | 0, _ => exact wd_189
  | 1, _ => exact wd_191
  | 2, _ => exact wd_193
  | 3, _ => exact wd_195
  | 4, _ => exact wd_197
  | 5, _ => exact wd_199
  | 6, _ => exact wd_201
  | 7, _ => exact wd_203
  | 8, _ => exact wd_205
  | 9, _ => exact wd_207
  | 10, _ => exact wd_209
  | 11, _ => exact wd_211
  | 12, _ => exact wd_213
  | 13, _ => exact wd_215
  | k + 14, h => omega
theorem inK : ∀ w ∈ u_ws RK TK 8, w ∈ wT := by
  intro w hw
  obtain ⟨k, hk, rfl⟩ := List.mem_map.mp hw
  have hk := List.mem_range.mp hk
  match k, hk with
  | 0, _ => exact wd_239
  | 1, _ => exact wd_241
  | 2, _ => exact wd_243
  | 3, _ => exact wd_245
  | 4, _ => exact wd_247
  | 5, _ => exact wd_249
  | 6, _ => exact wd_251
  | 7, _ => exact wd_253
  | k + 8, h => omega
theorem inD : ∀ w ∈ u_ws RD TD 6, w ∈ wT := by
  intro w hw
  obtain ⟨k, hk, rfl⟩ := List.mem_map.mp hw
  have hk := List.mem_range.mp hk
  match k, hk with
  | 0, _ => exact wd_270
  | 1, _ => exact wd_272
  | 2, _ => exact wd_274
  | 3, _ => exact wd_276
  | 4, _ => exact wd_278
  | 5, _ => exact wd_280
  | k + 6, h => omega
theorem inA : ∀ w ∈ u_ws RA TA 14, w ∈ wT := by
  intro w hw
  obtain ⟨k, hk, rfl⟩ := List.mem_map.mp hw
  have hk := List.mem_range.mp hk
  match k, hk with
  | 0, _ => exact wd_310
  | 1, _ => exact wd_312
  | 2, _ => exact wd_314
  | 3, _ => exact wd_316
  | 4, _ => exact wd_318
  | 5, _ => exact wd_320
  | 6, _ => exact wd_322
  | 7, _ => exact wd_324
  | 8, _ => exact wd_326
  | 9, _ => exact wd_328
  | 10, _ => exact wd_330
  | 11, _ => exact wd_332
  | 12, _ => exact wd_334
  | 13, _ => exact wd_336
  | k + 14, h => omega
theorem inR : ∀ w ∈ u_ws RR TR 41, w ∈ wT := by
  intro w hw
  obtain ⟨k, hk, rfl⟩ := List.mem_map.mp hw
  have hk := List.mem_range.mp hk
  match k, hk with
  | 0, _ => exact wd_869
  | 1, _ => exact wd_871
  | 2, _ => exact wd_873
  | 3, _ => exact wd_875
  | 4, _ => exact wd_877
  | 5, _ => exact wd_879
  | 6, _ => exact wd_881
  | 7, _ => exact wd_883
  | 8, _ => exact wd_885
  | 9, _ => exact wd_887
  | 10, _ => exact wd_889
  | 11, _ => exact wd_891
  | 12, _ => exact wd_893
  | 13, _ => exact wd_895
  | 14, _ => exact wd_897
  | 15, _ => exact wd_899
  | 16, _ => exact wd_901
  | 17, _ => exact wd_903
  | 18, _ => exact wd_905
  | 19, _ => exact wd_907
  | 20, _ => exact wd_909
  | 21, _ => exact wd_911
  | 22, _ => exact wd_913
  | 23, _ => exact wd_915
  | 24, _ => exact wd_917
  | 25, _ => exact wd_919
  | 26, _ => exact wd_921
  | 27, _ => exact wd_923
  | 28, _ => exact wd_925
  | 29, _ => exact wd_927
  | 30, _ => exact wd_929
  | 31, _ => exact wd_931
  | 32, _ => exact wd_933
  | 33, _ => exact wd_935
  | 34, _ => exact wd_937
  | 35, _ => exact wd_939
  | 36, _ => exact wd_941
  | 37, _ => exact wd_943
  | 38, _ => exact wd_945
  | 39, _ => exact wd_947
  | 40, _ => exact wd_949
  | k + 41, h => omega
abbrev ix_IllegalArgumentException : Nat := 7
abbrev rx_IllegalArgumentException : ByteArray := prog_11_method_2_code
abbrev up_IllegalArgumentException : List String := ["java/lang/RuntimeException", "java/lang/Exception"]
theorem xa_IllegalArgumentException : decode rx_IllegalArgumentException 0 = .ok (.aload_n 0, 1) := by decide +kernel
theorem xb_IllegalArgumentException : decode rx_IllegalArgumentException 1 = .ok (.aload_n 1, 1) := by decide +kernel
theorem xc_IllegalArgumentException : decode rx_IllegalArgumentException 2 = .ok (.invokespecial ix_IllegalArgumentException, 3) := by decide +kernel
theorem xd_IllegalArgumentException : decode rx_IllegalArgumentException 5 = .ok (.return_, 1) := by decide +kernel
abbrev ix_IllegalStateException : Nat := 7
abbrev rx_IllegalStateException : ByteArray := prog_12_method_2_code
abbrev up_IllegalStateException : List String := ["java/lang/RuntimeException", "java/lang/Exception"]
theorem xa_IllegalStateException : decode rx_IllegalStateException 0 = .ok (.aload_n 0, 1) := by decide +kernel
theorem xb_IllegalStateException : decode rx_IllegalStateException 1 = .ok (.aload_n 1, 1) := by decide +kernel
theorem xc_IllegalStateException : decode rx_IllegalStateException 2 = .ok (.invokespecial ix_IllegalStateException, 3) := by decide +kernel
theorem xd_IllegalStateException : decode rx_IllegalStateException 5 = .ok (.return_, 1) := by decide +kernel
abbrev ix_NoSuchElementException : Nat := 13
abbrev rx_NoSuchElementException : ByteArray := prog_18_method_4_code
abbrev up_NoSuchElementException : List String := ["java/lang/RuntimeException", "java/lang/Exception"]
theorem xa_NoSuchElementException : decode rx_NoSuchElementException 0 = .ok (.aload_n 0, 1) := by decide +kernel
theorem xb_NoSuchElementException : decode rx_NoSuchElementException 1 = .ok (.aload_n 1, 1) := by decide +kernel
theorem xc_NoSuchElementException : decode rx_NoSuchElementException 2 = .ok (.invokespecial ix_NoSuchElementException, 3) := by decide +kernel
theorem xd_NoSuchElementException : decode rx_NoSuchElementException 5 = .ok (.return_, 1) := by decide +kernel
def strs : List (Nat × String) := [(90, "no such block, kind or variable"), (106, "no such block, or none to go to"), (115, "no such block or variable, or none to go to"), (117, "no such block"), (119, "there is no block"), (138, "no such block or what"), (141, "it is not built"), (219, "steps are 0 to 200"), (228, "not kept")]
def ncs : List (String × String) := [("java/lang/IllegalStateException", "java/lang/IllegalArgumentException"), ("java/lang/IllegalStateException", "java/util/NoSuchElementException")]
def cas : List (String × String) := [("java/lang/IllegalStateException", "java/lang/IllegalStateException"), ("java/lang/IllegalArgumentException", "java/lang/IllegalArgumentException"), ("java/util/NoSuchElementException", "java/util/NoSuchElementException")]
def dcl : List MethodName := [⟨"java/lang/RuntimeException", "<init>", "()V"⟩, ⟨"java/lang/RuntimeException", "<init>", "(Ljava/lang/String;)V"⟩, ⟨"java/lang/Exception", "<init>", "()V"⟩, ⟨"java/lang/Exception", "<init>", "(Ljava/lang/String;)V"⟩, ⟨"java/lang/Throwable", "<init>", "()V"⟩, ⟨"java/lang/Throwable", "<init>", "(Ljava/lang/String;)V"⟩]
abbrev ix_Pi : Nat := 11
theorem ws_34 : (.selects "NameForgeModel" ⟨"NameForgeModel", "fails", "(ZI)Z"⟩ ⟨"NameForgeModel", "fails", "(ZI)Z"⟩ : Cond) ∈ wT := wT_in (List.mem_append_left _ (List.mem_map.mpr ⟨(⟨"NameForgeModel", "fails", "(ZI)Z"⟩, 41), List.mem_append_right _ (List.mem_append_right _ (List.mem_append_left _ (List.mem_of_getElem? (i := 2) rfl))), rfl⟩)) rfl
theorem ws_35 : (.selects "NameForgeModel" ⟨"NameForgeModel", "noBlock", "(I)Z"⟩ ⟨"NameForgeModel", "noBlock", "(I)Z"⟩ : Cond) ∈ wT := wT_in (List.mem_append_left _ (List.mem_map.mpr ⟨(⟨"NameForgeModel", "noBlock", "(I)Z"⟩, 41), List.mem_append_right _ (List.mem_append_right _ (List.mem_append_left _ (List.mem_of_getElem? (i := 3) rfl))), rfl⟩)) rfl
end
section
theorem d_N_init_0 : decode b_N_init 0 = .ok (.aload_n 0, 1) := by decide +kernel
theorem d_N_init_1 : decode b_N_init 1 = .ok (.invokespecial 3, 3) := by decide +kernel
theorem d_N_init_4 : decode b_N_init 4 = .ok (.aload_n 0, 1) := by decide +kernel
theorem d_N_init_5 : decode b_N_init 5 = .ok (.new 9, 3) := by decide +kernel
theorem d_N_init_8 : decode b_N_init 8 = .ok (.dup, 1) := by decide +kernel
theorem d_N_init_9 : decode b_N_init 9 = .ok (.invokespecial 11, 3) := by decide +kernel
theorem d_N_init_12 : decode b_N_init 12 = .ok (.putfield 12, 3) := by decide +kernel
theorem d_N_init_15 : decode b_N_init 15 = .ok (.aload_n 0, 1) := by decide +kernel
theorem d_N_init_16 : decode b_N_init 16 = .ok (.new 16, 3) := by decide +kernel
theorem d_N_init_19 : decode b_N_init 19 = .ok (.dup, 1) := by decide +kernel
theorem d_N_init_20 : decode b_N_init 20 = .ok (.aload_n 0, 1) := by decide +kernel
theorem d_N_init_21 : decode b_N_init 21 = .ok (.getfield 12, 3) := by decide +kernel
theorem d_N_init_24 : decode b_N_init 24 = .ok (.invokespecial 18, 3) := by decide +kernel
theorem d_N_init_27 : decode b_N_init 27 = .ok (.putfield 21, 3) := by decide +kernel
theorem d_N_init_30 : decode b_N_init 30 = .ok (.aload_n 0, 1) := by decide +kernel
theorem d_N_init_31 : decode b_N_init 31 = .ok (.new 25, 3) := by decide +kernel
theorem d_N_init_34 : decode b_N_init 34 = .ok (.dup, 1) := by decide +kernel
theorem d_N_init_35 : decode b_N_init 35 = .ok (.aload_n 0, 1) := by decide +kernel
theorem d_N_init_36 : decode b_N_init 36 = .ok (.getfield 12, 3) := by decide +kernel
theorem d_N_init_39 : decode b_N_init 39 = .ok (.aload_n 0, 1) := by decide +kernel
theorem d_N_init_40 : decode b_N_init 40 = .ok (.getfield 21, 3) := by decide +kernel
theorem d_N_init_43 : decode b_N_init 43 = .ok (.invokespecial 27, 3) := by decide +kernel
theorem d_N_init_46 : decode b_N_init 46 = .ok (.putfield 30, 3) := by decide +kernel
theorem d_N_init_49 : decode b_N_init 49 = .ok (.aload_n 0, 1) := by decide +kernel
theorem d_N_init_50 : decode b_N_init 50 = .ok (.new 34, 3) := by decide +kernel
theorem d_N_init_53 : decode b_N_init 53 = .ok (.dup, 1) := by decide +kernel
theorem d_N_init_54 : decode b_N_init 54 = .ok (.aload_n 0, 1) := by decide +kernel
theorem d_N_init_55 : decode b_N_init 55 = .ok (.getfield 12, 3) := by decide +kernel
theorem d_N_init_58 : decode b_N_init 58 = .ok (.aload_n 0, 1) := by decide +kernel
theorem d_N_init_59 : decode b_N_init 59 = .ok (.getfield 21, 3) := by decide +kernel
theorem d_N_init_62 : decode b_N_init 62 = .ok (.aload_n 0, 1) := by decide +kernel
theorem d_N_init_63 : decode b_N_init 63 = .ok (.getfield 30, 3) := by decide +kernel
theorem d_N_init_66 : decode b_N_init 66 = .ok (.invokespecial 36, 3) := by decide +kernel
theorem d_N_init_69 : decode b_N_init 69 = .ok (.putfield 39, 3) := by decide +kernel
theorem d_N_init_72 : decode b_N_init 72 = .ok (.aload_n 0, 1) := by decide +kernel
theorem d_N_init_73 : decode b_N_init 73 = .ok (.new 43, 3) := by decide +kernel
theorem d_N_init_76 : decode b_N_init 76 = .ok (.dup, 1) := by decide +kernel
theorem d_N_init_77 : decode b_N_init 77 = .ok (.aload_n 0, 1) := by decide +kernel
theorem d_N_init_78 : decode b_N_init 78 = .ok (.getfield 12, 3) := by decide +kernel
theorem d_N_init_81 : decode b_N_init 81 = .ok (.aload_n 0, 1) := by decide +kernel
theorem d_N_init_82 : decode b_N_init 82 = .ok (.getfield 30, 3) := by decide +kernel
theorem d_N_init_85 : decode b_N_init 85 = .ok (.aload_n 0, 1) := by decide +kernel
theorem d_N_init_86 : decode b_N_init 86 = .ok (.getfield 39, 3) := by decide +kernel
theorem d_N_init_89 : decode b_N_init 89 = .ok (.invokespecial 45, 3) := by decide +kernel
theorem d_N_init_92 : decode b_N_init 92 = .ok (.putfield 48, 3) := by decide +kernel
theorem d_N_init_95 : decode b_N_init 95 = .ok (.aload_n 0, 1) := by decide +kernel
theorem d_N_init_96 : decode b_N_init 96 = .ok (.new 52, 3) := by decide +kernel
theorem d_N_init_99 : decode b_N_init 99 = .ok (.dup, 1) := by decide +kernel
theorem d_N_init_100 : decode b_N_init 100 = .ok (.aload_n 0, 1) := by decide +kernel
theorem d_N_init_101 : decode b_N_init 101 = .ok (.getfield 12, 3) := by decide +kernel
theorem d_N_init_104 : decode b_N_init 104 = .ok (.aload_n 0, 1) := by decide +kernel
theorem d_N_init_105 : decode b_N_init 105 = .ok (.getfield 30, 3) := by decide +kernel
theorem d_N_init_108 : decode b_N_init 108 = .ok (.aload_n 0, 1) := by decide +kernel
theorem d_N_init_109 : decode b_N_init 109 = .ok (.getfield 39, 3) := by decide +kernel
theorem d_N_init_112 : decode b_N_init 112 = .ok (.aload_n 0, 1) := by decide +kernel
theorem d_N_init_113 : decode b_N_init 113 = .ok (.getfield 48, 3) := by decide +kernel
theorem d_N_init_116 : decode b_N_init 116 = .ok (.invokespecial 54, 3) := by decide +kernel
theorem d_N_init_119 : decode b_N_init 119 = .ok (.putfield 57, 3) := by decide +kernel
theorem d_N_init_122 : decode b_N_init 122 = .ok (.aload_n 0, 1) := by decide +kernel
theorem d_N_init_123 : decode b_N_init 123 = .ok (.iconst 0, 1) := by decide +kernel
theorem d_N_init_124 : decode b_N_init 124 = .ok (.putfield 61, 3) := by decide +kernel
theorem d_N_init_127 : decode b_N_init 127 = .ok (.return_, 1) := by decide +kernel
theorem d_N_block_0 : decode b_N_block 0 = .ok (.aload_n 0, 1) := by decide +kernel
theorem d_N_block_1 : decode b_N_block 1 = .ok (.getfield 12, 3) := by decide +kernel
theorem d_N_block_4 : decode b_N_block 4 = .ok (.getfield 65, 3) := by decide +kernel
theorem d_N_block_7 : decode b_N_block 7 = .ok (.bipush 10, 2) := by decide +kernel
theorem d_N_block_9 : decode b_N_block 9 = .ok (.if_icmp .lt 13, 3) := by decide +kernel
theorem d_N_block_22 : decode b_N_block 22 = .ok (.aload_n 0, 1) := by decide +kernel
theorem d_N_block_23 : decode b_N_block 23 = .ok (.iconst 0, 1) := by decide +kernel
theorem d_N_block_24 : decode b_N_block 24 = .ok (.putfield 61, 3) := by decide +kernel
theorem d_N_block_27 : decode b_N_block 27 = .ok (.aload_n 0, 1) := by decide +kernel
theorem d_N_block_28 : decode b_N_block 28 = .ok (.getfield 12, 3) := by decide +kernel
theorem d_N_block_31 : decode b_N_block 31 = .ok (.invokevirtual 76, 3) := by decide +kernel
theorem d_N_block_34 : decode b_N_block 34 = .ok (.ireturn, 1) := by decide +kernel
theorem d_N_put_0 : decode b_N_put 0 = .ok (.aload_n 0, 1) := by decide +kernel
theorem d_N_put_1 : decode b_N_put 1 = .ok (.getfield 12, 3) := by decide +kernel
theorem d_N_put_4 : decode b_N_put 4 = .ok (.iload_n 1, 1) := by decide +kernel
theorem d_N_put_5 : decode b_N_put 5 = .ok (.invokevirtual 80, 3) := by decide +kernel
theorem d_N_put_8 : decode b_N_put 8 = .ok (.ifCond .eq 15, 3) := by decide +kernel
theorem d_N_put_23 : decode b_N_put 23 = .ok (.new 88, 3) := by decide +kernel
theorem d_N_put_26 : decode b_N_put 26 = .ok (.dup, 1) := by decide +kernel
theorem d_N_put_27 : decode b_N_put 27 = .ok (.ldc 90, 2) := by decide +kernel
theorem d_N_put_29 : decode b_N_put 29 = .ok (.invokespecial 92, 3) := by decide +kernel
theorem d_N_put_32 : decode b_N_put 32 = .ok (.athrow, 1) := by decide +kernel
theorem d_N_go_0 : decode b_N_go 0 = .ok (.aload_n 0, 1) := by decide +kernel
theorem d_N_go_1 : decode b_N_go 1 = .ok (.getfield 12, 3) := by decide +kernel
theorem d_N_go_4 : decode b_N_go 4 = .ok (.iload_n 1, 1) := by decide +kernel
theorem d_N_go_5 : decode b_N_go 5 = .ok (.invokevirtual 80, 3) := by decide +kernel
theorem d_N_go_8 : decode b_N_go 8 = .ok (.ifCond .eq 14, 3) := by decide +kernel
theorem d_N_go_22 : decode b_N_go 22 = .ok (.new 88, 3) := by decide +kernel
theorem d_N_go_25 : decode b_N_go 25 = .ok (.dup, 1) := by decide +kernel
theorem d_N_go_26 : decode b_N_go 26 = .ok (.ldc 106, 2) := by decide +kernel
theorem d_N_go_28 : decode b_N_go 28 = .ok (.invokespecial 92, 3) := by decide +kernel
theorem d_N_go_31 : decode b_N_go 31 = .ok (.athrow, 1) := by decide +kernel
theorem d_N_fork_0 : decode b_N_fork 0 = .ok (.aload_n 0, 1) := by decide +kernel
theorem d_N_fork_1 : decode b_N_fork 1 = .ok (.getfield 12, 3) := by decide +kernel
theorem d_N_fork_4 : decode b_N_fork 4 = .ok (.iload_n 1, 1) := by decide +kernel
theorem d_N_fork_5 : decode b_N_fork 5 = .ok (.invokevirtual 80, 3) := by decide +kernel
theorem d_N_fork_8 : decode b_N_fork 8 = .ok (.ifCond .eq 33, 3) := by decide +kernel
theorem d_N_fork_41 : decode b_N_fork 41 = .ok (.new 88, 3) := by decide +kernel
theorem d_N_fork_44 : decode b_N_fork 44 = .ok (.dup, 1) := by decide +kernel
theorem d_N_fork_45 : decode b_N_fork 45 = .ok (.ldc 115, 2) := by decide +kernel
theorem d_N_fork_47 : decode b_N_fork 47 = .ok (.invokespecial 92, 3) := by decide +kernel
theorem d_N_fork_50 : decode b_N_fork 50 = .ok (.athrow, 1) := by decide +kernel
theorem d_N_stop_0 : decode b_N_stop 0 = .ok (.aload_n 0, 1) := by decide +kernel
theorem d_N_stop_1 : decode b_N_stop 1 = .ok (.getfield 12, 3) := by decide +kernel
theorem d_N_stop_4 : decode b_N_stop 4 = .ok (.iload_n 1, 1) := by decide +kernel
theorem d_N_stop_5 : decode b_N_stop 5 = .ok (.invokevirtual 80, 3) := by decide +kernel
theorem d_N_stop_8 : decode b_N_stop 8 = .ok (.ifCond .ne 13, 3) := by decide +kernel
theorem d_N_stop_11 : decode b_N_stop 11 = .ok (.new 88, 3) := by decide +kernel
theorem d_N_stop_14 : decode b_N_stop 14 = .ok (.dup, 1) := by decide +kernel
theorem d_N_stop_15 : decode b_N_stop 15 = .ok (.ldc 117, 2) := by decide +kernel
theorem d_N_stop_17 : decode b_N_stop 17 = .ok (.invokespecial 92, 3) := by decide +kernel
theorem d_N_stop_20 : decode b_N_stop 20 = .ok (.athrow, 1) := by decide +kernel
theorem d_N_clear_0 : decode b_N_clear 0 = .ok (.aload_n 0, 1) := by decide +kernel
theorem d_N_clear_1 : decode b_N_clear 1 = .ok (.iconst 0, 1) := by decide +kernel
theorem d_N_clear_2 : decode b_N_clear 2 = .ok (.putfield 61, 3) := by decide +kernel
theorem d_N_clear_5 : decode b_N_clear 5 = .ok (.aload_n 0, 1) := by decide +kernel
theorem d_N_clear_6 : decode b_N_clear 6 = .ok (.getfield 12, 3) := by decide +kernel
theorem d_N_clear_9 : decode b_N_clear 9 = .ok (.iconst 0, 1) := by decide +kernel
theorem d_N_clear_10 : decode b_N_clear 10 = .ok (.putfield 65, 3) := by decide +kernel
theorem d_N_clear_13 : decode b_N_clear 13 = .ok (.return_, 1) := by decide +kernel
theorem d_N_build_0 : decode b_N_build 0 = .ok (.aload_n 0, 1) := by decide +kernel
theorem d_N_build_1 : decode b_N_build 1 = .ok (.getfield 12, 3) := by decide +kernel
theorem d_N_build_4 : decode b_N_build 4 = .ok (.getfield 65, 3) := by decide +kernel
theorem d_N_build_7 : decode b_N_build 7 = .ok (.ifCond .ne 13, 3) := by decide +kernel
theorem d_N_build_10 : decode b_N_build 10 = .ok (.new 69, 3) := by decide +kernel
theorem d_N_build_13 : decode b_N_build 13 = .ok (.dup, 1) := by decide +kernel
theorem d_N_build_14 : decode b_N_build 14 = .ok (.ldc 119, 2) := by decide +kernel
theorem d_N_build_16 : decode b_N_build 16 = .ok (.invokespecial 73, 3) := by decide +kernel
theorem d_N_build_19 : decode b_N_build 19 = .ok (.athrow, 1) := by decide +kernel
theorem d_N_look_0 : decode b_N_look 0 = .ok (.aload_n 0, 1) := by decide +kernel
theorem d_N_look_1 : decode b_N_look 1 = .ok (.getfield 12, 3) := by decide +kernel
theorem d_N_look_4 : decode b_N_look 4 = .ok (.iload_n 1, 1) := by decide +kernel
theorem d_N_look_5 : decode b_N_look 5 = .ok (.invokevirtual 80, 3) := by decide +kernel
theorem d_N_look_8 : decode b_N_look 8 = .ok (.ifCond .eq 12, 3) := by decide +kernel
theorem d_N_look_20 : decode b_N_look 20 = .ok (.new 136, 3) := by decide +kernel
theorem d_N_look_23 : decode b_N_look 23 = .ok (.dup, 1) := by decide +kernel
theorem d_N_look_24 : decode b_N_look 24 = .ok (.ldc 138, 2) := by decide +kernel
theorem d_N_look_26 : decode b_N_look 26 = .ok (.invokespecial 140, 3) := by decide +kernel
theorem d_N_look_29 : decode b_N_look 29 = .ok (.athrow, 1) := by decide +kernel
theorem d_N_phi_0 : decode b_N_phi 0 = .ok (.aload_n 0, 1) := by decide +kernel
theorem d_N_phi_1 : decode b_N_phi 1 = .ok (.getfield 61, 3) := by decide +kernel
theorem d_N_phi_4 : decode b_N_phi 4 = .ok (.ifCond .ne 13, 3) := by decide +kernel
theorem d_N_phi_7 : decode b_N_phi 7 = .ok (.new 69, 3) := by decide +kernel
theorem d_N_phi_10 : decode b_N_phi 10 = .ok (.dup, 1) := by decide +kernel
theorem d_N_phi_11 : decode b_N_phi 11 = .ok (.ldc 141, 2) := by decide +kernel
theorem d_N_phi_13 : decode b_N_phi 13 = .ok (.invokespecial 73, 3) := by decide +kernel
theorem d_N_phi_16 : decode b_N_phi 16 = .ok (.athrow, 1) := by decide +kernel
theorem d_N_uses_0 : decode b_N_uses 0 = .ok (.aload_n 0, 1) := by decide +kernel
theorem d_N_uses_1 : decode b_N_uses 1 = .ok (.getfield 61, 3) := by decide +kernel
theorem d_N_uses_4 : decode b_N_uses 4 = .ok (.ifCond .ne 13, 3) := by decide +kernel
theorem d_N_uses_7 : decode b_N_uses 7 = .ok (.new 69, 3) := by decide +kernel
theorem d_N_uses_10 : decode b_N_uses 10 = .ok (.dup, 1) := by decide +kernel
theorem d_N_uses_11 : decode b_N_uses 11 = .ok (.ldc 141, 2) := by decide +kernel
theorem d_N_uses_13 : decode b_N_uses 13 = .ok (.invokespecial 73, 3) := by decide +kernel
theorem d_N_uses_16 : decode b_N_uses 16 = .ok (.athrow, 1) := by decide +kernel
theorem d_N_name_0 : decode b_N_name 0 = .ok (.aload_n 0, 1) := by decide +kernel
theorem d_N_name_1 : decode b_N_name 1 = .ok (.getfield 61, 3) := by decide +kernel
theorem d_N_name_4 : decode b_N_name 4 = .ok (.ifCond .ne 13, 3) := by decide +kernel
theorem d_N_name_7 : decode b_N_name 7 = .ok (.new 69, 3) := by decide +kernel
theorem d_N_name_10 : decode b_N_name 10 = .ok (.dup, 1) := by decide +kernel
theorem d_N_name_11 : decode b_N_name 11 = .ok (.ldc 141, 2) := by decide +kernel
theorem d_N_name_13 : decode b_N_name 13 = .ok (.invokespecial 73, 3) := by decide +kernel
theorem d_N_name_16 : decode b_N_name 16 = .ok (.athrow, 1) := by decide +kernel
theorem d_N_give_0 : decode b_N_give 0 = .ok (.aload_n 0, 1) := by decide +kernel
theorem d_N_give_1 : decode b_N_give 1 = .ok (.getfield 57, 3) := by decide +kernel
theorem d_N_give_4 : decode b_N_give 4 = .ok (.iload_n 1, 1) := by decide +kernel
theorem d_N_give_5 : decode b_N_give 5 = .ok (.invokevirtual 213, 3) := by decide +kernel
theorem d_N_give_8 : decode b_N_give 8 = .ok (.ireturn, 1) := by decide +kernel
theorem d_N_take_0 : decode b_N_take 0 = .ok (.aload_n 0, 1) := by decide +kernel
theorem d_N_take_1 : decode b_N_take 1 = .ok (.getfield 57, 3) := by decide +kernel
theorem d_N_take_4 : decode b_N_take 4 = .ok (.iconst 0, 1) := by decide +kernel
theorem d_N_take_5 : decode b_N_take 5 = .ok (.putfield 216, 3) := by decide +kernel
theorem d_N_take_8 : decode b_N_take 8 = .ok (.return_, 1) := by decide +kernel
theorem d_N_run_0 : decode b_N_run 0 = .ok (.iload_n 2, 1) := by decide +kernel
theorem d_N_run_1 : decode b_N_run 1 = .ok (.ifCond .lt 10, 3) := by decide +kernel
theorem d_N_run_4 : decode b_N_run 4 = .ok (.iload_n 2, 1) := by decide +kernel
theorem d_N_run_5 : decode b_N_run 5 = .ok (.sipush 200, 3) := by decide +kernel
theorem d_N_run_8 : decode b_N_run 8 = .ok (.if_icmp .le 13, 3) := by decide +kernel
theorem d_N_run_11 : decode b_N_run 11 = .ok (.new 88, 3) := by decide +kernel
theorem d_N_run_14 : decode b_N_run 14 = .ok (.dup, 1) := by decide +kernel
theorem d_N_run_15 : decode b_N_run 15 = .ok (.ldc 219, 2) := by decide +kernel
theorem d_N_run_17 : decode b_N_run 17 = .ok (.invokespecial 92, 3) := by decide +kernel
theorem d_N_run_20 : decode b_N_run 20 = .ok (.athrow, 1) := by decide +kernel
theorem d_N_run_21 : decode b_N_run 21 = .ok (.aload_n 0, 1) := by decide +kernel
theorem d_N_run_22 : decode b_N_run 22 = .ok (.getfield 61, 3) := by decide +kernel
theorem d_N_run_25 : decode b_N_run 25 = .ok (.ifCond .ne 13, 3) := by decide +kernel
theorem d_N_run_28 : decode b_N_run 28 = .ok (.new 69, 3) := by decide +kernel
theorem d_N_run_31 : decode b_N_run 31 = .ok (.dup, 1) := by decide +kernel
theorem d_N_run_32 : decode b_N_run 32 = .ok (.ldc 141, 2) := by decide +kernel
theorem d_N_run_34 : decode b_N_run 34 = .ok (.invokespecial 73, 3) := by decide +kernel
theorem d_N_run_37 : decode b_N_run 37 = .ok (.athrow, 1) := by decide +kernel
theorem d_N_told_0 : decode b_N_told 0 = .ok (.aload_n 0, 1) := by decide +kernel
theorem d_N_told_1 : decode b_N_told 1 = .ok (.getfield 57, 3) := by decide +kernel
theorem d_N_told_4 : decode b_N_told 4 = .ok (.getfield 225, 3) := by decide +kernel
theorem d_N_told_7 : decode b_N_told 7 = .ok (.ireturn, 1) := by decide +kernel
theorem d_N_heard_0 : decode b_N_heard 0 = .ok (.iload_n 1, 1) := by decide +kernel
theorem d_N_heard_1 : decode b_N_heard 1 = .ok (.ifCond .lt 20, 3) := by decide +kernel
theorem d_N_heard_4 : decode b_N_heard 4 = .ok (.iload_n 1, 1) := by decide +kernel
theorem d_N_heard_5 : decode b_N_heard 5 = .ok (.bipush 40, 2) := by decide +kernel
theorem d_N_heard_7 : decode b_N_heard 7 = .ok (.if_icmp .ge 14, 3) := by decide +kernel
theorem d_N_heard_10 : decode b_N_heard 10 = .ok (.iload_n 1, 1) := by decide +kernel
theorem d_N_heard_11 : decode b_N_heard 11 = .ok (.aload_n 0, 1) := by decide +kernel
theorem d_N_heard_12 : decode b_N_heard 12 = .ok (.getfield 57, 3) := by decide +kernel
theorem d_N_heard_15 : decode b_N_heard 15 = .ok (.getfield 225, 3) := by decide +kernel
theorem d_N_heard_18 : decode b_N_heard 18 = .ok (.if_icmp .lt 13, 3) := by decide +kernel
theorem d_N_heard_21 : decode b_N_heard 21 = .ok (.new 136, 3) := by decide +kernel
theorem d_N_heard_24 : decode b_N_heard 24 = .ok (.dup, 1) := by decide +kernel
theorem d_N_heard_25 : decode b_N_heard 25 = .ok (.ldc 228, 2) := by decide +kernel
theorem d_N_heard_27 : decode b_N_heard 27 = .ok (.invokespecial 140, 3) := by decide +kernel
theorem d_N_heard_30 : decode b_N_heard 30 = .ok (.athrow, 1) := by decide +kernel
theorem d_N_spent_0 : decode b_N_spent 0 = .ok (.iload_n 1, 1) := by decide +kernel
theorem d_N_spent_1 : decode b_N_spent 1 = .ok (.tableswitch 51 0 2 #[27, 35, 43], 27) := by decide +kernel
theorem d_N_spent_28 : decode b_N_spent 28 = .ok (.aload_n 0, 1) := by decide +kernel
theorem d_N_spent_29 : decode b_N_spent 29 = .ok (.getfield 57, 3) := by decide +kernel
theorem d_N_spent_32 : decode b_N_spent 32 = .ok (.getfield 233, 3) := by decide +kernel
theorem d_N_spent_35 : decode b_N_spent 35 = .ok (.ireturn, 1) := by decide +kernel
theorem d_N_spent_36 : decode b_N_spent 36 = .ok (.aload_n 0, 1) := by decide +kernel
theorem d_N_spent_37 : decode b_N_spent 37 = .ok (.getfield 57, 3) := by decide +kernel
theorem d_N_spent_40 : decode b_N_spent 40 = .ok (.getfield 236, 3) := by decide +kernel
theorem d_N_spent_43 : decode b_N_spent 43 = .ok (.ireturn, 1) := by decide +kernel
theorem d_N_spent_44 : decode b_N_spent 44 = .ok (.aload_n 0, 1) := by decide +kernel
theorem d_N_spent_45 : decode b_N_spent 45 = .ok (.getfield 57, 3) := by decide +kernel
theorem d_N_spent_48 : decode b_N_spent 48 = .ok (.getfield 239, 3) := by decide +kernel
theorem d_N_spent_51 : decode b_N_spent 51 = .ok (.ireturn, 1) := by decide +kernel
theorem d_N_spent_52 : decode b_N_spent 52 = .ok (.iconst (-1), 1) := by decide +kernel
theorem d_N_spent_53 : decode b_N_spent 53 = .ok (.ireturn, 1) := by decide +kernel
theorem d_R_init_0 : decode b_R_init 0 = .ok (.aload_n 0, 1) := by decide +kernel
theorem d_R_init_1 : decode b_R_init 1 = .ok (.invokespecial 1, 3) := by decide +kernel
theorem d_R_init_4 : decode b_R_init 4 = .ok (.aload_n 0, 1) := by decide +kernel
theorem d_R_init_5 : decode b_R_init 5 = .ok (.bipush 10, 2) := by decide +kernel
theorem d_R_init_7 : decode b_R_init 7 = .ok (.newarray .int, 2) := by decide +kernel
theorem d_R_init_9 : decode b_R_init 9 = .ok (.putfield 7, 3) := by decide +kernel
theorem d_R_init_12 : decode b_R_init 12 = .ok (.aload_n 0, 1) := by decide +kernel
theorem d_R_init_13 : decode b_R_init 13 = .ok (.bipush 60, 2) := by decide +kernel
theorem d_R_init_15 : decode b_R_init 15 = .ok (.newarray .int, 2) := by decide +kernel
theorem d_R_init_17 : decode b_R_init 17 = .ok (.putfield 13, 3) := by decide +kernel
theorem d_R_init_20 : decode b_R_init 20 = .ok (.aload_n 0, 1) := by decide +kernel
theorem d_R_init_21 : decode b_R_init 21 = .ok (.bipush 60, 2) := by decide +kernel
theorem d_R_init_23 : decode b_R_init 23 = .ok (.newarray .int, 2) := by decide +kernel
theorem d_R_init_25 : decode b_R_init 25 = .ok (.putfield 16, 3) := by decide +kernel
theorem d_R_init_28 : decode b_R_init 28 = .ok (.aload_n 0, 1) := by decide +kernel
theorem d_R_init_29 : decode b_R_init 29 = .ok (.bipush 60, 2) := by decide +kernel
theorem d_R_init_31 : decode b_R_init 31 = .ok (.newarray .int, 2) := by decide +kernel
theorem d_R_init_33 : decode b_R_init 33 = .ok (.putfield 19, 3) := by decide +kernel
theorem d_R_init_36 : decode b_R_init 36 = .ok (.aload_n 0, 1) := by decide +kernel
theorem d_R_init_37 : decode b_R_init 37 = .ok (.bipush 60, 2) := by decide +kernel
theorem d_R_init_39 : decode b_R_init 39 = .ok (.newarray .int, 2) := by decide +kernel
theorem d_R_init_41 : decode b_R_init 41 = .ok (.putfield 22, 3) := by decide +kernel
theorem d_R_init_44 : decode b_R_init 44 = .ok (.aload_n 0, 1) := by decide +kernel
theorem d_R_init_45 : decode b_R_init 45 = .ok (.bipush 10, 2) := by decide +kernel
theorem d_R_init_47 : decode b_R_init 47 = .ok (.newarray .int, 2) := by decide +kernel
theorem d_R_init_49 : decode b_R_init 49 = .ok (.putfield 25, 3) := by decide +kernel
theorem d_R_init_52 : decode b_R_init 52 = .ok (.aload_n 0, 1) := by decide +kernel
theorem d_R_init_53 : decode b_R_init 53 = .ok (.bipush 10, 2) := by decide +kernel
theorem d_R_init_55 : decode b_R_init 55 = .ok (.newarray .int, 2) := by decide +kernel
theorem d_R_init_57 : decode b_R_init 57 = .ok (.putfield 28, 3) := by decide +kernel
theorem d_R_init_60 : decode b_R_init 60 = .ok (.aload_n 0, 1) := by decide +kernel
theorem d_R_init_61 : decode b_R_init 61 = .ok (.bipush 10, 2) := by decide +kernel
theorem d_R_init_63 : decode b_R_init 63 = .ok (.newarray .int, 2) := by decide +kernel
theorem d_R_init_65 : decode b_R_init 65 = .ok (.putfield 31, 3) := by decide +kernel
theorem d_R_init_68 : decode b_R_init 68 = .ok (.aload_n 0, 1) := by decide +kernel
theorem d_R_init_69 : decode b_R_init 69 = .ok (.bipush 10, 2) := by decide +kernel
theorem d_R_init_71 : decode b_R_init 71 = .ok (.newarray .int, 2) := by decide +kernel
theorem d_R_init_73 : decode b_R_init 73 = .ok (.putfield 34, 3) := by decide +kernel
theorem d_R_init_76 : decode b_R_init 76 = .ok (.aload_n 0, 1) := by decide +kernel
theorem d_R_init_77 : decode b_R_init 77 = .ok (.bipush 10, 2) := by decide +kernel
theorem d_R_init_79 : decode b_R_init 79 = .ok (.newarray .int, 2) := by decide +kernel
theorem d_R_init_81 : decode b_R_init 81 = .ok (.putfield 37, 3) := by decide +kernel
theorem d_R_init_84 : decode b_R_init 84 = .ok (.aload_n 0, 1) := by decide +kernel
theorem d_R_init_85 : decode b_R_init 85 = .ok (.bipush 10, 2) := by decide +kernel
theorem d_R_init_87 : decode b_R_init 87 = .ok (.newarray .int, 2) := by decide +kernel
theorem d_R_init_89 : decode b_R_init 89 = .ok (.putfield 40, 3) := by decide +kernel
theorem d_R_init_92 : decode b_R_init 92 = .ok (.aload_n 0, 1) := by decide +kernel
theorem d_R_init_93 : decode b_R_init 93 = .ok (.bipush 10, 2) := by decide +kernel
theorem d_R_init_95 : decode b_R_init 95 = .ok (.newarray .int, 2) := by decide +kernel
theorem d_R_init_97 : decode b_R_init 97 = .ok (.putfield 43, 3) := by decide +kernel
theorem d_R_init_100 : decode b_R_init 100 = .ok (.aload_n 0, 1) := by decide +kernel
theorem d_R_init_101 : decode b_R_init 101 = .ok (.bipush 10, 2) := by decide +kernel
theorem d_R_init_103 : decode b_R_init 103 = .ok (.newarray .int, 2) := by decide +kernel
theorem d_R_init_105 : decode b_R_init 105 = .ok (.putfield 46, 3) := by decide +kernel
theorem d_R_init_108 : decode b_R_init 108 = .ok (.aload_n 0, 1) := by decide +kernel
theorem d_R_init_109 : decode b_R_init 109 = .ok (.sipush 130, 3) := by decide +kernel
theorem d_R_init_112 : decode b_R_init 112 = .ok (.newarray .int, 2) := by decide +kernel
theorem d_R_init_114 : decode b_R_init 114 = .ok (.putfield 49, 3) := by decide +kernel
theorem d_R_init_117 : decode b_R_init 117 = .ok (.aload_n 0, 1) := by decide +kernel
theorem d_R_init_118 : decode b_R_init 118 = .ok (.sipush 130, 3) := by decide +kernel
theorem d_R_init_121 : decode b_R_init 121 = .ok (.newarray .int, 2) := by decide +kernel
theorem d_R_init_123 : decode b_R_init 123 = .ok (.putfield 52, 3) := by decide +kernel
theorem d_R_init_126 : decode b_R_init 126 = .ok (.aload_n 0, 1) := by decide +kernel
theorem d_R_init_127 : decode b_R_init 127 = .ok (.bipush 60, 2) := by decide +kernel
theorem d_R_init_129 : decode b_R_init 129 = .ok (.newarray .int, 2) := by decide +kernel
theorem d_R_init_131 : decode b_R_init 131 = .ok (.putfield 55, 3) := by decide +kernel
theorem d_R_init_134 : decode b_R_init 134 = .ok (.aload_n 0, 1) := by decide +kernel
theorem d_R_init_135 : decode b_R_init 135 = .ok (.bipush 60, 2) := by decide +kernel
theorem d_R_init_137 : decode b_R_init 137 = .ok (.newarray .int, 2) := by decide +kernel
theorem d_R_init_139 : decode b_R_init 139 = .ok (.putfield 58, 3) := by decide +kernel
theorem d_R_init_142 : decode b_R_init 142 = .ok (.aload_n 0, 1) := by decide +kernel
theorem d_R_init_143 : decode b_R_init 143 = .ok (.bipush 60, 2) := by decide +kernel
theorem d_R_init_145 : decode b_R_init 145 = .ok (.newarray .int, 2) := by decide +kernel
theorem d_R_init_147 : decode b_R_init 147 = .ok (.putfield 61, 3) := by decide +kernel
theorem d_R_init_150 : decode b_R_init 150 = .ok (.aload_n 0, 1) := by decide +kernel
theorem d_R_init_151 : decode b_R_init 151 = .ok (.bipush 60, 2) := by decide +kernel
theorem d_R_init_153 : decode b_R_init 153 = .ok (.newarray .int, 2) := by decide +kernel
theorem d_R_init_155 : decode b_R_init 155 = .ok (.putfield 64, 3) := by decide +kernel
theorem d_R_init_158 : decode b_R_init 158 = .ok (.aload_n 0, 1) := by decide +kernel
theorem d_R_init_159 : decode b_R_init 159 = .ok (.bipush 10, 2) := by decide +kernel
theorem d_R_init_161 : decode b_R_init 161 = .ok (.newarray .int, 2) := by decide +kernel
theorem d_R_init_163 : decode b_R_init 163 = .ok (.putfield 67, 3) := by decide +kernel
theorem d_R_init_166 : decode b_R_init 166 = .ok (.aload_n 0, 1) := by decide +kernel
theorem d_R_init_167 : decode b_R_init 167 = .ok (.bipush 60, 2) := by decide +kernel
theorem d_R_init_169 : decode b_R_init 169 = .ok (.newarray .int, 2) := by decide +kernel
theorem d_R_init_171 : decode b_R_init 171 = .ok (.putfield 70, 3) := by decide +kernel
theorem d_R_init_174 : decode b_R_init 174 = .ok (.aload_n 0, 1) := by decide +kernel
theorem d_R_init_175 : decode b_R_init 175 = .ok (.bipush 12, 2) := by decide +kernel
theorem d_R_init_177 : decode b_R_init 177 = .ok (.newarray .int, 2) := by decide +kernel
theorem d_R_init_179 : decode b_R_init 179 = .ok (.putfield 73, 3) := by decide +kernel
theorem d_R_init_182 : decode b_R_init 182 = .ok (.aload_n 0, 1) := by decide +kernel
theorem d_R_init_183 : decode b_R_init 183 = .ok (.bipush 10, 2) := by decide +kernel
theorem d_R_init_185 : decode b_R_init 185 = .ok (.newarray .int, 2) := by decide +kernel
theorem d_R_init_187 : decode b_R_init 187 = .ok (.putfield 76, 3) := by decide +kernel
theorem d_R_init_190 : decode b_R_init 190 = .ok (.aload_n 0, 1) := by decide +kernel
theorem d_R_init_191 : decode b_R_init 191 = .ok (.sipush 130, 3) := by decide +kernel
theorem d_R_init_194 : decode b_R_init 194 = .ok (.newarray .int, 2) := by decide +kernel
theorem d_R_init_196 : decode b_R_init 196 = .ok (.putfield 79, 3) := by decide +kernel
theorem d_R_init_199 : decode b_R_init 199 = .ok (.aload_n 0, 1) := by decide +kernel
theorem d_R_init_200 : decode b_R_init 200 = .ok (.sipush 130, 3) := by decide +kernel
theorem d_R_init_203 : decode b_R_init 203 = .ok (.newarray .int, 2) := by decide +kernel
theorem d_R_init_205 : decode b_R_init 205 = .ok (.putfield 82, 3) := by decide +kernel
theorem d_R_init_208 : decode b_R_init 208 = .ok (.aload_n 0, 1) := by decide +kernel
theorem d_R_init_209 : decode b_R_init 209 = .ok (.sipush 130, 3) := by decide +kernel
theorem d_R_init_212 : decode b_R_init 212 = .ok (.newarray .boolean, 2) := by decide +kernel
theorem d_R_init_214 : decode b_R_init 214 = .ok (.putfield 85, 3) := by decide +kernel
theorem d_R_init_217 : decode b_R_init 217 = .ok (.aload_n 0, 1) := by decide +kernel
theorem d_R_init_218 : decode b_R_init 218 = .ok (.bipush 16, 2) := by decide +kernel
theorem d_R_init_220 : decode b_R_init 220 = .ok (.newarray .int, 2) := by decide +kernel
theorem d_R_init_222 : decode b_R_init 222 = .ok (.putfield 89, 3) := by decide +kernel
theorem d_R_init_225 : decode b_R_init 225 = .ok (.aload_n 0, 1) := by decide +kernel
theorem d_R_init_226 : decode b_R_init 226 = .ok (.bipush 40, 2) := by decide +kernel
theorem d_R_init_228 : decode b_R_init 228 = .ok (.newarray .int, 2) := by decide +kernel
theorem d_R_init_230 : decode b_R_init 230 = .ok (.putfield 92, 3) := by decide +kernel
theorem d_R_init_233 : decode b_R_init 233 = .ok (.aload_n 0, 1) := by decide +kernel
theorem d_R_init_234 : decode b_R_init 234 = .ok (.sipush 130, 3) := by decide +kernel
theorem d_R_init_237 : decode b_R_init 237 = .ok (.newarray .int, 2) := by decide +kernel
theorem d_R_init_239 : decode b_R_init 239 = .ok (.putfield 95, 3) := by decide +kernel
theorem d_R_init_242 : decode b_R_init 242 = .ok (.aload_n 0, 1) := by decide +kernel
theorem d_R_init_243 : decode b_R_init 243 = .ok (.bipush 6, 2) := by decide +kernel
theorem d_R_init_245 : decode b_R_init 245 = .ok (.newarray .int, 2) := by decide +kernel
theorem d_R_init_247 : decode b_R_init 247 = .ok (.putfield 98, 3) := by decide +kernel
theorem d_R_init_250 : decode b_R_init 250 = .ok (.return_, 1) := by decide +kernel
theorem d_R_thrown_0 : decode b_R_thrown 0 = .ok (.aload_n 0, 1) := by decide +kernel
theorem d_R_thrown_1 : decode b_R_thrown 1 = .ok (.getfield 101, 3) := by decide +kernel
theorem d_R_thrown_4 : decode b_R_thrown 4 = .ok (.ireturn, 1) := by decide +kernel
theorem d_R_fails_0 : decode b_R_fails 0 = .ok (.aload_n 0, 1) := by decide +kernel
theorem d_R_fails_1 : decode b_R_fails 1 = .ok (.iload_n 1, 1) := by decide +kernel
theorem d_R_fails_2 : decode b_R_fails 2 = .ok (.ifCond .eq 7, 3) := by decide +kernel
theorem d_R_fails_5 : decode b_R_fails 5 = .ok (.iload_n 2, 1) := by decide +kernel
theorem d_R_fails_6 : decode b_R_fails 6 = .ok (.goto 4, 3) := by decide +kernel
theorem d_R_fails_9 : decode b_R_fails 9 = .ok (.iconst 0, 1) := by decide +kernel
theorem d_R_fails_10 : decode b_R_fails 10 = .ok (.putfield 101, 3) := by decide +kernel
theorem d_R_fails_13 : decode b_R_fails 13 = .ok (.iload_n 1, 1) := by decide +kernel
theorem d_R_fails_14 : decode b_R_fails 14 = .ok (.ireturn, 1) := by decide +kernel
theorem d_R_noBlock_0 : decode b_R_noBlock 0 = .ok (.iload_n 1, 1) := by decide +kernel
theorem d_R_noBlock_1 : decode b_R_noBlock 1 = .ok (.ifCond .lt 11, 3) := by decide +kernel
theorem d_R_noBlock_4 : decode b_R_noBlock 4 = .ok (.iload_n 1, 1) := by decide +kernel
theorem d_R_noBlock_5 : decode b_R_noBlock 5 = .ok (.aload_n 0, 1) := by decide +kernel
theorem d_R_noBlock_6 : decode b_R_noBlock 6 = .ok (.getfield 105, 3) := by decide +kernel
theorem d_R_noBlock_9 : decode b_R_noBlock 9 = .ok (.if_icmp .lt 7, 3) := by decide +kernel
theorem d_R_noBlock_12 : decode b_R_noBlock 12 = .ok (.iconst 1, 1) := by decide +kernel
theorem d_R_noBlock_13 : decode b_R_noBlock 13 = .ok (.goto 4, 3) := by decide +kernel
theorem d_R_noBlock_17 : decode b_R_noBlock 17 = .ok (.ireturn, 1) := by decide +kernel
theorem d_R_block_0 : decode b_R_block 0 = .ok (.aload_n 0, 1) := by decide +kernel
theorem d_R_block_1 : decode b_R_block 1 = .ok (.aload_n 0, 1) := by decide +kernel
theorem d_R_block_2 : decode b_R_block 2 = .ok (.getfield 105, 3) := by decide +kernel
theorem d_R_block_5 : decode b_R_block 5 = .ok (.bipush 10, 2) := by decide +kernel
theorem d_R_block_7 : decode b_R_block 7 = .ok (.if_icmp .ne 7, 3) := by decide +kernel
theorem d_R_block_14 : decode b_R_block 14 = .ok (.iconst 0, 1) := by decide +kernel
theorem d_R_block_15 : decode b_R_block 15 = .ok (.iconst 1, 1) := by decide +kernel
theorem d_R_block_16 : decode b_R_block 16 = .ok (.invokevirtual 108, 3) := by decide +kernel
theorem d_R_block_19 : decode b_R_block 19 = .ok (.ifCond .eq 5, 3) := by decide +kernel
theorem d_R_block_24 : decode b_R_block 24 = .ok (.aload_n 0, 1) := by decide +kernel
theorem d_R_block_25 : decode b_R_block 25 = .ok (.getfield 7, 3) := by decide +kernel
theorem d_R_block_28 : decode b_R_block 28 = .ok (.aload_n 0, 1) := by decide +kernel
theorem d_R_block_29 : decode b_R_block 29 = .ok (.getfield 105, 3) := by decide +kernel
theorem d_R_block_32 : decode b_R_block 32 = .ok (.iconst 0, 1) := by decide +kernel
theorem d_R_block_33 : decode b_R_block 33 = .ok (.iastore, 1) := by decide +kernel
theorem d_R_block_34 : decode b_R_block 34 = .ok (.aload_n 0, 1) := by decide +kernel
theorem d_R_block_35 : decode b_R_block 35 = .ok (.getfield 25, 3) := by decide +kernel
theorem d_R_block_38 : decode b_R_block 38 = .ok (.aload_n 0, 1) := by decide +kernel
theorem d_R_block_39 : decode b_R_block 39 = .ok (.getfield 105, 3) := by decide +kernel
theorem d_R_block_42 : decode b_R_block 42 = .ok (.iconst 0, 1) := by decide +kernel
theorem d_R_block_43 : decode b_R_block 43 = .ok (.iastore, 1) := by decide +kernel
theorem d_R_block_44 : decode b_R_block 44 = .ok (.aload_n 0, 1) := by decide +kernel
theorem d_R_block_45 : decode b_R_block 45 = .ok (.dup, 1) := by decide +kernel
theorem d_R_block_46 : decode b_R_block 46 = .ok (.getfield 105, 3) := by decide +kernel
theorem d_R_block_49 : decode b_R_block 49 = .ok (.iconst 1, 1) := by decide +kernel
theorem d_R_block_50 : decode b_R_block 50 = .ok (.iadd, 1) := by decide +kernel
theorem d_R_block_51 : decode b_R_block 51 = .ok (.putfield 105, 3) := by decide +kernel
theorem d_R_block_54 : decode b_R_block 54 = .ok (.aload_n 0, 1) := by decide +kernel
theorem d_R_block_55 : decode b_R_block 55 = .ok (.iconst 0, 1) := by decide +kernel
theorem d_R_block_56 : decode b_R_block 56 = .ok (.putfield 112, 3) := by decide +kernel
theorem d_R_block_59 : decode b_R_block 59 = .ok (.aload_n 0, 1) := by decide +kernel
theorem d_R_block_60 : decode b_R_block 60 = .ok (.getfield 105, 3) := by decide +kernel
theorem d_R_block_63 : decode b_R_block 63 = .ok (.iconst 1, 1) := by decide +kernel
theorem d_R_block_64 : decode b_R_block 64 = .ok (.isub, 1) := by decide +kernel
theorem d_R_block_65 : decode b_R_block 65 = .ok (.ireturn, 1) := by decide +kernel
theorem d_R_put_0 : decode b_R_put 0 = .ok (.aload_n 0, 1) := by decide +kernel
theorem d_R_put_1 : decode b_R_put 1 = .ok (.iload_n 1, 1) := by decide +kernel
theorem d_R_put_2 : decode b_R_put 2 = .ok (.invokevirtual 116, 3) := by decide +kernel
theorem d_R_put_5 : decode b_R_put 5 = .ok (.ifCond .ne 57, 3) := by decide +kernel
theorem d_R_put_62 : decode b_R_put 62 = .ok (.iconst 1, 1) := by decide +kernel
theorem d_R_put_63 : decode b_R_put 63 = .ok (.goto 4, 3) := by decide +kernel
theorem d_R_put_67 : decode b_R_put 67 = .ok (.istore 6, 2) := by decide +kernel
theorem d_R_put_69 : decode b_R_put 69 = .ok (.aload_n 0, 1) := by decide +kernel
theorem d_R_put_70 : decode b_R_put 70 = .ok (.iload 6, 2) := by decide +kernel
theorem d_R_put_72 : decode b_R_put 72 = .ok (.iconst 1, 1) := by decide +kernel
theorem d_R_put_73 : decode b_R_put 73 = .ok (.invokevirtual 108, 3) := by decide +kernel
theorem d_R_put_76 : decode b_R_put 76 = .ok (.ifCond .ne 27, 3) := by decide +kernel
theorem d_R_put_103 : decode b_R_put 103 = .ok (.iconst 0, 1) := by decide +kernel
theorem d_R_put_104 : decode b_R_put 104 = .ok (.ireturn, 1) := by decide +kernel
theorem d_R_go_0 : decode b_R_go 0 = .ok (.aload_n 0, 1) := by decide +kernel
theorem d_R_go_1 : decode b_R_go 1 = .ok (.aload_n 0, 1) := by decide +kernel
theorem d_R_go_2 : decode b_R_go 2 = .ok (.iload_n 1, 1) := by decide +kernel
theorem d_R_go_3 : decode b_R_go 3 = .ok (.invokevirtual 116, 3) := by decide +kernel
theorem d_R_go_6 : decode b_R_go 6 = .ok (.ifCond .ne 11, 3) := by decide +kernel
theorem d_R_go_17 : decode b_R_go 17 = .ok (.iconst 1, 1) := by decide +kernel
theorem d_R_go_18 : decode b_R_go 18 = .ok (.goto 4, 3) := by decide +kernel
theorem d_R_go_22 : decode b_R_go 22 = .ok (.iconst 1, 1) := by decide +kernel
theorem d_R_go_23 : decode b_R_go 23 = .ok (.invokevirtual 108, 3) := by decide +kernel
theorem d_R_go_26 : decode b_R_go 26 = .ok (.ifCond .eq 4, 3) := by decide +kernel
theorem d_R_go_29 : decode b_R_go 29 = .ok (.return_, 1) := by decide +kernel
theorem d_R_fork_0 : decode b_R_fork 0 = .ok (.aload_n 0, 1) := by decide +kernel
theorem d_R_fork_1 : decode b_R_fork 1 = .ok (.aload_n 0, 1) := by decide +kernel
theorem d_R_fork_2 : decode b_R_fork 2 = .ok (.iload_n 1, 1) := by decide +kernel
theorem d_R_fork_3 : decode b_R_fork 3 = .ok (.invokevirtual 116, 3) := by decide +kernel
theorem d_R_fork_6 : decode b_R_fork 6 = .ok (.ifCond .ne 27, 3) := by decide +kernel
theorem d_R_fork_33 : decode b_R_fork 33 = .ok (.iconst 1, 1) := by decide +kernel
theorem d_R_fork_34 : decode b_R_fork 34 = .ok (.goto 4, 3) := by decide +kernel
theorem d_R_fork_38 : decode b_R_fork 38 = .ok (.iconst 1, 1) := by decide +kernel
theorem d_R_fork_39 : decode b_R_fork 39 = .ok (.invokevirtual 108, 3) := by decide +kernel
theorem d_R_fork_42 : decode b_R_fork 42 = .ok (.ifCond .eq 4, 3) := by decide +kernel
theorem d_R_fork_45 : decode b_R_fork 45 = .ok (.return_, 1) := by decide +kernel
theorem d_R_stop_0 : decode b_R_stop 0 = .ok (.aload_n 0, 1) := by decide +kernel
theorem d_R_stop_1 : decode b_R_stop 1 = .ok (.aload_n 0, 1) := by decide +kernel
theorem d_R_stop_2 : decode b_R_stop 2 = .ok (.iload_n 1, 1) := by decide +kernel
theorem d_R_stop_3 : decode b_R_stop 3 = .ok (.invokevirtual 116, 3) := by decide +kernel
theorem d_R_stop_6 : decode b_R_stop 6 = .ok (.iconst 1, 1) := by decide +kernel
theorem d_R_stop_7 : decode b_R_stop 7 = .ok (.invokevirtual 108, 3) := by decide +kernel
theorem d_R_stop_10 : decode b_R_stop 10 = .ok (.ifCond .eq 4, 3) := by decide +kernel
theorem d_R_stop_13 : decode b_R_stop 13 = .ok (.return_, 1) := by decide +kernel
theorem d_R_clear_0 : decode b_R_clear 0 = .ok (.aload_n 0, 1) := by decide +kernel
theorem d_R_clear_1 : decode b_R_clear 1 = .ok (.iconst 0, 1) := by decide +kernel
theorem d_R_clear_2 : decode b_R_clear 2 = .ok (.putfield 101, 3) := by decide +kernel
theorem d_R_clear_5 : decode b_R_clear 5 = .ok (.aload_n 0, 1) := by decide +kernel
theorem d_R_clear_6 : decode b_R_clear 6 = .ok (.iconst 0, 1) := by decide +kernel
theorem d_R_clear_7 : decode b_R_clear 7 = .ok (.putfield 105, 3) := by decide +kernel
theorem d_R_clear_10 : decode b_R_clear 10 = .ok (.aload_n 0, 1) := by decide +kernel
theorem d_R_clear_11 : decode b_R_clear 11 = .ok (.iconst 0, 1) := by decide +kernel
theorem d_R_clear_12 : decode b_R_clear 12 = .ok (.putfield 112, 3) := by decide +kernel
theorem d_R_clear_15 : decode b_R_clear 15 = .ok (.return_, 1) := by decide +kernel
theorem d_R_build_0 : decode b_R_build 0 = .ok (.aload_n 0, 1) := by decide +kernel
theorem d_R_build_1 : decode b_R_build 1 = .ok (.aload_n 0, 1) := by decide +kernel
theorem d_R_build_2 : decode b_R_build 2 = .ok (.getfield 105, 3) := by decide +kernel
theorem d_R_build_5 : decode b_R_build 5 = .ok (.ifCond .ne 7, 3) := by decide +kernel
theorem d_R_build_8 : decode b_R_build 8 = .ok (.iconst 1, 1) := by decide +kernel
theorem d_R_build_9 : decode b_R_build 9 = .ok (.goto 4, 3) := by decide +kernel
theorem d_R_build_13 : decode b_R_build 13 = .ok (.iconst 1, 1) := by decide +kernel
theorem d_R_build_14 : decode b_R_build 14 = .ok (.invokevirtual 108, 3) := by decide +kernel
theorem d_R_build_17 : decode b_R_build 17 = .ok (.ifCond .eq 5, 3) := by decide +kernel
theorem d_R_build_20 : decode b_R_build 20 = .ok (.iconst 0, 1) := by decide +kernel
theorem d_R_build_21 : decode b_R_build 21 = .ok (.ireturn, 1) := by decide +kernel
theorem d_R_look_0 : decode b_R_look 0 = .ok (.aload_n 0, 1) := by decide +kernel
theorem d_R_look_1 : decode b_R_look 1 = .ok (.aload_n 0, 1) := by decide +kernel
theorem d_R_look_2 : decode b_R_look 2 = .ok (.iload_n 1, 1) := by decide +kernel
theorem d_R_look_3 : decode b_R_look 3 = .ok (.invokevirtual 116, 3) := by decide +kernel
theorem d_R_look_6 : decode b_R_look 6 = .ok (.ifCond .ne 12, 3) := by decide +kernel
theorem d_R_look_18 : decode b_R_look 18 = .ok (.iconst 1, 1) := by decide +kernel
theorem d_R_look_19 : decode b_R_look 19 = .ok (.goto 4, 3) := by decide +kernel
theorem d_R_look_23 : decode b_R_look 23 = .ok (.iconst 1, 1) := by decide +kernel
theorem d_R_look_24 : decode b_R_look 24 = .ok (.invokevirtual 108, 3) := by decide +kernel
theorem d_R_look_27 : decode b_R_look 27 = .ok (.ifCond .ne 23, 3) := by decide +kernel
theorem d_R_look_50 : decode b_R_look 50 = .ok (.iconst 0, 1) := by decide +kernel
theorem d_R_look_51 : decode b_R_look 51 = .ok (.ireturn, 1) := by decide +kernel
theorem d_R_phi_0 : decode b_R_phi 0 = .ok (.aload_n 0, 1) := by decide +kernel
theorem d_R_phi_1 : decode b_R_phi 1 = .ok (.aload_n 0, 1) := by decide +kernel
theorem d_R_phi_2 : decode b_R_phi 2 = .ok (.getfield 112, 3) := by decide +kernel
theorem d_R_phi_5 : decode b_R_phi 5 = .ok (.ifCond .ne 7, 3) := by decide +kernel
theorem d_R_phi_8 : decode b_R_phi 8 = .ok (.iconst 1, 1) := by decide +kernel
theorem d_R_phi_9 : decode b_R_phi 9 = .ok (.goto 4, 3) := by decide +kernel
theorem d_R_phi_13 : decode b_R_phi 13 = .ok (.iconst 2, 1) := by decide +kernel
theorem d_R_phi_14 : decode b_R_phi 14 = .ok (.invokevirtual 108, 3) := by decide +kernel
theorem d_R_phi_17 : decode b_R_phi 17 = .ok (.ifCond .eq 5, 3) := by decide +kernel
theorem d_R_phi_20 : decode b_R_phi 20 = .ok (.iconst 0, 1) := by decide +kernel
theorem d_R_phi_21 : decode b_R_phi 21 = .ok (.ireturn, 1) := by decide +kernel
theorem d_R_uses_0 : decode b_R_uses 0 = .ok (.aload_n 0, 1) := by decide +kernel
theorem d_R_uses_1 : decode b_R_uses 1 = .ok (.aload_n 0, 1) := by decide +kernel
theorem d_R_uses_2 : decode b_R_uses 2 = .ok (.getfield 112, 3) := by decide +kernel
theorem d_R_uses_5 : decode b_R_uses 5 = .ok (.ifCond .ne 7, 3) := by decide +kernel
theorem d_R_uses_8 : decode b_R_uses 8 = .ok (.iconst 1, 1) := by decide +kernel
theorem d_R_uses_9 : decode b_R_uses 9 = .ok (.goto 4, 3) := by decide +kernel
theorem d_R_uses_13 : decode b_R_uses 13 = .ok (.iconst 2, 1) := by decide +kernel
theorem d_R_uses_14 : decode b_R_uses 14 = .ok (.invokevirtual 108, 3) := by decide +kernel
theorem d_R_uses_17 : decode b_R_uses 17 = .ok (.ifCond .eq 5, 3) := by decide +kernel
theorem d_R_uses_20 : decode b_R_uses 20 = .ok (.iconst 0, 1) := by decide +kernel
theorem d_R_uses_21 : decode b_R_uses 21 = .ok (.ireturn, 1) := by decide +kernel
theorem d_R_name_0 : decode b_R_name 0 = .ok (.aload_n 0, 1) := by decide +kernel
theorem d_R_name_1 : decode b_R_name 1 = .ok (.aload_n 0, 1) := by decide +kernel
theorem d_R_name_2 : decode b_R_name 2 = .ok (.getfield 112, 3) := by decide +kernel
theorem d_R_name_5 : decode b_R_name 5 = .ok (.ifCond .ne 7, 3) := by decide +kernel
theorem d_R_name_8 : decode b_R_name 8 = .ok (.iconst 1, 1) := by decide +kernel
theorem d_R_name_9 : decode b_R_name 9 = .ok (.goto 4, 3) := by decide +kernel
theorem d_R_name_13 : decode b_R_name 13 = .ok (.iconst 2, 1) := by decide +kernel
theorem d_R_name_14 : decode b_R_name 14 = .ok (.invokevirtual 108, 3) := by decide +kernel
theorem d_R_name_17 : decode b_R_name 17 = .ok (.ifCond .eq 5, 3) := by decide +kernel
theorem d_R_name_20 : decode b_R_name 20 = .ok (.iconst 0, 1) := by decide +kernel
theorem d_R_name_21 : decode b_R_name 21 = .ok (.ireturn, 1) := by decide +kernel
theorem d_R_give_0 : decode b_R_give 0 = .ok (.aload_n 0, 1) := by decide +kernel
theorem d_R_give_1 : decode b_R_give 1 = .ok (.iconst 0, 1) := by decide +kernel
theorem d_R_give_2 : decode b_R_give 2 = .ok (.putfield 101, 3) := by decide +kernel
theorem d_R_give_5 : decode b_R_give 5 = .ok (.aload_n 0, 1) := by decide +kernel
theorem d_R_give_6 : decode b_R_give 6 = .ok (.getfield 217, 3) := by decide +kernel
theorem d_R_give_9 : decode b_R_give 9 = .ok (.bipush 16, 2) := by decide +kernel
theorem d_R_give_11 : decode b_R_give 11 = .ok (.if_icmp .ne 5, 3) := by decide +kernel
theorem d_R_give_16 : decode b_R_give 16 = .ok (.aload_n 0, 1) := by decide +kernel
theorem d_R_give_17 : decode b_R_give 17 = .ok (.getfield 89, 3) := by decide +kernel
theorem d_R_give_20 : decode b_R_give 20 = .ok (.aload_n 0, 1) := by decide +kernel
theorem d_R_give_21 : decode b_R_give 21 = .ok (.getfield 217, 3) := by decide +kernel
theorem d_R_give_24 : decode b_R_give 24 = .ok (.iload_n 1, 1) := by decide +kernel
theorem d_R_give_25 : decode b_R_give 25 = .ok (.iastore, 1) := by decide +kernel
theorem d_R_give_26 : decode b_R_give 26 = .ok (.aload_n 0, 1) := by decide +kernel
theorem d_R_give_27 : decode b_R_give 27 = .ok (.dup, 1) := by decide +kernel
theorem d_R_give_28 : decode b_R_give 28 = .ok (.getfield 217, 3) := by decide +kernel
theorem d_R_give_31 : decode b_R_give 31 = .ok (.iconst 1, 1) := by decide +kernel
theorem d_R_give_32 : decode b_R_give 32 = .ok (.iadd, 1) := by decide +kernel
theorem d_R_give_33 : decode b_R_give 33 = .ok (.putfield 217, 3) := by decide +kernel
theorem d_R_give_36 : decode b_R_give 36 = .ok (.iconst 1, 1) := by decide +kernel
theorem d_R_give_37 : decode b_R_give 37 = .ok (.ireturn, 1) := by decide +kernel
theorem d_R_take_0 : decode b_R_take 0 = .ok (.aload_n 0, 1) := by decide +kernel
theorem d_R_take_1 : decode b_R_take 1 = .ok (.iconst 0, 1) := by decide +kernel
theorem d_R_take_2 : decode b_R_take 2 = .ok (.putfield 101, 3) := by decide +kernel
theorem d_R_take_5 : decode b_R_take 5 = .ok (.aload_n 0, 1) := by decide +kernel
theorem d_R_take_6 : decode b_R_take 6 = .ok (.iconst 0, 1) := by decide +kernel
theorem d_R_take_7 : decode b_R_take 7 = .ok (.putfield 217, 3) := by decide +kernel
theorem d_R_take_10 : decode b_R_take 10 = .ok (.return_, 1) := by decide +kernel
theorem d_R_run_0 : decode b_R_run 0 = .ok (.aload_n 0, 1) := by decide +kernel
theorem d_R_run_1 : decode b_R_run 1 = .ok (.iload_n 2, 1) := by decide +kernel
theorem d_R_run_2 : decode b_R_run 2 = .ok (.ifCond .lt 10, 3) := by decide +kernel
theorem d_R_run_5 : decode b_R_run 5 = .ok (.iload_n 2, 1) := by decide +kernel
theorem d_R_run_6 : decode b_R_run 6 = .ok (.sipush 200, 3) := by decide +kernel
theorem d_R_run_9 : decode b_R_run 9 = .ok (.if_icmp .le 7, 3) := by decide +kernel
theorem d_R_run_12 : decode b_R_run 12 = .ok (.iconst 1, 1) := by decide +kernel
theorem d_R_run_13 : decode b_R_run 13 = .ok (.goto 4, 3) := by decide +kernel
theorem d_R_run_16 : decode b_R_run 16 = .ok (.iconst 0, 1) := by decide +kernel
theorem d_R_run_17 : decode b_R_run 17 = .ok (.iconst 1, 1) := by decide +kernel
theorem d_R_run_18 : decode b_R_run 18 = .ok (.invokevirtual 108, 3) := by decide +kernel
theorem d_R_run_21 : decode b_R_run 21 = .ok (.ifCond .ne 23, 3) := by decide +kernel
theorem d_R_run_24 : decode b_R_run 24 = .ok (.aload_n 0, 1) := by decide +kernel
theorem d_R_run_25 : decode b_R_run 25 = .ok (.aload_n 0, 1) := by decide +kernel
theorem d_R_run_26 : decode b_R_run 26 = .ok (.getfield 112, 3) := by decide +kernel
theorem d_R_run_29 : decode b_R_run 29 = .ok (.ifCond .ne 7, 3) := by decide +kernel
theorem d_R_run_32 : decode b_R_run 32 = .ok (.iconst 1, 1) := by decide +kernel
theorem d_R_run_33 : decode b_R_run 33 = .ok (.goto 4, 3) := by decide +kernel
theorem d_R_run_37 : decode b_R_run 37 = .ok (.iconst 2, 1) := by decide +kernel
theorem d_R_run_38 : decode b_R_run 38 = .ok (.invokevirtual 108, 3) := by decide +kernel
theorem d_R_run_41 : decode b_R_run 41 = .ok (.ifCond .eq 5, 3) := by decide +kernel
theorem d_R_run_44 : decode b_R_run 44 = .ok (.iconst 0, 1) := by decide +kernel
theorem d_R_run_45 : decode b_R_run 45 = .ok (.ireturn, 1) := by decide +kernel
theorem d_R_told_0 : decode b_R_told 0 = .ok (.aload_n 0, 1) := by decide +kernel
theorem d_R_told_1 : decode b_R_told 1 = .ok (.iconst 0, 1) := by decide +kernel
theorem d_R_told_2 : decode b_R_told 2 = .ok (.putfield 101, 3) := by decide +kernel
theorem d_R_told_5 : decode b_R_told 5 = .ok (.aload_n 0, 1) := by decide +kernel
theorem d_R_told_6 : decode b_R_told 6 = .ok (.getfield 220, 3) := by decide +kernel
theorem d_R_told_9 : decode b_R_told 9 = .ok (.ireturn, 1) := by decide +kernel
theorem d_R_heard_0 : decode b_R_heard 0 = .ok (.aload_n 0, 1) := by decide +kernel
theorem d_R_heard_1 : decode b_R_heard 1 = .ok (.iload_n 1, 1) := by decide +kernel
theorem d_R_heard_2 : decode b_R_heard 2 = .ok (.ifCond .lt 17, 3) := by decide +kernel
theorem d_R_heard_5 : decode b_R_heard 5 = .ok (.iload_n 1, 1) := by decide +kernel
theorem d_R_heard_6 : decode b_R_heard 6 = .ok (.aload_n 0, 1) := by decide +kernel
theorem d_R_heard_7 : decode b_R_heard 7 = .ok (.getfield 220, 3) := by decide +kernel
theorem d_R_heard_10 : decode b_R_heard 10 = .ok (.if_icmp .ge 9, 3) := by decide +kernel
theorem d_R_heard_19 : decode b_R_heard 19 = .ok (.iconst 1, 1) := by decide +kernel
theorem d_R_heard_20 : decode b_R_heard 20 = .ok (.goto 4, 3) := by decide +kernel
theorem d_R_heard_24 : decode b_R_heard 24 = .ok (.iconst 1, 1) := by decide +kernel
theorem d_R_heard_25 : decode b_R_heard 25 = .ok (.invokevirtual 108, 3) := by decide +kernel
theorem d_R_heard_28 : decode b_R_heard 28 = .ok (.ifCond .eq 7, 3) := by decide +kernel
theorem d_R_heard_31 : decode b_R_heard 31 = .ok (.iconst 0, 1) := by decide +kernel
theorem d_R_heard_32 : decode b_R_heard 32 = .ok (.goto 9, 3) := by decide +kernel
theorem d_R_heard_41 : decode b_R_heard 41 = .ok (.ireturn, 1) := by decide +kernel
theorem d_R_spent_0 : decode b_R_spent 0 = .ok (.aload_n 0, 1) := by decide +kernel
theorem d_R_spent_1 : decode b_R_spent 1 = .ok (.iconst 0, 1) := by decide +kernel
theorem d_R_spent_2 : decode b_R_spent 2 = .ok (.putfield 101, 3) := by decide +kernel
theorem d_R_spent_5 : decode b_R_spent 5 = .ok (.iload_n 1, 1) := by decide +kernel
theorem d_R_spent_6 : decode b_R_spent 6 = .ok (.ifCond .ne 10, 3) := by decide +kernel
theorem d_R_spent_9 : decode b_R_spent 9 = .ok (.aload_n 0, 1) := by decide +kernel
theorem d_R_spent_10 : decode b_R_spent 10 = .ok (.getfield 242, 3) := by decide +kernel
theorem d_R_spent_13 : decode b_R_spent 13 = .ok (.goto 28, 3) := by decide +kernel
theorem d_R_spent_16 : decode b_R_spent 16 = .ok (.iload_n 1, 1) := by decide +kernel
theorem d_R_spent_17 : decode b_R_spent 17 = .ok (.iconst 1, 1) := by decide +kernel
theorem d_R_spent_18 : decode b_R_spent 18 = .ok (.if_icmp .ne 10, 3) := by decide +kernel
theorem d_R_spent_21 : decode b_R_spent 21 = .ok (.aload_n 0, 1) := by decide +kernel
theorem d_R_spent_22 : decode b_R_spent 22 = .ok (.getfield 230, 3) := by decide +kernel
theorem d_R_spent_25 : decode b_R_spent 25 = .ok (.goto 16, 3) := by decide +kernel
theorem d_R_spent_28 : decode b_R_spent 28 = .ok (.iload_n 1, 1) := by decide +kernel
theorem d_R_spent_29 : decode b_R_spent 29 = .ok (.iconst 2, 1) := by decide +kernel
theorem d_R_spent_30 : decode b_R_spent 30 = .ok (.if_icmp .ne 10, 3) := by decide +kernel
theorem d_R_spent_33 : decode b_R_spent 33 = .ok (.aload_n 0, 1) := by decide +kernel
theorem d_R_spent_34 : decode b_R_spent 34 = .ok (.getfield 223, 3) := by decide +kernel
theorem d_R_spent_37 : decode b_R_spent 37 = .ok (.goto 4, 3) := by decide +kernel
theorem d_R_spent_40 : decode b_R_spent 40 = .ok (.iconst (-1), 1) := by decide +kernel
theorem d_R_spent_41 : decode b_R_spent 41 = .ok (.ireturn, 1) := by decide +kernel
theorem d_K_init_0 : decode b_K_init 0 = .ok (.aload_n 0, 1) := by decide +kernel
theorem d_K_init_1 : decode b_K_init 1 = .ok (.invokespecial 3, 3) := by decide +kernel
theorem d_K_init_4 : decode b_K_init 4 = .ok (.aload_n 0, 1) := by decide +kernel
theorem d_K_init_5 : decode b_K_init 5 = .ok (.bipush 10, 2) := by decide +kernel
theorem d_K_init_7 : decode b_K_init 7 = .ok (.newarray .int, 2) := by decide +kernel
theorem d_K_init_9 : decode b_K_init 9 = .ok (.putfield 9, 3) := by decide +kernel
theorem d_K_init_12 : decode b_K_init 12 = .ok (.aload_n 0, 1) := by decide +kernel
theorem d_K_init_13 : decode b_K_init 13 = .ok (.bipush 126, 2) := by decide +kernel
theorem d_K_init_15 : decode b_K_init 15 = .ok (.newarray .int, 2) := by decide +kernel
theorem d_K_init_17 : decode b_K_init 17 = .ok (.putfield 15, 3) := by decide +kernel
theorem d_K_init_20 : decode b_K_init 20 = .ok (.aload_n 0, 1) := by decide +kernel
theorem d_K_init_21 : decode b_K_init 21 = .ok (.bipush 126, 2) := by decide +kernel
theorem d_K_init_23 : decode b_K_init 23 = .ok (.newarray .int, 2) := by decide +kernel
theorem d_K_init_25 : decode b_K_init 25 = .ok (.putfield 18, 3) := by decide +kernel
theorem d_K_init_28 : decode b_K_init 28 = .ok (.aload_n 0, 1) := by decide +kernel
theorem d_K_init_29 : decode b_K_init 29 = .ok (.aload_n 1, 1) := by decide +kernel
theorem d_K_init_30 : decode b_K_init 30 = .ok (.putfield 21, 3) := by decide +kernel
theorem d_K_init_33 : decode b_K_init 33 = .ok (.aload_n 0, 1) := by decide +kernel
theorem d_K_init_34 : decode b_K_init 34 = .ok (.aload_n 2, 1) := by decide +kernel
theorem d_K_init_35 : decode b_K_init 35 = .ok (.putfield 25, 3) := by decide +kernel
theorem d_K_init_38 : decode b_K_init 38 = .ok (.aload_n 0, 1) := by decide +kernel
theorem d_K_init_39 : decode b_K_init 39 = .ok (.aload_n 3, 1) := by decide +kernel
theorem d_K_init_40 : decode b_K_init 40 = .ok (.putfield 29, 3) := by decide +kernel
theorem d_K_init_43 : decode b_K_init 43 = .ok (.return_, 1) := by decide +kernel
theorem d_A_init_0 : decode b_A_init 0 = .ok (.aload_n 0, 1) := by decide +kernel
theorem d_A_init_1 : decode b_A_init 1 = .ok (.invokespecial 3, 3) := by decide +kernel
theorem d_A_init_4 : decode b_A_init 4 = .ok (.aload_n 0, 1) := by decide +kernel
theorem d_A_init_5 : decode b_A_init 5 = .ok (.bipush 16, 2) := by decide +kernel
theorem d_A_init_7 : decode b_A_init 7 = .ok (.newarray .int, 2) := by decide +kernel
theorem d_A_init_9 : decode b_A_init 9 = .ok (.putfield 9, 3) := by decide +kernel
theorem d_A_init_12 : decode b_A_init 12 = .ok (.aload_n 0, 1) := by decide +kernel
theorem d_A_init_13 : decode b_A_init 13 = .ok (.bipush 6, 2) := by decide +kernel
theorem d_A_init_15 : decode b_A_init 15 = .ok (.newarray .int, 2) := by decide +kernel
theorem d_A_init_17 : decode b_A_init 17 = .ok (.putfield 15, 3) := by decide +kernel
theorem d_A_init_20 : decode b_A_init 20 = .ok (.aload_n 0, 1) := by decide +kernel
theorem d_A_init_21 : decode b_A_init 21 = .ok (.bipush 126, 2) := by decide +kernel
theorem d_A_init_23 : decode b_A_init 23 = .ok (.newarray .int, 2) := by decide +kernel
theorem d_A_init_25 : decode b_A_init 25 = .ok (.putfield 18, 3) := by decide +kernel
theorem d_A_init_28 : decode b_A_init 28 = .ok (.aload_n 0, 1) := by decide +kernel
theorem d_A_init_29 : decode b_A_init 29 = .ok (.bipush 6, 2) := by decide +kernel
theorem d_A_init_31 : decode b_A_init 31 = .ok (.newarray .int, 2) := by decide +kernel
theorem d_A_init_33 : decode b_A_init 33 = .ok (.putfield 21, 3) := by decide +kernel
theorem d_A_init_36 : decode b_A_init 36 = .ok (.aload_n 0, 1) := by decide +kernel
theorem d_A_init_37 : decode b_A_init 37 = .ok (.bipush 40, 2) := by decide +kernel
theorem d_A_init_39 : decode b_A_init 39 = .ok (.newarray .int, 2) := by decide +kernel
theorem d_A_init_41 : decode b_A_init 41 = .ok (.putfield 24, 3) := by decide +kernel
theorem d_A_init_44 : decode b_A_init 44 = .ok (.aload_n 0, 1) := by decide +kernel
theorem d_A_init_45 : decode b_A_init 45 = .ok (.aload_n 1, 1) := by decide +kernel
theorem d_A_init_46 : decode b_A_init 46 = .ok (.putfield 27, 3) := by decide +kernel
theorem d_A_init_49 : decode b_A_init 49 = .ok (.aload_n 0, 1) := by decide +kernel
theorem d_A_init_50 : decode b_A_init 50 = .ok (.aload_n 2, 1) := by decide +kernel
theorem d_A_init_51 : decode b_A_init 51 = .ok (.putfield 31, 3) := by decide +kernel
theorem d_A_init_54 : decode b_A_init 54 = .ok (.aload_n 0, 1) := by decide +kernel
theorem d_A_init_55 : decode b_A_init 55 = .ok (.aload_n 3, 1) := by decide +kernel
theorem d_A_init_56 : decode b_A_init 56 = .ok (.putfield 35, 3) := by decide +kernel
theorem d_A_init_59 : decode b_A_init 59 = .ok (.aload_n 0, 1) := by decide +kernel
theorem d_A_init_60 : decode b_A_init 60 = .ok (.aload 4, 2) := by decide +kernel
theorem d_A_init_62 : decode b_A_init 62 = .ok (.putfield 39, 3) := by decide +kernel
theorem d_A_init_65 : decode b_A_init 65 = .ok (.return_, 1) := by decide +kernel
theorem d_A_addInput_0 : decode b_A_addInput 0 = .ok (.aload_n 0, 1) := by decide +kernel
theorem d_A_addInput_1 : decode b_A_addInput 1 = .ok (.getfield 43, 3) := by decide +kernel
theorem d_A_addInput_4 : decode b_A_addInput 4 = .ok (.bipush 16, 2) := by decide +kernel
theorem d_A_addInput_6 : decode b_A_addInput 6 = .ok (.if_icmp .lt 5, 3) := by decide +kernel
theorem d_A_addInput_11 : decode b_A_addInput 11 = .ok (.aload_n 0, 1) := by decide +kernel
theorem d_A_addInput_12 : decode b_A_addInput 12 = .ok (.getfield 9, 3) := by decide +kernel
theorem d_A_addInput_15 : decode b_A_addInput 15 = .ok (.aload_n 0, 1) := by decide +kernel
theorem d_A_addInput_16 : decode b_A_addInput 16 = .ok (.getfield 43, 3) := by decide +kernel
theorem d_A_addInput_19 : decode b_A_addInput 19 = .ok (.iload_n 1, 1) := by decide +kernel
theorem d_A_addInput_20 : decode b_A_addInput 20 = .ok (.iastore, 1) := by decide +kernel
theorem d_A_addInput_21 : decode b_A_addInput 21 = .ok (.aload_n 0, 1) := by decide +kernel
theorem d_A_addInput_22 : decode b_A_addInput 22 = .ok (.dup, 1) := by decide +kernel
theorem d_A_addInput_23 : decode b_A_addInput 23 = .ok (.getfield 43, 3) := by decide +kernel
theorem d_A_addInput_26 : decode b_A_addInput 26 = .ok (.iconst 1, 1) := by decide +kernel
theorem d_A_addInput_27 : decode b_A_addInput 27 = .ok (.iadd, 1) := by decide +kernel
theorem d_A_addInput_28 : decode b_A_addInput 28 = .ok (.putfield 43, 3) := by decide +kernel
theorem d_A_addInput_31 : decode b_A_addInput 31 = .ok (.iconst 1, 1) := by decide +kernel
theorem d_A_addInput_32 : decode b_A_addInput 32 = .ok (.ireturn, 1) := by decide +kernel
theorem d_G_init_0 : decode b_G_init 0 = .ok (.aload_n 0, 1) := by decide +kernel
theorem d_G_init_1 : decode b_G_init 1 = .ok (.invokespecial 3, 3) := by decide +kernel
theorem d_G_init_4 : decode b_G_init 4 = .ok (.aload_n 0, 1) := by decide +kernel
theorem d_G_init_5 : decode b_G_init 5 = .ok (.bipush 10, 2) := by decide +kernel
theorem d_G_init_7 : decode b_G_init 7 = .ok (.newarray .int, 2) := by decide +kernel
theorem d_G_init_9 : decode b_G_init 9 = .ok (.putfield 9, 3) := by decide +kernel
theorem d_G_init_12 : decode b_G_init 12 = .ok (.aload_n 0, 1) := by decide +kernel
theorem d_G_init_13 : decode b_G_init 13 = .ok (.bipush 10, 2) := by decide +kernel
theorem d_G_init_15 : decode b_G_init 15 = .ok (.newarray .int, 2) := by decide +kernel
theorem d_G_init_17 : decode b_G_init 17 = .ok (.putfield 15, 3) := by decide +kernel
theorem d_G_init_20 : decode b_G_init 20 = .ok (.aload_n 0, 1) := by decide +kernel
theorem d_G_init_21 : decode b_G_init 21 = .ok (.bipush 10, 2) := by decide +kernel
theorem d_G_init_23 : decode b_G_init 23 = .ok (.bipush 6, 2) := by decide +kernel
theorem d_G_init_25 : decode b_G_init 25 = .ok (.multianewarray 18 2, 4) := by decide +kernel
theorem d_G_init_29 : decode b_G_init 29 = .ok (.putfield 20, 3) := by decide +kernel
theorem d_G_init_32 : decode b_G_init 32 = .ok (.aload_n 0, 1) := by decide +kernel
theorem d_G_init_33 : decode b_G_init 33 = .ok (.bipush 10, 2) := by decide +kernel
theorem d_G_init_35 : decode b_G_init 35 = .ok (.bipush 6, 2) := by decide +kernel
theorem d_G_init_37 : decode b_G_init 37 = .ok (.multianewarray 18 2, 4) := by decide +kernel
theorem d_G_init_41 : decode b_G_init 41 = .ok (.putfield 23, 3) := by decide +kernel
theorem d_G_init_44 : decode b_G_init 44 = .ok (.aload_n 0, 1) := by decide +kernel
theorem d_G_init_45 : decode b_G_init 45 = .ok (.bipush 10, 2) := by decide +kernel
theorem d_G_init_47 : decode b_G_init 47 = .ok (.bipush 6, 2) := by decide +kernel
theorem d_G_init_49 : decode b_G_init 49 = .ok (.multianewarray 18 2, 4) := by decide +kernel
theorem d_G_init_53 : decode b_G_init 53 = .ok (.putfield 26, 3) := by decide +kernel
theorem d_G_init_56 : decode b_G_init 56 = .ok (.aload_n 0, 1) := by decide +kernel
theorem d_G_init_57 : decode b_G_init 57 = .ok (.bipush 10, 2) := by decide +kernel
theorem d_G_init_59 : decode b_G_init 59 = .ok (.bipush 6, 2) := by decide +kernel
theorem d_G_init_61 : decode b_G_init 61 = .ok (.multianewarray 18 2, 4) := by decide +kernel
theorem d_G_init_65 : decode b_G_init 65 = .ok (.putfield 29, 3) := by decide +kernel
theorem d_G_init_68 : decode b_G_init 68 = .ok (.aload_n 0, 1) := by decide +kernel
theorem d_G_init_69 : decode b_G_init 69 = .ok (.bipush 10, 2) := by decide +kernel
theorem d_G_init_71 : decode b_G_init 71 = .ok (.bipush 6, 2) := by decide +kernel
theorem d_G_init_73 : decode b_G_init 73 = .ok (.multianewarray 18 2, 4) := by decide +kernel
theorem d_G_init_77 : decode b_G_init 77 = .ok (.putfield 32, 3) := by decide +kernel
theorem d_G_init_80 : decode b_G_init 80 = .ok (.aload_n 0, 1) := by decide +kernel
theorem d_G_init_81 : decode b_G_init 81 = .ok (.bipush 10, 2) := by decide +kernel
theorem d_G_init_83 : decode b_G_init 83 = .ok (.newarray .int, 2) := by decide +kernel
theorem d_G_init_85 : decode b_G_init 85 = .ok (.putfield 35, 3) := by decide +kernel
theorem d_G_init_88 : decode b_G_init 88 = .ok (.aload_n 0, 1) := by decide +kernel
theorem d_G_init_89 : decode b_G_init 89 = .ok (.bipush 126, 2) := by decide +kernel
theorem d_G_init_91 : decode b_G_init 91 = .ok (.newarray .int, 2) := by decide +kernel
theorem d_G_init_93 : decode b_G_init 93 = .ok (.putfield 38, 3) := by decide +kernel
theorem d_G_init_96 : decode b_G_init 96 = .ok (.aload_n 0, 1) := by decide +kernel
theorem d_G_init_97 : decode b_G_init 97 = .ok (.bipush 126, 2) := by decide +kernel
theorem d_G_init_99 : decode b_G_init 99 = .ok (.newarray .int, 2) := by decide +kernel
theorem d_G_init_101 : decode b_G_init 101 = .ok (.putfield 41, 3) := by decide +kernel
theorem d_G_init_104 : decode b_G_init 104 = .ok (.aload_n 0, 1) := by decide +kernel
theorem d_G_init_105 : decode b_G_init 105 = .ok (.bipush 126, 2) := by decide +kernel
theorem d_G_init_107 : decode b_G_init 107 = .ok (.newarray .int, 2) := by decide +kernel
theorem d_G_init_109 : decode b_G_init 109 = .ok (.putfield 44, 3) := by decide +kernel
theorem d_G_init_112 : decode b_G_init 112 = .ok (.aload_n 0, 1) := by decide +kernel
theorem d_G_init_113 : decode b_G_init 113 = .ok (.aload_n 1, 1) := by decide +kernel
theorem d_G_init_114 : decode b_G_init 114 = .ok (.putfield 47, 3) := by decide +kernel
theorem d_G_init_117 : decode b_G_init 117 = .ok (.aload_n 0, 1) := by decide +kernel
theorem d_G_init_118 : decode b_G_init 118 = .ok (.aload_n 2, 1) := by decide +kernel
theorem d_G_init_119 : decode b_G_init 119 = .ok (.putfield 51, 3) := by decide +kernel
theorem d_G_init_122 : decode b_G_init 122 = .ok (.return_, 1) := by decide +kernel
theorem d_D_init_0 : decode b_D_init 0 = .ok (.aload_n 0, 1) := by decide +kernel
theorem d_D_init_1 : decode b_D_init 1 = .ok (.invokespecial 3, 3) := by decide +kernel
theorem d_D_init_4 : decode b_D_init 4 = .ok (.aload_n 0, 1) := by decide +kernel
theorem d_D_init_5 : decode b_D_init 5 = .ok (.bipush 126, 2) := by decide +kernel
theorem d_D_init_7 : decode b_D_init 7 = .ok (.newarray .boolean, 2) := by decide +kernel
theorem d_D_init_9 : decode b_D_init 9 = .ok (.putfield 9, 3) := by decide +kernel
theorem d_D_init_12 : decode b_D_init 12 = .ok (.aload_n 0, 1) := by decide +kernel
theorem d_D_init_13 : decode b_D_init 13 = .ok (.bipush 126, 2) := by decide +kernel
theorem d_D_init_15 : decode b_D_init 15 = .ok (.newarray .int, 2) := by decide +kernel
theorem d_D_init_17 : decode b_D_init 17 = .ok (.putfield 15, 3) := by decide +kernel
theorem d_D_init_20 : decode b_D_init 20 = .ok (.aload_n 0, 1) := by decide +kernel
theorem d_D_init_21 : decode b_D_init 21 = .ok (.aload_n 1, 1) := by decide +kernel
theorem d_D_init_22 : decode b_D_init 22 = .ok (.putfield 19, 3) := by decide +kernel
theorem d_D_init_25 : decode b_D_init 25 = .ok (.aload_n 0, 1) := by decide +kernel
theorem d_D_init_26 : decode b_D_init 26 = .ok (.aload_n 2, 1) := by decide +kernel
theorem d_D_init_27 : decode b_D_init 27 = .ok (.putfield 23, 3) := by decide +kernel
theorem d_D_init_30 : decode b_D_init 30 = .ok (.aload_n 0, 1) := by decide +kernel
theorem d_D_init_31 : decode b_D_init 31 = .ok (.aload_n 3, 1) := by decide +kernel
theorem d_D_init_32 : decode b_D_init 32 = .ok (.putfield 27, 3) := by decide +kernel
theorem d_D_init_35 : decode b_D_init 35 = .ok (.return_, 1) := by decide +kernel
theorem d_P_init_0 : decode b_P_init 0 = .ok (.aload_n 0, 1) := by decide +kernel
theorem d_P_init_1 : decode b_P_init 1 = .ok (.invokespecial 3, 3) := by decide +kernel
theorem d_P_init_4 : decode b_P_init 4 = .ok (.aload_n 0, 1) := by decide +kernel
theorem d_P_init_5 : decode b_P_init 5 = .ok (.bipush 10, 2) := by decide +kernel
theorem d_P_init_7 : decode b_P_init 7 = .ok (.newarray .int, 2) := by decide +kernel
theorem d_P_init_9 : decode b_P_init 9 = .ok (.putfield 9, 3) := by decide +kernel
theorem d_P_init_12 : decode b_P_init 12 = .ok (.aload_n 0, 1) := by decide +kernel
theorem d_P_init_13 : decode b_P_init 13 = .ok (.bipush 10, 2) := by decide +kernel
theorem d_P_init_15 : decode b_P_init 15 = .ok (.bipush 6, 2) := by decide +kernel
theorem d_P_init_17 : decode b_P_init 17 = .ok (.multianewarray 15 2, 4) := by decide +kernel
theorem d_P_init_21 : decode b_P_init 21 = .ok (.putfield 17, 3) := by decide +kernel
theorem d_P_init_24 : decode b_P_init 24 = .ok (.aload_n 0, 1) := by decide +kernel
theorem d_P_init_25 : decode b_P_init 25 = .ok (.bipush 10, 2) := by decide +kernel
theorem d_P_init_27 : decode b_P_init 27 = .ok (.bipush 6, 2) := by decide +kernel
theorem d_P_init_29 : decode b_P_init 29 = .ok (.multianewarray 15 2, 4) := by decide +kernel
theorem d_P_init_33 : decode b_P_init 33 = .ok (.putfield 20, 3) := by decide +kernel
theorem d_P_init_36 : decode b_P_init 36 = .ok (.aload_n 0, 1) := by decide +kernel
theorem d_P_init_37 : decode b_P_init 37 = .ok (.bipush 10, 2) := by decide +kernel
theorem d_P_init_39 : decode b_P_init 39 = .ok (.bipush 6, 2) := by decide +kernel
theorem d_P_init_41 : decode b_P_init 41 = .ok (.multianewarray 15 2, 4) := by decide +kernel
theorem d_P_init_45 : decode b_P_init 45 = .ok (.putfield 23, 3) := by decide +kernel
theorem d_P_init_48 : decode b_P_init 48 = .ok (.aload_n 0, 1) := by decide +kernel
theorem d_P_init_49 : decode b_P_init 49 = .ok (.bipush 10, 2) := by decide +kernel
theorem d_P_init_51 : decode b_P_init 51 = .ok (.bipush 6, 2) := by decide +kernel
theorem d_P_init_53 : decode b_P_init 53 = .ok (.multianewarray 15 2, 4) := by decide +kernel
theorem d_P_init_57 : decode b_P_init 57 = .ok (.putfield 26, 3) := by decide +kernel
theorem d_P_init_60 : decode b_P_init 60 = .ok (.aload_n 0, 1) := by decide +kernel
theorem d_P_init_61 : decode b_P_init 61 = .ok (.bipush 10, 2) := by decide +kernel
theorem d_P_init_63 : decode b_P_init 63 = .ok (.newarray .int, 2) := by decide +kernel
theorem d_P_init_65 : decode b_P_init 65 = .ok (.putfield 29, 3) := by decide +kernel
theorem d_P_init_68 : decode b_P_init 68 = .ok (.aload_n 0, 1) := by decide +kernel
theorem d_P_init_69 : decode b_P_init 69 = .ok (.bipush 10, 2) := by decide +kernel
theorem d_P_init_71 : decode b_P_init 71 = .ok (.newarray .int, 2) := by decide +kernel
theorem d_P_init_73 : decode b_P_init 73 = .ok (.putfield 32, 3) := by decide +kernel
theorem d_P_init_76 : decode b_P_init 76 = .ok (.aload_n 0, 1) := by decide +kernel
theorem d_P_init_77 : decode b_P_init 77 = .ok (.bipush 10, 2) := by decide +kernel
theorem d_P_init_79 : decode b_P_init 79 = .ok (.newarray .int, 2) := by decide +kernel
theorem d_P_init_81 : decode b_P_init 81 = .ok (.putfield 35, 3) := by decide +kernel
theorem d_P_init_84 : decode b_P_init 84 = .ok (.aload_n 0, 1) := by decide +kernel
theorem d_P_init_85 : decode b_P_init 85 = .ok (.bipush 10, 2) := by decide +kernel
theorem d_P_init_87 : decode b_P_init 87 = .ok (.newarray .int, 2) := by decide +kernel
theorem d_P_init_89 : decode b_P_init 89 = .ok (.putfield 38, 3) := by decide +kernel
theorem d_P_init_92 : decode b_P_init 92 = .ok (.return_, 1) := by decide +kernel
theorem d_P_has_0 : decode b_P_has 0 = .ok (.iload_n 1, 1) := by decide +kernel
theorem d_P_has_1 : decode b_P_has 1 = .ok (.ifCond .lt 15, 3) := by decide +kernel
theorem d_P_has_4 : decode b_P_has 4 = .ok (.iload_n 1, 1) := by decide +kernel
theorem d_P_has_5 : decode b_P_has 5 = .ok (.aload_n 0, 1) := by decide +kernel
theorem d_P_has_6 : decode b_P_has 6 = .ok (.getfield 41, 3) := by decide +kernel
theorem d_P_has_9 : decode b_P_has 9 = .ok (.if_icmp .ge 7, 3) := by decide +kernel
theorem d_P_has_16 : decode b_P_has 16 = .ok (.iconst 0, 1) := by decide +kernel
theorem d_P_has_17 : decode b_P_has 17 = .ok (.ireturn, 1) := by decide +kernel
theorem d_P_addBlock_0 : decode b_P_addBlock 0 = .ok (.aload_n 0, 1) := by decide +kernel
theorem d_P_addBlock_1 : decode b_P_addBlock 1 = .ok (.getfield 41, 3) := by decide +kernel
theorem d_P_addBlock_4 : decode b_P_addBlock 4 = .ok (.istore_n 1, 1) := by decide +kernel
theorem d_P_addBlock_5 : decode b_P_addBlock 5 = .ok (.aload_n 0, 1) := by decide +kernel
theorem d_P_addBlock_6 : decode b_P_addBlock 6 = .ok (.getfield 9, 3) := by decide +kernel
theorem d_P_addBlock_9 : decode b_P_addBlock 9 = .ok (.iload_n 1, 1) := by decide +kernel
theorem d_P_addBlock_10 : decode b_P_addBlock 10 = .ok (.iconst 0, 1) := by decide +kernel
theorem d_P_addBlock_11 : decode b_P_addBlock 11 = .ok (.iastore, 1) := by decide +kernel
theorem d_P_addBlock_12 : decode b_P_addBlock 12 = .ok (.aload_n 0, 1) := by decide +kernel
theorem d_P_addBlock_13 : decode b_P_addBlock 13 = .ok (.iload_n 1, 1) := by decide +kernel
theorem d_P_addBlock_14 : decode b_P_addBlock 14 = .ok (.iconst 0, 1) := by decide +kernel
theorem d_P_addBlock_15 : decode b_P_addBlock 15 = .ok (.iconst 0, 1) := by decide +kernel
theorem d_P_addBlock_16 : decode b_P_addBlock 16 = .ok (.iconst 0, 1) := by decide +kernel
theorem d_P_addBlock_17 : decode b_P_addBlock 17 = .ok (.iconst 0, 1) := by decide +kernel
theorem d_P_addBlock_18 : decode b_P_addBlock 18 = .ok (.invokevirtual 49, 3) := by decide +kernel
theorem d_P_addBlock_21 : decode b_P_addBlock 21 = .ok (.aload_n 0, 1) := by decide +kernel
theorem d_P_addBlock_22 : decode b_P_addBlock 22 = .ok (.dup, 1) := by decide +kernel
theorem d_P_addBlock_23 : decode b_P_addBlock 23 = .ok (.getfield 41, 3) := by decide +kernel
theorem d_P_addBlock_26 : decode b_P_addBlock 26 = .ok (.iconst 1, 1) := by decide +kernel
theorem d_P_addBlock_27 : decode b_P_addBlock 27 = .ok (.iadd, 1) := by decide +kernel
theorem d_P_addBlock_28 : decode b_P_addBlock 28 = .ok (.putfield 41, 3) := by decide +kernel
theorem d_P_addBlock_31 : decode b_P_addBlock 31 = .ok (.iload_n 1, 1) := by decide +kernel
theorem d_P_addBlock_32 : decode b_P_addBlock 32 = .ok (.ireturn, 1) := by decide +kernel
theorem d_P_setEnd_0 : decode b_P_setEnd 0 = .ok (.aload_n 0, 1) := by decide +kernel
theorem d_P_setEnd_1 : decode b_P_setEnd 1 = .ok (.getfield 29, 3) := by decide +kernel
theorem d_P_setEnd_4 : decode b_P_setEnd 4 = .ok (.iload_n 1, 1) := by decide +kernel
theorem d_P_setEnd_5 : decode b_P_setEnd 5 = .ok (.iload_n 2, 1) := by decide +kernel
theorem d_P_setEnd_6 : decode b_P_setEnd 6 = .ok (.iastore, 1) := by decide +kernel
theorem d_P_setEnd_7 : decode b_P_setEnd 7 = .ok (.aload_n 0, 1) := by decide +kernel
theorem d_P_setEnd_8 : decode b_P_setEnd 8 = .ok (.getfield 32, 3) := by decide +kernel
theorem d_P_setEnd_11 : decode b_P_setEnd 11 = .ok (.iload_n 1, 1) := by decide +kernel
theorem d_P_setEnd_12 : decode b_P_setEnd 12 = .ok (.iload_n 3, 1) := by decide +kernel
theorem d_P_setEnd_13 : decode b_P_setEnd 13 = .ok (.iastore, 1) := by decide +kernel
theorem d_P_setEnd_14 : decode b_P_setEnd 14 = .ok (.aload_n 0, 1) := by decide +kernel
theorem d_P_setEnd_15 : decode b_P_setEnd 15 = .ok (.getfield 35, 3) := by decide +kernel
theorem d_P_setEnd_18 : decode b_P_setEnd 18 = .ok (.iload_n 1, 1) := by decide +kernel
theorem d_P_setEnd_19 : decode b_P_setEnd 19 = .ok (.iload 4, 2) := by decide +kernel
theorem d_P_setEnd_21 : decode b_P_setEnd 21 = .ok (.iastore, 1) := by decide +kernel
theorem d_P_setEnd_22 : decode b_P_setEnd 22 = .ok (.aload_n 0, 1) := by decide +kernel
theorem d_P_setEnd_23 : decode b_P_setEnd 23 = .ok (.getfield 38, 3) := by decide +kernel
theorem d_P_setEnd_26 : decode b_P_setEnd 26 = .ok (.iload_n 1, 1) := by decide +kernel
theorem d_P_setEnd_27 : decode b_P_setEnd 27 = .ok (.iload 5, 2) := by decide +kernel
theorem d_P_setEnd_29 : decode b_P_setEnd 29 = .ok (.iastore, 1) := by decide +kernel
theorem d_P_setEnd_30 : decode b_P_setEnd 30 = .ok (.return_, 1) := by decide +kernel
theorem d_S_init_0 : decode b_S_init 0 = .ok (.aload_n 0, 1) := by decide +kernel
theorem d_S_init_1 : decode b_S_init 1 = .ok (.invokespecial 3, 3) := by decide +kernel
theorem d_S_init_4 : decode b_S_init 4 = .ok (.aload_n 0, 1) := by decide +kernel
theorem d_S_init_5 : decode b_S_init 5 = .ok (.bipush 10, 2) := by decide +kernel
theorem d_S_init_7 : decode b_S_init 7 = .ok (.newarray .int, 2) := by decide +kernel
theorem d_S_init_9 : decode b_S_init 9 = .ok (.putfield 9, 3) := by decide +kernel
theorem d_S_init_12 : decode b_S_init 12 = .ok (.aload_n 0, 1) := by decide +kernel
theorem d_S_init_13 : decode b_S_init 13 = .ok (.bipush 10, 2) := by decide +kernel
theorem d_S_init_15 : decode b_S_init 15 = .ok (.newarray .int, 2) := by decide +kernel
theorem d_S_init_17 : decode b_S_init 17 = .ok (.putfield 15, 3) := by decide +kernel
theorem d_S_init_20 : decode b_S_init 20 = .ok (.aload_n 0, 1) := by decide +kernel
theorem d_S_init_21 : decode b_S_init 21 = .ok (.bipush 10, 2) := by decide +kernel
theorem d_S_init_23 : decode b_S_init 23 = .ok (.newarray .int, 2) := by decide +kernel
theorem d_S_init_25 : decode b_S_init 25 = .ok (.putfield 18, 3) := by decide +kernel
theorem d_S_init_28 : decode b_S_init 28 = .ok (.aload_n 0, 1) := by decide +kernel
theorem d_S_init_29 : decode b_S_init 29 = .ok (.bipush 10, 2) := by decide +kernel
theorem d_S_init_31 : decode b_S_init 31 = .ok (.newarray .int, 2) := by decide +kernel
theorem d_S_init_33 : decode b_S_init 33 = .ok (.putfield 21, 3) := by decide +kernel
theorem d_S_init_36 : decode b_S_init 36 = .ok (.aload_n 0, 1) := by decide +kernel
theorem d_S_init_37 : decode b_S_init 37 = .ok (.bipush 10, 2) := by decide +kernel
theorem d_S_init_39 : decode b_S_init 39 = .ok (.newarray .int, 2) := by decide +kernel
theorem d_S_init_41 : decode b_S_init 41 = .ok (.putfield 24, 3) := by decide +kernel
theorem d_S_init_44 : decode b_S_init 44 = .ok (.aload_n 0, 1) := by decide +kernel
theorem d_S_init_45 : decode b_S_init 45 = .ok (.bipush 10, 2) := by decide +kernel
theorem d_S_init_47 : decode b_S_init 47 = .ok (.newarray .int, 2) := by decide +kernel
theorem d_S_init_49 : decode b_S_init 49 = .ok (.putfield 27, 3) := by decide +kernel
theorem d_S_init_52 : decode b_S_init 52 = .ok (.aload_n 0, 1) := by decide +kernel
theorem d_S_init_53 : decode b_S_init 53 = .ok (.aload_n 1, 1) := by decide +kernel
theorem d_S_init_54 : decode b_S_init 54 = .ok (.putfield 30, 3) := by decide +kernel
theorem d_S_init_57 : decode b_S_init 57 = .ok (.return_, 1) := by decide +kernel
theorem d_L_block_0 : decode b_L_block 0 = .ok (.aload_n 1, 1) := by decide +kernel
theorem d_L_block_1 : decode b_L_block 1 = .ok (.iconst 0, 1) := by decide +kernel
theorem d_L_block_2 : decode b_L_block 2 = .ok (.aload_n 0, 1) := by decide +kernel
theorem d_L_block_3 : decode b_L_block 3 = .ok (.invokevirtual 7, 3) := by decide +kernel
theorem d_L_block_6 : decode b_L_block 6 = .ok (.i2l, 1) := by decide +kernel
theorem d_L_block_7 : decode b_L_block 7 = .ok (.lastore, 1) := by decide +kernel
theorem d_L_block_8 : decode b_L_block 8 = .ok (.goto 6, 3) := by decide +kernel
theorem d_L_block_14 : decode b_L_block 14 = .ok (.iconst 0, 1) := by decide +kernel
theorem d_L_block_15 : decode b_L_block 15 = .ok (.ireturn, 1) := by decide +kernel
theorem d_L_put_0 : decode b_L_put 0 = .ok (.aload 6, 2) := by decide +kernel
theorem d_L_put_2 : decode b_L_put 2 = .ok (.iconst 0, 1) := by decide +kernel
theorem d_L_put_3 : decode b_L_put 3 = .ok (.aload_n 0, 1) := by decide +kernel
theorem d_L_put_4 : decode b_L_put 4 = .ok (.iload_n 1, 1) := by decide +kernel
theorem d_L_put_5 : decode b_L_put 5 = .ok (.iload_n 2, 1) := by decide +kernel
theorem d_L_put_6 : decode b_L_put 6 = .ok (.iload_n 3, 1) := by decide +kernel
theorem d_L_put_7 : decode b_L_put 7 = .ok (.iload 4, 2) := by decide +kernel
theorem d_L_put_9 : decode b_L_put 9 = .ok (.iload 5, 2) := by decide +kernel
theorem d_L_put_11 : decode b_L_put 11 = .ok (.invokevirtual 15, 3) := by decide +kernel
theorem d_L_put_19 : decode b_L_put 19 = .ok (.astore 7, 2) := by decide +kernel
theorem d_L_put_21 : decode b_L_put 21 = .ok (.iconst 1, 1) := by decide +kernel
theorem d_L_put_22 : decode b_L_put 22 = .ok (.ireturn, 1) := by decide +kernel
theorem d_L_go_0 : decode b_L_go 0 = .ok (.aload_n 0, 1) := by decide +kernel
theorem d_L_go_1 : decode b_L_go 1 = .ok (.iload_n 1, 1) := by decide +kernel
theorem d_L_go_2 : decode b_L_go 2 = .ok (.iload_n 2, 1) := by decide +kernel
theorem d_L_go_3 : decode b_L_go 3 = .ok (.invokevirtual 21, 3) := by decide +kernel
theorem d_L_go_9 : decode b_L_go 9 = .ok (.astore_n 3, 1) := by decide +kernel
theorem d_L_go_10 : decode b_L_go 10 = .ok (.iconst 1, 1) := by decide +kernel
theorem d_L_go_11 : decode b_L_go 11 = .ok (.ireturn, 1) := by decide +kernel
theorem d_L_fork_0 : decode b_L_fork 0 = .ok (.aload_n 0, 1) := by decide +kernel
theorem d_L_fork_1 : decode b_L_fork 1 = .ok (.iload_n 1, 1) := by decide +kernel
theorem d_L_fork_2 : decode b_L_fork 2 = .ok (.iload_n 2, 1) := by decide +kernel
theorem d_L_fork_3 : decode b_L_fork 3 = .ok (.iload_n 3, 1) := by decide +kernel
theorem d_L_fork_4 : decode b_L_fork 4 = .ok (.iload 4, 2) := by decide +kernel
theorem d_L_fork_6 : decode b_L_fork 6 = .ok (.invokevirtual 25, 3) := by decide +kernel
theorem d_L_fork_12 : decode b_L_fork 12 = .ok (.astore 5, 2) := by decide +kernel
theorem d_L_fork_14 : decode b_L_fork 14 = .ok (.iconst 1, 1) := by decide +kernel
theorem d_L_fork_15 : decode b_L_fork 15 = .ok (.ireturn, 1) := by decide +kernel
theorem d_L_stop_0 : decode b_L_stop 0 = .ok (.aload_n 0, 1) := by decide +kernel
theorem d_L_stop_1 : decode b_L_stop 1 = .ok (.iload_n 1, 1) := by decide +kernel
theorem d_L_stop_2 : decode b_L_stop 2 = .ok (.invokevirtual 29, 3) := by decide +kernel
theorem d_L_stop_8 : decode b_L_stop 8 = .ok (.astore_n 2, 1) := by decide +kernel
theorem d_L_stop_9 : decode b_L_stop 9 = .ok (.iconst 1, 1) := by decide +kernel
theorem d_L_stop_10 : decode b_L_stop 10 = .ok (.ireturn, 1) := by decide +kernel
theorem d_L_build_0 : decode b_L_build 0 = .ok (.aload_n 1, 1) := by decide +kernel
theorem d_L_build_1 : decode b_L_build 1 = .ok (.iconst 0, 1) := by decide +kernel
theorem d_L_build_2 : decode b_L_build 2 = .ok (.aload_n 0, 1) := by decide +kernel
theorem d_L_build_3 : decode b_L_build 3 = .ok (.invokevirtual 33, 3) := by decide +kernel
theorem d_L_build_11 : decode b_L_build 11 = .ok (.astore_n 2, 1) := by decide +kernel
theorem d_L_build_12 : decode b_L_build 12 = .ok (.iconst 1, 1) := by decide +kernel
theorem d_L_build_13 : decode b_L_build 13 = .ok (.ireturn, 1) := by decide +kernel
theorem d_L_look_0 : decode b_L_look 0 = .ok (.aload_n 3, 1) := by decide +kernel
theorem d_L_look_1 : decode b_L_look 1 = .ok (.iconst 0, 1) := by decide +kernel
theorem d_L_look_2 : decode b_L_look 2 = .ok (.aload_n 0, 1) := by decide +kernel
theorem d_L_look_3 : decode b_L_look 3 = .ok (.iload_n 1, 1) := by decide +kernel
theorem d_L_look_4 : decode b_L_look 4 = .ok (.iload_n 2, 1) := by decide +kernel
theorem d_L_look_5 : decode b_L_look 5 = .ok (.invokevirtual 36, 3) := by decide +kernel
theorem d_L_look_13 : decode b_L_look 13 = .ok (.astore 4, 2) := by decide +kernel
theorem d_L_look_15 : decode b_L_look 15 = .ok (.iconst 1, 1) := by decide +kernel
theorem d_L_look_16 : decode b_L_look 16 = .ok (.ireturn, 1) := by decide +kernel
theorem d_L_phi_0 : decode b_L_phi 0 = .ok (.aload 4, 2) := by decide +kernel
theorem d_L_phi_2 : decode b_L_phi 2 = .ok (.iconst 0, 1) := by decide +kernel
theorem d_L_phi_3 : decode b_L_phi 3 = .ok (.aload_n 0, 1) := by decide +kernel
theorem d_L_phi_4 : decode b_L_phi 4 = .ok (.iload_n 1, 1) := by decide +kernel
theorem d_L_phi_5 : decode b_L_phi 5 = .ok (.iload_n 2, 1) := by decide +kernel
theorem d_L_phi_6 : decode b_L_phi 6 = .ok (.iload_n 3, 1) := by decide +kernel
theorem d_L_phi_7 : decode b_L_phi 7 = .ok (.invokevirtual 42, 3) := by decide +kernel
theorem d_L_phi_19 : decode b_L_phi 19 = .ok (.astore 5, 2) := by decide +kernel
theorem d_L_phi_21 : decode b_L_phi 21 = .ok (.iconst 2, 1) := by decide +kernel
theorem d_L_phi_22 : decode b_L_phi 22 = .ok (.ireturn, 1) := by decide +kernel
theorem d_L_uses_0 : decode b_L_uses 0 = .ok (.aload 4, 2) := by decide +kernel
theorem d_L_uses_2 : decode b_L_uses 2 = .ok (.iconst 0, 1) := by decide +kernel
theorem d_L_uses_3 : decode b_L_uses 3 = .ok (.aload_n 0, 1) := by decide +kernel
theorem d_L_uses_4 : decode b_L_uses 4 = .ok (.iload_n 1, 1) := by decide +kernel
theorem d_L_uses_5 : decode b_L_uses 5 = .ok (.iload_n 2, 1) := by decide +kernel
theorem d_L_uses_6 : decode b_L_uses 6 = .ok (.iload_n 3, 1) := by decide +kernel
theorem d_L_uses_7 : decode b_L_uses 7 = .ok (.invokevirtual 46, 3) := by decide +kernel
theorem d_L_uses_19 : decode b_L_uses 19 = .ok (.astore 5, 2) := by decide +kernel
theorem d_L_uses_21 : decode b_L_uses 21 = .ok (.iconst 2, 1) := by decide +kernel
theorem d_L_uses_22 : decode b_L_uses 22 = .ok (.ireturn, 1) := by decide +kernel
theorem d_L_name_0 : decode b_L_name 0 = .ok (.aload_n 3, 1) := by decide +kernel
theorem d_L_name_1 : decode b_L_name 1 = .ok (.iconst 0, 1) := by decide +kernel
theorem d_L_name_2 : decode b_L_name 2 = .ok (.aload_n 0, 1) := by decide +kernel
theorem d_L_name_3 : decode b_L_name 3 = .ok (.iload_n 1, 1) := by decide +kernel
theorem d_L_name_4 : decode b_L_name 4 = .ok (.iload_n 2, 1) := by decide +kernel
theorem d_L_name_5 : decode b_L_name 5 = .ok (.invokevirtual 49, 3) := by decide +kernel
theorem d_L_name_17 : decode b_L_name 17 = .ok (.astore 4, 2) := by decide +kernel
theorem d_L_name_19 : decode b_L_name 19 = .ok (.iconst 2, 1) := by decide +kernel
theorem d_L_name_20 : decode b_L_name 20 = .ok (.ireturn, 1) := by decide +kernel
theorem d_L_run_0 : decode b_L_run 0 = .ok (.aload_n 3, 1) := by decide +kernel
theorem d_L_run_1 : decode b_L_run 1 = .ok (.iconst 0, 1) := by decide +kernel
theorem d_L_run_2 : decode b_L_run 2 = .ok (.aload_n 0, 1) := by decide +kernel
theorem d_L_run_3 : decode b_L_run 3 = .ok (.iload_n 1, 1) := by decide +kernel
theorem d_L_run_4 : decode b_L_run 4 = .ok (.iload_n 2, 1) := by decide +kernel
theorem d_L_run_5 : decode b_L_run 5 = .ok (.invokevirtual 52, 3) := by decide +kernel
theorem d_L_run_13 : decode b_L_run 13 = .ok (.astore 4, 2) := by decide +kernel
theorem d_L_run_15 : decode b_L_run 15 = .ok (.iconst 1, 1) := by decide +kernel
theorem d_L_run_16 : decode b_L_run 16 = .ok (.ireturn, 1) := by decide +kernel
theorem d_L_run_17 : decode b_L_run 17 = .ok (.astore 4, 2) := by decide +kernel
theorem d_L_run_19 : decode b_L_run 19 = .ok (.iconst 2, 1) := by decide +kernel
theorem d_L_run_20 : decode b_L_run 20 = .ok (.ireturn, 1) := by decide +kernel
theorem d_L_heard_0 : decode b_L_heard 0 = .ok (.aload_n 2, 1) := by decide +kernel
theorem d_L_heard_1 : decode b_L_heard 1 = .ok (.iconst 0, 1) := by decide +kernel
theorem d_L_heard_2 : decode b_L_heard 2 = .ok (.aload_n 0, 1) := by decide +kernel
theorem d_L_heard_3 : decode b_L_heard 3 = .ok (.iload_n 1, 1) := by decide +kernel
theorem d_L_heard_4 : decode b_L_heard 4 = .ok (.invokevirtual 56, 3) := by decide +kernel
theorem d_L_heard_12 : decode b_L_heard 12 = .ok (.astore_n 3, 1) := by decide +kernel
theorem d_L_heard_13 : decode b_L_heard 13 = .ok (.iconst 1, 1) := by decide +kernel
theorem d_L_heard_14 : decode b_L_heard 14 = .ok (.ireturn, 1) := by decide +kernel
theorem d_L_law_0 : decode code 0 = .ok (.new 8, 3) := by decide +kernel
theorem d_L_law_3 : decode code 3 = .ok (.dup, 1) := by decide +kernel
theorem d_L_law_4 : decode code 4 = .ok (.invokespecial 60, 3) := by decide +kernel
theorem d_L_law_7 : decode code 7 = .ok (.astore_n 1, 1) := by decide +kernel
theorem d_L_law_8 : decode code 8 = .ok (.new 61, 3) := by decide +kernel
theorem d_L_law_11 : decode code 11 = .ok (.dup, 1) := by decide +kernel
theorem d_L_law_12 : decode code 12 = .ok (.invokespecial 63, 3) := by decide +kernel
theorem d_L_law_15 : decode code 15 = .ok (.astore_n 2, 1) := by decide +kernel
theorem d_L_law_16 : decode code 16 = .ok (.iconst 1, 1) := by decide +kernel
theorem d_L_law_17 : decode code 17 = .ok (.newarray .long, 2) := by decide +kernel
theorem d_L_law_19 : decode code 19 = .ok (.astore_n 3, 1) := by decide +kernel
theorem d_L_law_20 : decode code 20 = .ok (.iconst 0, 1) := by decide +kernel
theorem d_L_law_21 : decode code 21 = .ok (.istore 4, 2) := by decide +kernel
theorem d_L_law_23 : decode code 23 = .ok (.iload 4, 2) := by decide +kernel
theorem d_L_law_25 : decode code 25 = .ok (.aload_n 0, 1) := by decide +kernel
theorem d_L_law_26 : decode code 26 = .ok (.arraylength, 1) := by decide +kernel
theorem d_L_law_27 : decode code 27 = .ok (.bipush 6, 2) := by decide +kernel
theorem d_L_law_29 : decode code 29 = .ok (.isub, 1) := by decide +kernel
theorem d_L_law_30 : decode code 30 = .ok (.if_icmp .gt 969, 3) := by decide +kernel
theorem d_L_law_33 : decode code 33 = .ok (.aload_n 0, 1) := by decide +kernel
theorem d_L_law_34 : decode code 34 = .ok (.iload 4, 2) := by decide +kernel
theorem d_L_law_36 : decode code 36 = .ok (.iaload, 1) := by decide +kernel
theorem d_L_law_37 : decode code 37 = .ok (.bipush 31, 2) := by decide +kernel
theorem d_L_law_39 : decode code 39 = .ok (.iand, 1) := by decide +kernel
theorem d_L_law_40 : decode code 40 = .ok (.tableswitch 953 0 16 #[84, 128, 232, 280, 352, 388, 399, 443, 511, 591, 671, 739, 764, 775, 859, 872, 928], 84) := by decide +kernel
theorem d_L_law_124 : decode code 124 = .ok (.aload_n 1, 1) := by decide +kernel
theorem d_L_law_125 : decode code 125 = .ok (.aload_n 3, 1) := by decide +kernel
theorem d_L_law_126 : decode code 126 = .ok (.invokestatic 64, 3) := by decide +kernel
theorem d_L_law_129 : decode code 129 = .ok (.istore 5, 2) := by decide +kernel
theorem d_L_law_131 : decode code 131 = .ok (.aload_n 2, 1) := by decide +kernel
theorem d_L_law_132 : decode code 132 = .ok (.invokevirtual 69, 3) := by decide +kernel
theorem d_L_law_135 : decode code 135 = .ok (.istore 6, 2) := by decide +kernel
theorem d_L_law_137 : decode code 137 = .ok (.aload_n 2, 1) := by decide +kernel
theorem d_L_law_138 : decode code 138 = .ok (.invokevirtual 70, 3) := by decide +kernel
theorem d_L_law_141 : decode code 141 = .ok (.iload 5, 2) := by decide +kernel
theorem d_L_law_143 : decode code 143 = .ok (.if_icmp .eq 5, 3) := by decide +kernel
theorem d_L_law_148 : decode code 148 = .ok (.iload 5, 2) := by decide +kernel
theorem d_L_law_150 : decode code 150 = .ok (.ifCond .ne 15, 3) := by decide +kernel
theorem d_L_law_153 : decode code 153 = .ok (.aload_n 3, 1) := by decide +kernel
theorem d_L_law_154 : decode code 154 = .ok (.iconst 0, 1) := by decide +kernel
theorem d_L_law_155 : decode code 155 = .ok (.laload, 1) := by decide +kernel
theorem d_L_law_156 : decode code 156 = .ok (.iload 6, 2) := by decide +kernel
theorem d_L_law_158 : decode code 158 = .ok (.i2l, 1) := by decide +kernel
theorem d_L_law_159 : decode code 159 = .ok (.lcmp, 1) := by decide +kernel
theorem d_L_law_160 : decode code 160 = .ok (.ifCond .eq 5, 3) := by decide +kernel
theorem d_L_law_165 : decode code 165 = .ok (.goto 828, 3) := by decide +kernel
theorem d_L_law_168 : decode code 168 = .ok (.aload_n 1, 1) := by decide +kernel
theorem d_L_law_169 : decode code 169 = .ok (.aload_n 0, 1) := by decide +kernel
theorem d_L_law_170 : decode code 170 = .ok (.iload 4, 2) := by decide +kernel
theorem d_L_law_172 : decode code 172 = .ok (.iconst 1, 1) := by decide +kernel
theorem d_L_law_173 : decode code 173 = .ok (.iadd, 1) := by decide +kernel
theorem d_L_law_174 : decode code 174 = .ok (.iaload, 1) := by decide +kernel
theorem d_L_law_175 : decode code 175 = .ok (.aload_n 0, 1) := by decide +kernel
theorem d_L_law_176 : decode code 176 = .ok (.iload 4, 2) := by decide +kernel
theorem d_L_law_178 : decode code 178 = .ok (.iconst 2, 1) := by decide +kernel
theorem d_L_law_179 : decode code 179 = .ok (.iadd, 1) := by decide +kernel
theorem d_L_law_180 : decode code 180 = .ok (.iaload, 1) := by decide +kernel
theorem d_L_law_181 : decode code 181 = .ok (.aload_n 0, 1) := by decide +kernel
theorem d_L_law_182 : decode code 182 = .ok (.iload 4, 2) := by decide +kernel
theorem d_L_law_184 : decode code 184 = .ok (.iconst 3, 1) := by decide +kernel
theorem d_L_law_185 : decode code 185 = .ok (.iadd, 1) := by decide +kernel
theorem d_L_law_186 : decode code 186 = .ok (.iaload, 1) := by decide +kernel
theorem d_L_law_187 : decode code 187 = .ok (.aload_n 0, 1) := by decide +kernel
theorem d_L_law_188 : decode code 188 = .ok (.iload 4, 2) := by decide +kernel
theorem d_L_law_190 : decode code 190 = .ok (.iconst 4, 1) := by decide +kernel
theorem d_L_law_191 : decode code 191 = .ok (.iadd, 1) := by decide +kernel
theorem d_L_law_192 : decode code 192 = .ok (.iaload, 1) := by decide +kernel
theorem d_L_law_193 : decode code 193 = .ok (.aload_n 0, 1) := by decide +kernel
theorem d_L_law_194 : decode code 194 = .ok (.iload 4, 2) := by decide +kernel
theorem d_L_law_196 : decode code 196 = .ok (.iconst 5, 1) := by decide +kernel
theorem d_L_law_197 : decode code 197 = .ok (.iadd, 1) := by decide +kernel
theorem d_L_law_198 : decode code 198 = .ok (.iaload, 1) := by decide +kernel
theorem d_L_law_199 : decode code 199 = .ok (.aload_n 3, 1) := by decide +kernel
theorem d_L_law_200 : decode code 200 = .ok (.invokestatic 73, 3) := by decide +kernel
theorem d_L_law_203 : decode code 203 = .ok (.istore 5, 2) := by decide +kernel
theorem d_L_law_205 : decode code 205 = .ok (.aload_n 2, 1) := by decide +kernel
theorem d_L_law_206 : decode code 206 = .ok (.aload_n 0, 1) := by decide +kernel
theorem d_L_law_207 : decode code 207 = .ok (.iload 4, 2) := by decide +kernel
theorem d_L_law_209 : decode code 209 = .ok (.iconst 1, 1) := by decide +kernel
theorem d_L_law_210 : decode code 210 = .ok (.iadd, 1) := by decide +kernel
theorem d_L_law_211 : decode code 211 = .ok (.iaload, 1) := by decide +kernel
theorem d_L_law_212 : decode code 212 = .ok (.aload_n 0, 1) := by decide +kernel
theorem d_L_law_213 : decode code 213 = .ok (.iload 4, 2) := by decide +kernel
theorem d_L_law_215 : decode code 215 = .ok (.iconst 2, 1) := by decide +kernel
theorem d_L_law_216 : decode code 216 = .ok (.iadd, 1) := by decide +kernel
theorem d_L_law_217 : decode code 217 = .ok (.iaload, 1) := by decide +kernel
theorem d_L_law_218 : decode code 218 = .ok (.aload_n 0, 1) := by decide +kernel
theorem d_L_law_219 : decode code 219 = .ok (.iload 4, 2) := by decide +kernel
theorem d_L_law_221 : decode code 221 = .ok (.iconst 3, 1) := by decide +kernel
theorem d_L_law_222 : decode code 222 = .ok (.iadd, 1) := by decide +kernel
theorem d_L_law_223 : decode code 223 = .ok (.iaload, 1) := by decide +kernel
theorem d_L_law_224 : decode code 224 = .ok (.aload_n 0, 1) := by decide +kernel
theorem d_L_law_225 : decode code 225 = .ok (.iload 4, 2) := by decide +kernel
theorem d_L_law_227 : decode code 227 = .ok (.iconst 4, 1) := by decide +kernel
theorem d_L_law_228 : decode code 228 = .ok (.iadd, 1) := by decide +kernel
theorem d_L_law_229 : decode code 229 = .ok (.iaload, 1) := by decide +kernel
theorem d_L_law_230 : decode code 230 = .ok (.aload_n 0, 1) := by decide +kernel
theorem d_L_law_231 : decode code 231 = .ok (.iload 4, 2) := by decide +kernel
theorem d_L_law_233 : decode code 233 = .ok (.iconst 5, 1) := by decide +kernel
theorem d_L_law_234 : decode code 234 = .ok (.iadd, 1) := by decide +kernel
theorem d_L_law_235 : decode code 235 = .ok (.iaload, 1) := by decide +kernel
theorem d_L_law_236 : decode code 236 = .ok (.invokevirtual 76, 3) := by decide +kernel
theorem d_L_law_239 : decode code 239 = .ok (.istore 6, 2) := by decide +kernel
theorem d_L_law_241 : decode code 241 = .ok (.aload_n 2, 1) := by decide +kernel
theorem d_L_law_242 : decode code 242 = .ok (.invokevirtual 70, 3) := by decide +kernel
theorem d_L_law_245 : decode code 245 = .ok (.iload 5, 2) := by decide +kernel
theorem d_L_law_247 : decode code 247 = .ok (.if_icmp .eq 5, 3) := by decide +kernel
theorem d_L_law_252 : decode code 252 = .ok (.iload 5, 2) := by decide +kernel
theorem d_L_law_254 : decode code 254 = .ok (.ifCond .ne 15, 3) := by decide +kernel
theorem d_L_law_269 : decode code 269 = .ok (.goto 724, 3) := by decide +kernel
theorem d_L_law_272 : decode code 272 = .ok (.aload_n 1, 1) := by decide +kernel
theorem d_L_law_273 : decode code 273 = .ok (.aload_n 0, 1) := by decide +kernel
theorem d_L_law_274 : decode code 274 = .ok (.iload 4, 2) := by decide +kernel
theorem d_L_law_276 : decode code 276 = .ok (.iconst 1, 1) := by decide +kernel
theorem d_L_law_277 : decode code 277 = .ok (.iadd, 1) := by decide +kernel
theorem d_L_law_278 : decode code 278 = .ok (.iaload, 1) := by decide +kernel
theorem d_L_law_279 : decode code 279 = .ok (.aload_n 0, 1) := by decide +kernel
theorem d_L_law_280 : decode code 280 = .ok (.iload 4, 2) := by decide +kernel
theorem d_L_law_282 : decode code 282 = .ok (.iconst 2, 1) := by decide +kernel
theorem d_L_law_283 : decode code 283 = .ok (.iadd, 1) := by decide +kernel
theorem d_L_law_284 : decode code 284 = .ok (.iaload, 1) := by decide +kernel
theorem d_L_law_285 : decode code 285 = .ok (.invokestatic 77, 3) := by decide +kernel
theorem d_L_law_288 : decode code 288 = .ok (.istore 5, 2) := by decide +kernel
theorem d_L_law_290 : decode code 290 = .ok (.aload_n 2, 1) := by decide +kernel
theorem d_L_law_291 : decode code 291 = .ok (.aload_n 0, 1) := by decide +kernel
theorem d_L_law_292 : decode code 292 = .ok (.iload 4, 2) := by decide +kernel
theorem d_L_law_294 : decode code 294 = .ok (.iconst 1, 1) := by decide +kernel
theorem d_L_law_295 : decode code 295 = .ok (.iadd, 1) := by decide +kernel
theorem d_L_law_296 : decode code 296 = .ok (.iaload, 1) := by decide +kernel
theorem d_L_law_297 : decode code 297 = .ok (.aload_n 0, 1) := by decide +kernel
theorem d_L_law_298 : decode code 298 = .ok (.iload 4, 2) := by decide +kernel
theorem d_L_law_300 : decode code 300 = .ok (.iconst 2, 1) := by decide +kernel
theorem d_L_law_301 : decode code 301 = .ok (.iadd, 1) := by decide +kernel
theorem d_L_law_302 : decode code 302 = .ok (.iaload, 1) := by decide +kernel
theorem d_L_law_303 : decode code 303 = .ok (.invokevirtual 80, 3) := by decide +kernel
theorem d_L_law_306 : decode code 306 = .ok (.aload_n 2, 1) := by decide +kernel
theorem d_L_law_307 : decode code 307 = .ok (.invokevirtual 70, 3) := by decide +kernel
theorem d_L_law_310 : decode code 310 = .ok (.iload 5, 2) := by decide +kernel
theorem d_L_law_312 : decode code 312 = .ok (.if_icmp .eq 5, 3) := by decide +kernel
theorem d_L_law_317 : decode code 317 = .ok (.goto 676, 3) := by decide +kernel
theorem d_L_law_320 : decode code 320 = .ok (.aload_n 1, 1) := by decide +kernel
theorem d_L_law_321 : decode code 321 = .ok (.aload_n 0, 1) := by decide +kernel
theorem d_L_law_322 : decode code 322 = .ok (.iload 4, 2) := by decide +kernel
theorem d_L_law_324 : decode code 324 = .ok (.iconst 1, 1) := by decide +kernel
theorem d_L_law_325 : decode code 325 = .ok (.iadd, 1) := by decide +kernel
theorem d_L_law_326 : decode code 326 = .ok (.iaload, 1) := by decide +kernel
theorem d_L_law_327 : decode code 327 = .ok (.aload_n 0, 1) := by decide +kernel
theorem d_L_law_328 : decode code 328 = .ok (.iload 4, 2) := by decide +kernel
theorem d_L_law_330 : decode code 330 = .ok (.iconst 2, 1) := by decide +kernel
theorem d_L_law_331 : decode code 331 = .ok (.iadd, 1) := by decide +kernel
theorem d_L_law_332 : decode code 332 = .ok (.iaload, 1) := by decide +kernel
theorem d_L_law_333 : decode code 333 = .ok (.aload_n 0, 1) := by decide +kernel
theorem d_L_law_334 : decode code 334 = .ok (.iload 4, 2) := by decide +kernel
theorem d_L_law_336 : decode code 336 = .ok (.iconst 3, 1) := by decide +kernel
theorem d_L_law_337 : decode code 337 = .ok (.iadd, 1) := by decide +kernel
theorem d_L_law_338 : decode code 338 = .ok (.iaload, 1) := by decide +kernel
theorem d_L_law_339 : decode code 339 = .ok (.aload_n 0, 1) := by decide +kernel
theorem d_L_law_340 : decode code 340 = .ok (.iload 4, 2) := by decide +kernel
theorem d_L_law_342 : decode code 342 = .ok (.iconst 4, 1) := by decide +kernel
theorem d_L_law_343 : decode code 343 = .ok (.iadd, 1) := by decide +kernel
theorem d_L_law_344 : decode code 344 = .ok (.iaload, 1) := by decide +kernel
theorem d_L_law_345 : decode code 345 = .ok (.invokestatic 81, 3) := by decide +kernel
theorem d_L_law_348 : decode code 348 = .ok (.istore 5, 2) := by decide +kernel
theorem d_L_law_350 : decode code 350 = .ok (.aload_n 2, 1) := by decide +kernel
theorem d_L_law_351 : decode code 351 = .ok (.aload_n 0, 1) := by decide +kernel
theorem d_L_law_352 : decode code 352 = .ok (.iload 4, 2) := by decide +kernel
theorem d_L_law_354 : decode code 354 = .ok (.iconst 1, 1) := by decide +kernel
theorem d_L_law_355 : decode code 355 = .ok (.iadd, 1) := by decide +kernel
theorem d_L_law_356 : decode code 356 = .ok (.iaload, 1) := by decide +kernel
theorem d_L_law_357 : decode code 357 = .ok (.aload_n 0, 1) := by decide +kernel
theorem d_L_law_358 : decode code 358 = .ok (.iload 4, 2) := by decide +kernel
theorem d_L_law_360 : decode code 360 = .ok (.iconst 2, 1) := by decide +kernel
theorem d_L_law_361 : decode code 361 = .ok (.iadd, 1) := by decide +kernel
theorem d_L_law_362 : decode code 362 = .ok (.iaload, 1) := by decide +kernel
theorem d_L_law_363 : decode code 363 = .ok (.aload_n 0, 1) := by decide +kernel
theorem d_L_law_364 : decode code 364 = .ok (.iload 4, 2) := by decide +kernel
theorem d_L_law_366 : decode code 366 = .ok (.iconst 3, 1) := by decide +kernel
theorem d_L_law_367 : decode code 367 = .ok (.iadd, 1) := by decide +kernel
theorem d_L_law_368 : decode code 368 = .ok (.iaload, 1) := by decide +kernel
theorem d_L_law_369 : decode code 369 = .ok (.aload_n 0, 1) := by decide +kernel
theorem d_L_law_370 : decode code 370 = .ok (.iload 4, 2) := by decide +kernel
theorem d_L_law_372 : decode code 372 = .ok (.iconst 4, 1) := by decide +kernel
theorem d_L_law_373 : decode code 373 = .ok (.iadd, 1) := by decide +kernel
theorem d_L_law_374 : decode code 374 = .ok (.iaload, 1) := by decide +kernel
theorem d_L_law_375 : decode code 375 = .ok (.invokevirtual 84, 3) := by decide +kernel
theorem d_L_law_378 : decode code 378 = .ok (.aload_n 2, 1) := by decide +kernel
theorem d_L_law_379 : decode code 379 = .ok (.invokevirtual 70, 3) := by decide +kernel
theorem d_L_law_382 : decode code 382 = .ok (.iload 5, 2) := by decide +kernel
theorem d_L_law_384 : decode code 384 = .ok (.if_icmp .eq 5, 3) := by decide +kernel
theorem d_L_law_389 : decode code 389 = .ok (.goto 604, 3) := by decide +kernel
theorem d_L_law_392 : decode code 392 = .ok (.aload_n 1, 1) := by decide +kernel
theorem d_L_law_393 : decode code 393 = .ok (.aload_n 0, 1) := by decide +kernel
theorem d_L_law_394 : decode code 394 = .ok (.iload 4, 2) := by decide +kernel
theorem d_L_law_396 : decode code 396 = .ok (.iconst 1, 1) := by decide +kernel
theorem d_L_law_397 : decode code 397 = .ok (.iadd, 1) := by decide +kernel
theorem d_L_law_398 : decode code 398 = .ok (.iaload, 1) := by decide +kernel
theorem d_L_law_399 : decode code 399 = .ok (.invokestatic 85, 3) := by decide +kernel
theorem d_L_law_402 : decode code 402 = .ok (.istore 5, 2) := by decide +kernel
theorem d_L_law_404 : decode code 404 = .ok (.aload_n 2, 1) := by decide +kernel
theorem d_L_law_405 : decode code 405 = .ok (.aload_n 0, 1) := by decide +kernel
theorem d_L_law_406 : decode code 406 = .ok (.iload 4, 2) := by decide +kernel
theorem d_L_law_408 : decode code 408 = .ok (.iconst 1, 1) := by decide +kernel
theorem d_L_law_409 : decode code 409 = .ok (.iadd, 1) := by decide +kernel
theorem d_L_law_410 : decode code 410 = .ok (.iaload, 1) := by decide +kernel
theorem d_L_law_411 : decode code 411 = .ok (.invokevirtual 88, 3) := by decide +kernel
theorem d_L_law_414 : decode code 414 = .ok (.aload_n 2, 1) := by decide +kernel
theorem d_L_law_415 : decode code 415 = .ok (.invokevirtual 70, 3) := by decide +kernel
theorem d_L_law_418 : decode code 418 = .ok (.iload 5, 2) := by decide +kernel
theorem d_L_law_420 : decode code 420 = .ok (.if_icmp .eq 5, 3) := by decide +kernel
theorem d_L_law_425 : decode code 425 = .ok (.goto 568, 3) := by decide +kernel
theorem d_L_law_428 : decode code 428 = .ok (.aload_n 1, 1) := by decide +kernel
theorem d_L_law_429 : decode code 429 = .ok (.invokevirtual 89, 3) := by decide +kernel
theorem d_L_law_432 : decode code 432 = .ok (.aload_n 2, 1) := by decide +kernel
theorem d_L_law_433 : decode code 433 = .ok (.invokevirtual 92, 3) := by decide +kernel
theorem d_L_law_436 : decode code 436 = .ok (.goto 557, 3) := by decide +kernel
theorem d_L_law_439 : decode code 439 = .ok (.aload_n 1, 1) := by decide +kernel
theorem d_L_law_440 : decode code 440 = .ok (.aload_n 3, 1) := by decide +kernel
theorem d_L_law_441 : decode code 441 = .ok (.invokestatic 93, 3) := by decide +kernel
theorem d_L_law_444 : decode code 444 = .ok (.istore 5, 2) := by decide +kernel
theorem d_L_law_446 : decode code 446 = .ok (.aload_n 2, 1) := by decide +kernel
theorem d_L_law_447 : decode code 447 = .ok (.invokevirtual 95, 3) := by decide +kernel
theorem d_L_law_450 : decode code 450 = .ok (.istore 6, 2) := by decide +kernel
theorem d_L_law_452 : decode code 452 = .ok (.aload_n 2, 1) := by decide +kernel
theorem d_L_law_453 : decode code 453 = .ok (.invokevirtual 70, 3) := by decide +kernel
theorem d_L_law_456 : decode code 456 = .ok (.iload 5, 2) := by decide +kernel
theorem d_L_law_458 : decode code 458 = .ok (.if_icmp .eq 5, 3) := by decide +kernel
theorem d_L_law_463 : decode code 463 = .ok (.iload 5, 2) := by decide +kernel
theorem d_L_law_465 : decode code 465 = .ok (.ifCond .ne 15, 3) := by decide +kernel
theorem d_L_law_480 : decode code 480 = .ok (.goto 513, 3) := by decide +kernel
theorem d_L_law_483 : decode code 483 = .ok (.aload_n 1, 1) := by decide +kernel
theorem d_L_law_484 : decode code 484 = .ok (.aload_n 0, 1) := by decide +kernel
theorem d_L_law_485 : decode code 485 = .ok (.iload 4, 2) := by decide +kernel
theorem d_L_law_487 : decode code 487 = .ok (.iconst 1, 1) := by decide +kernel
theorem d_L_law_488 : decode code 488 = .ok (.iadd, 1) := by decide +kernel
theorem d_L_law_489 : decode code 489 = .ok (.iaload, 1) := by decide +kernel
theorem d_L_law_490 : decode code 490 = .ok (.aload_n 0, 1) := by decide +kernel
theorem d_L_law_491 : decode code 491 = .ok (.iload 4, 2) := by decide +kernel
theorem d_L_law_493 : decode code 493 = .ok (.iconst 2, 1) := by decide +kernel
theorem d_L_law_494 : decode code 494 = .ok (.iadd, 1) := by decide +kernel
theorem d_L_law_495 : decode code 495 = .ok (.iaload, 1) := by decide +kernel
theorem d_L_law_496 : decode code 496 = .ok (.aload_n 3, 1) := by decide +kernel
theorem d_L_law_497 : decode code 497 = .ok (.invokestatic 96, 3) := by decide +kernel
theorem d_L_law_500 : decode code 500 = .ok (.istore 5, 2) := by decide +kernel
theorem d_L_law_502 : decode code 502 = .ok (.aload_n 2, 1) := by decide +kernel
theorem d_L_law_503 : decode code 503 = .ok (.aload_n 0, 1) := by decide +kernel
theorem d_L_law_504 : decode code 504 = .ok (.iload 4, 2) := by decide +kernel
theorem d_L_law_506 : decode code 506 = .ok (.iconst 1, 1) := by decide +kernel
theorem d_L_law_507 : decode code 507 = .ok (.iadd, 1) := by decide +kernel
theorem d_L_law_508 : decode code 508 = .ok (.iaload, 1) := by decide +kernel
theorem d_L_law_509 : decode code 509 = .ok (.aload_n 0, 1) := by decide +kernel
theorem d_L_law_510 : decode code 510 = .ok (.iload 4, 2) := by decide +kernel
theorem d_L_law_512 : decode code 512 = .ok (.iconst 2, 1) := by decide +kernel
theorem d_L_law_513 : decode code 513 = .ok (.iadd, 1) := by decide +kernel
theorem d_L_law_514 : decode code 514 = .ok (.iaload, 1) := by decide +kernel
theorem d_L_law_515 : decode code 515 = .ok (.invokevirtual 99, 3) := by decide +kernel
theorem d_L_law_518 : decode code 518 = .ok (.istore 6, 2) := by decide +kernel
theorem d_L_law_520 : decode code 520 = .ok (.aload_n 2, 1) := by decide +kernel
theorem d_L_law_521 : decode code 521 = .ok (.invokevirtual 70, 3) := by decide +kernel
theorem d_L_law_524 : decode code 524 = .ok (.iload 5, 2) := by decide +kernel
theorem d_L_law_526 : decode code 526 = .ok (.if_icmp .eq 5, 3) := by decide +kernel
theorem d_L_law_531 : decode code 531 = .ok (.iload 5, 2) := by decide +kernel
theorem d_L_law_533 : decode code 533 = .ok (.ifCond .ne 15, 3) := by decide +kernel
theorem d_L_law_548 : decode code 548 = .ok (.goto 445, 3) := by decide +kernel
theorem d_L_law_551 : decode code 551 = .ok (.aload_n 1, 1) := by decide +kernel
theorem d_L_law_552 : decode code 552 = .ok (.aload_n 0, 1) := by decide +kernel
theorem d_L_law_553 : decode code 553 = .ok (.iload 4, 2) := by decide +kernel
theorem d_L_law_555 : decode code 555 = .ok (.iconst 1, 1) := by decide +kernel
theorem d_L_law_556 : decode code 556 = .ok (.iadd, 1) := by decide +kernel
theorem d_L_law_557 : decode code 557 = .ok (.iaload, 1) := by decide +kernel
theorem d_L_law_558 : decode code 558 = .ok (.aload_n 0, 1) := by decide +kernel
theorem d_L_law_559 : decode code 559 = .ok (.iload 4, 2) := by decide +kernel
theorem d_L_law_561 : decode code 561 = .ok (.iconst 2, 1) := by decide +kernel
theorem d_L_law_562 : decode code 562 = .ok (.iadd, 1) := by decide +kernel
theorem d_L_law_563 : decode code 563 = .ok (.iaload, 1) := by decide +kernel
theorem d_L_law_564 : decode code 564 = .ok (.aload_n 0, 1) := by decide +kernel
theorem d_L_law_565 : decode code 565 = .ok (.iload 4, 2) := by decide +kernel
theorem d_L_law_567 : decode code 567 = .ok (.iconst 3, 1) := by decide +kernel
theorem d_L_law_568 : decode code 568 = .ok (.iadd, 1) := by decide +kernel
theorem d_L_law_569 : decode code 569 = .ok (.iaload, 1) := by decide +kernel
theorem d_L_law_570 : decode code 570 = .ok (.aload_n 3, 1) := by decide +kernel
theorem d_L_law_571 : decode code 571 = .ok (.invokestatic 100, 3) := by decide +kernel
theorem d_L_law_574 : decode code 574 = .ok (.istore 5, 2) := by decide +kernel
theorem d_L_law_576 : decode code 576 = .ok (.aload_n 2, 1) := by decide +kernel
theorem d_L_law_577 : decode code 577 = .ok (.aload_n 0, 1) := by decide +kernel
theorem d_L_law_578 : decode code 578 = .ok (.iload 4, 2) := by decide +kernel
theorem d_L_law_580 : decode code 580 = .ok (.iconst 1, 1) := by decide +kernel
theorem d_L_law_581 : decode code 581 = .ok (.iadd, 1) := by decide +kernel
theorem d_L_law_582 : decode code 582 = .ok (.iaload, 1) := by decide +kernel
theorem d_L_law_583 : decode code 583 = .ok (.aload_n 0, 1) := by decide +kernel
theorem d_L_law_584 : decode code 584 = .ok (.iload 4, 2) := by decide +kernel
theorem d_L_law_586 : decode code 586 = .ok (.iconst 2, 1) := by decide +kernel
theorem d_L_law_587 : decode code 587 = .ok (.iadd, 1) := by decide +kernel
theorem d_L_law_588 : decode code 588 = .ok (.iaload, 1) := by decide +kernel
theorem d_L_law_589 : decode code 589 = .ok (.aload_n 0, 1) := by decide +kernel
theorem d_L_law_590 : decode code 590 = .ok (.iload 4, 2) := by decide +kernel
theorem d_L_law_592 : decode code 592 = .ok (.iconst 3, 1) := by decide +kernel
theorem d_L_law_593 : decode code 593 = .ok (.iadd, 1) := by decide +kernel
theorem d_L_law_594 : decode code 594 = .ok (.iaload, 1) := by decide +kernel
theorem d_L_law_595 : decode code 595 = .ok (.invokevirtual 103, 3) := by decide +kernel
theorem d_L_law_598 : decode code 598 = .ok (.istore 6, 2) := by decide +kernel
theorem d_L_law_600 : decode code 600 = .ok (.aload_n 2, 1) := by decide +kernel
theorem d_L_law_601 : decode code 601 = .ok (.invokevirtual 70, 3) := by decide +kernel
theorem d_L_law_604 : decode code 604 = .ok (.iload 5, 2) := by decide +kernel
theorem d_L_law_606 : decode code 606 = .ok (.if_icmp .eq 5, 3) := by decide +kernel
theorem d_L_law_611 : decode code 611 = .ok (.iload 5, 2) := by decide +kernel
theorem d_L_law_613 : decode code 613 = .ok (.ifCond .ne 15, 3) := by decide +kernel
theorem d_L_law_628 : decode code 628 = .ok (.goto 365, 3) := by decide +kernel
theorem d_L_law_631 : decode code 631 = .ok (.aload_n 1, 1) := by decide +kernel
theorem d_L_law_632 : decode code 632 = .ok (.aload_n 0, 1) := by decide +kernel
theorem d_L_law_633 : decode code 633 = .ok (.iload 4, 2) := by decide +kernel
theorem d_L_law_635 : decode code 635 = .ok (.iconst 1, 1) := by decide +kernel
theorem d_L_law_636 : decode code 636 = .ok (.iadd, 1) := by decide +kernel
theorem d_L_law_637 : decode code 637 = .ok (.iaload, 1) := by decide +kernel
theorem d_L_law_638 : decode code 638 = .ok (.aload_n 0, 1) := by decide +kernel
theorem d_L_law_639 : decode code 639 = .ok (.iload 4, 2) := by decide +kernel
theorem d_L_law_641 : decode code 641 = .ok (.iconst 2, 1) := by decide +kernel
theorem d_L_law_642 : decode code 642 = .ok (.iadd, 1) := by decide +kernel
theorem d_L_law_643 : decode code 643 = .ok (.iaload, 1) := by decide +kernel
theorem d_L_law_644 : decode code 644 = .ok (.aload_n 0, 1) := by decide +kernel
theorem d_L_law_645 : decode code 645 = .ok (.iload 4, 2) := by decide +kernel
theorem d_L_law_647 : decode code 647 = .ok (.iconst 3, 1) := by decide +kernel
theorem d_L_law_648 : decode code 648 = .ok (.iadd, 1) := by decide +kernel
theorem d_L_law_649 : decode code 649 = .ok (.iaload, 1) := by decide +kernel
theorem d_L_law_650 : decode code 650 = .ok (.aload_n 3, 1) := by decide +kernel
theorem d_L_law_651 : decode code 651 = .ok (.invokestatic 104, 3) := by decide +kernel
theorem d_L_law_654 : decode code 654 = .ok (.istore 5, 2) := by decide +kernel
theorem d_L_law_656 : decode code 656 = .ok (.aload_n 2, 1) := by decide +kernel
theorem d_L_law_657 : decode code 657 = .ok (.aload_n 0, 1) := by decide +kernel
theorem d_L_law_658 : decode code 658 = .ok (.iload 4, 2) := by decide +kernel
theorem d_L_law_660 : decode code 660 = .ok (.iconst 1, 1) := by decide +kernel
theorem d_L_law_661 : decode code 661 = .ok (.iadd, 1) := by decide +kernel
theorem d_L_law_662 : decode code 662 = .ok (.iaload, 1) := by decide +kernel
theorem d_L_law_663 : decode code 663 = .ok (.aload_n 0, 1) := by decide +kernel
theorem d_L_law_664 : decode code 664 = .ok (.iload 4, 2) := by decide +kernel
theorem d_L_law_666 : decode code 666 = .ok (.iconst 2, 1) := by decide +kernel
theorem d_L_law_667 : decode code 667 = .ok (.iadd, 1) := by decide +kernel
theorem d_L_law_668 : decode code 668 = .ok (.iaload, 1) := by decide +kernel
theorem d_L_law_669 : decode code 669 = .ok (.aload_n 0, 1) := by decide +kernel
theorem d_L_law_670 : decode code 670 = .ok (.iload 4, 2) := by decide +kernel
theorem d_L_law_672 : decode code 672 = .ok (.iconst 3, 1) := by decide +kernel
theorem d_L_law_673 : decode code 673 = .ok (.iadd, 1) := by decide +kernel
theorem d_L_law_674 : decode code 674 = .ok (.iaload, 1) := by decide +kernel
theorem d_L_law_675 : decode code 675 = .ok (.invokevirtual 106, 3) := by decide +kernel
theorem d_L_law_678 : decode code 678 = .ok (.istore 6, 2) := by decide +kernel
theorem d_L_law_680 : decode code 680 = .ok (.aload_n 2, 1) := by decide +kernel
theorem d_L_law_681 : decode code 681 = .ok (.invokevirtual 70, 3) := by decide +kernel
theorem d_L_law_684 : decode code 684 = .ok (.iload 5, 2) := by decide +kernel
theorem d_L_law_686 : decode code 686 = .ok (.if_icmp .eq 5, 3) := by decide +kernel
theorem d_L_law_691 : decode code 691 = .ok (.iload 5, 2) := by decide +kernel
theorem d_L_law_693 : decode code 693 = .ok (.ifCond .ne 15, 3) := by decide +kernel
theorem d_L_law_708 : decode code 708 = .ok (.goto 285, 3) := by decide +kernel
theorem d_L_law_711 : decode code 711 = .ok (.aload_n 1, 1) := by decide +kernel
theorem d_L_law_712 : decode code 712 = .ok (.aload_n 0, 1) := by decide +kernel
theorem d_L_law_713 : decode code 713 = .ok (.iload 4, 2) := by decide +kernel
theorem d_L_law_715 : decode code 715 = .ok (.iconst 1, 1) := by decide +kernel
theorem d_L_law_716 : decode code 716 = .ok (.iadd, 1) := by decide +kernel
theorem d_L_law_717 : decode code 717 = .ok (.iaload, 1) := by decide +kernel
theorem d_L_law_718 : decode code 718 = .ok (.aload_n 0, 1) := by decide +kernel
theorem d_L_law_719 : decode code 719 = .ok (.iload 4, 2) := by decide +kernel
theorem d_L_law_721 : decode code 721 = .ok (.iconst 2, 1) := by decide +kernel
theorem d_L_law_722 : decode code 722 = .ok (.iadd, 1) := by decide +kernel
theorem d_L_law_723 : decode code 723 = .ok (.iaload, 1) := by decide +kernel
theorem d_L_law_724 : decode code 724 = .ok (.aload_n 3, 1) := by decide +kernel
theorem d_L_law_725 : decode code 725 = .ok (.invokestatic 107, 3) := by decide +kernel
theorem d_L_law_728 : decode code 728 = .ok (.istore 5, 2) := by decide +kernel
theorem d_L_law_730 : decode code 730 = .ok (.aload_n 2, 1) := by decide +kernel
theorem d_L_law_731 : decode code 731 = .ok (.aload_n 0, 1) := by decide +kernel
theorem d_L_law_732 : decode code 732 = .ok (.iload 4, 2) := by decide +kernel
theorem d_L_law_734 : decode code 734 = .ok (.iconst 1, 1) := by decide +kernel
theorem d_L_law_735 : decode code 735 = .ok (.iadd, 1) := by decide +kernel
theorem d_L_law_736 : decode code 736 = .ok (.iaload, 1) := by decide +kernel
theorem d_L_law_737 : decode code 737 = .ok (.aload_n 0, 1) := by decide +kernel
theorem d_L_law_738 : decode code 738 = .ok (.iload 4, 2) := by decide +kernel
theorem d_L_law_740 : decode code 740 = .ok (.iconst 2, 1) := by decide +kernel
theorem d_L_law_741 : decode code 741 = .ok (.iadd, 1) := by decide +kernel
theorem d_L_law_742 : decode code 742 = .ok (.iaload, 1) := by decide +kernel
theorem d_L_law_743 : decode code 743 = .ok (.invokevirtual 109, 3) := by decide +kernel
theorem d_L_law_746 : decode code 746 = .ok (.istore 6, 2) := by decide +kernel
theorem d_L_law_748 : decode code 748 = .ok (.aload_n 2, 1) := by decide +kernel
theorem d_L_law_749 : decode code 749 = .ok (.invokevirtual 70, 3) := by decide +kernel
theorem d_L_law_752 : decode code 752 = .ok (.iload 5, 2) := by decide +kernel
theorem d_L_law_754 : decode code 754 = .ok (.if_icmp .eq 5, 3) := by decide +kernel
theorem d_L_law_759 : decode code 759 = .ok (.iload 5, 2) := by decide +kernel
theorem d_L_law_761 : decode code 761 = .ok (.ifCond .ne 15, 3) := by decide +kernel
theorem d_L_law_776 : decode code 776 = .ok (.goto 217, 3) := by decide +kernel
theorem d_L_law_779 : decode code 779 = .ok (.aload_n 1, 1) := by decide +kernel
theorem d_L_law_780 : decode code 780 = .ok (.aload_n 0, 1) := by decide +kernel
theorem d_L_law_781 : decode code 781 = .ok (.iload 4, 2) := by decide +kernel
theorem d_L_law_783 : decode code 783 = .ok (.iconst 1, 1) := by decide +kernel
theorem d_L_law_784 : decode code 784 = .ok (.iadd, 1) := by decide +kernel
theorem d_L_law_785 : decode code 785 = .ok (.iaload, 1) := by decide +kernel
theorem d_L_law_786 : decode code 786 = .ok (.invokevirtual 110, 3) := by decide +kernel
theorem d_L_law_789 : decode code 789 = .ok (.aload_n 2, 1) := by decide +kernel
theorem d_L_law_790 : decode code 790 = .ok (.aload_n 0, 1) := by decide +kernel
theorem d_L_law_791 : decode code 791 = .ok (.iload 4, 2) := by decide +kernel
theorem d_L_law_793 : decode code 793 = .ok (.iconst 1, 1) := by decide +kernel
theorem d_L_law_794 : decode code 794 = .ok (.iadd, 1) := by decide +kernel
theorem d_L_law_795 : decode code 795 = .ok (.iaload, 1) := by decide +kernel
theorem d_L_law_796 : decode code 796 = .ok (.invokevirtual 114, 3) := by decide +kernel
theorem d_L_law_799 : decode code 799 = .ok (.if_icmp .eq 194, 3) := by decide +kernel
theorem d_L_law_804 : decode code 804 = .ok (.aload_n 1, 1) := by decide +kernel
theorem d_L_law_805 : decode code 805 = .ok (.invokevirtual 115, 3) := by decide +kernel
theorem d_L_law_808 : decode code 808 = .ok (.aload_n 2, 1) := by decide +kernel
theorem d_L_law_809 : decode code 809 = .ok (.invokevirtual 118, 3) := by decide +kernel
theorem d_L_law_812 : decode code 812 = .ok (.goto 181, 3) := by decide +kernel
theorem d_L_law_815 : decode code 815 = .ok (.aload_n 1, 1) := by decide +kernel
theorem d_L_law_816 : decode code 816 = .ok (.aload_n 0, 1) := by decide +kernel
theorem d_L_law_817 : decode code 817 = .ok (.iload 4, 2) := by decide +kernel
theorem d_L_law_819 : decode code 819 = .ok (.iconst 1, 1) := by decide +kernel
theorem d_L_law_820 : decode code 820 = .ok (.iadd, 1) := by decide +kernel
theorem d_L_law_821 : decode code 821 = .ok (.iaload, 1) := by decide +kernel
theorem d_L_law_822 : decode code 822 = .ok (.ifCond .eq 7, 3) := by decide +kernel
theorem d_L_law_825 : decode code 825 = .ok (.iconst 1, 1) := by decide +kernel
theorem d_L_law_826 : decode code 826 = .ok (.goto 4, 3) := by decide +kernel
theorem d_L_law_829 : decode code 829 = .ok (.iconst 0, 1) := by decide +kernel
theorem d_L_law_830 : decode code 830 = .ok (.aload_n 0, 1) := by decide +kernel
theorem d_L_law_831 : decode code 831 = .ok (.iload 4, 2) := by decide +kernel
theorem d_L_law_833 : decode code 833 = .ok (.iconst 2, 1) := by decide +kernel
theorem d_L_law_834 : decode code 834 = .ok (.iadd, 1) := by decide +kernel
theorem d_L_law_835 : decode code 835 = .ok (.iaload, 1) := by decide +kernel
theorem d_L_law_836 : decode code 836 = .ok (.aload_n 3, 1) := by decide +kernel
theorem d_L_law_837 : decode code 837 = .ok (.invokestatic 119, 3) := by decide +kernel
theorem d_L_law_840 : decode code 840 = .ok (.istore 5, 2) := by decide +kernel
theorem d_L_law_842 : decode code 842 = .ok (.aload_n 2, 1) := by decide +kernel
theorem d_L_law_843 : decode code 843 = .ok (.aload_n 0, 1) := by decide +kernel
theorem d_L_law_844 : decode code 844 = .ok (.iload 4, 2) := by decide +kernel
theorem d_L_law_846 : decode code 846 = .ok (.iconst 1, 1) := by decide +kernel
theorem d_L_law_847 : decode code 847 = .ok (.iadd, 1) := by decide +kernel
theorem d_L_law_848 : decode code 848 = .ok (.iaload, 1) := by decide +kernel
theorem d_L_law_849 : decode code 849 = .ok (.ifCond .eq 7, 3) := by decide +kernel
theorem d_L_law_852 : decode code 852 = .ok (.iconst 1, 1) := by decide +kernel
theorem d_L_law_853 : decode code 853 = .ok (.goto 4, 3) := by decide +kernel
theorem d_L_law_856 : decode code 856 = .ok (.iconst 0, 1) := by decide +kernel
theorem d_L_law_857 : decode code 857 = .ok (.aload_n 0, 1) := by decide +kernel
theorem d_L_law_858 : decode code 858 = .ok (.iload 4, 2) := by decide +kernel
theorem d_L_law_860 : decode code 860 = .ok (.iconst 2, 1) := by decide +kernel
theorem d_L_law_861 : decode code 861 = .ok (.iadd, 1) := by decide +kernel
theorem d_L_law_862 : decode code 862 = .ok (.iaload, 1) := by decide +kernel
theorem d_L_law_863 : decode code 863 = .ok (.invokevirtual 122, 3) := by decide +kernel
theorem d_L_law_866 : decode code 866 = .ok (.istore 6, 2) := by decide +kernel
theorem d_L_law_868 : decode code 868 = .ok (.aload_n 2, 1) := by decide +kernel
theorem d_L_law_869 : decode code 869 = .ok (.invokevirtual 70, 3) := by decide +kernel
theorem d_L_law_872 : decode code 872 = .ok (.iload 5, 2) := by decide +kernel
theorem d_L_law_874 : decode code 874 = .ok (.if_icmp .eq 5, 3) := by decide +kernel
theorem d_L_law_879 : decode code 879 = .ok (.iload 5, 2) := by decide +kernel
theorem d_L_law_881 : decode code 881 = .ok (.ifCond .ne 15, 3) := by decide +kernel
theorem d_L_law_896 : decode code 896 = .ok (.goto 97, 3) := by decide +kernel
theorem d_L_law_899 : decode code 899 = .ok (.aload_n 1, 1) := by decide +kernel
theorem d_L_law_900 : decode code 900 = .ok (.invokevirtual 123, 3) := by decide +kernel
theorem d_L_law_903 : decode code 903 = .ok (.aload_n 2, 1) := by decide +kernel
theorem d_L_law_904 : decode code 904 = .ok (.invokevirtual 126, 3) := by decide +kernel
theorem d_L_law_907 : decode code 907 = .ok (.if_icmp .eq 86, 3) := by decide +kernel
theorem d_L_law_912 : decode code 912 = .ok (.aload_n 1, 1) := by decide +kernel
theorem d_L_law_913 : decode code 913 = .ok (.aload_n 0, 1) := by decide +kernel
theorem d_L_law_914 : decode code 914 = .ok (.iload 4, 2) := by decide +kernel
theorem d_L_law_916 : decode code 916 = .ok (.iconst 1, 1) := by decide +kernel
theorem d_L_law_917 : decode code 917 = .ok (.iadd, 1) := by decide +kernel
theorem d_L_law_918 : decode code 918 = .ok (.iaload, 1) := by decide +kernel
theorem d_L_law_919 : decode code 919 = .ok (.aload_n 3, 1) := by decide +kernel
theorem d_L_law_920 : decode code 920 = .ok (.invokestatic 127, 3) := by decide +kernel
theorem d_L_law_923 : decode code 923 = .ok (.istore 5, 2) := by decide +kernel
theorem d_L_law_925 : decode code 925 = .ok (.aload_n 2, 1) := by decide +kernel
theorem d_L_law_926 : decode code 926 = .ok (.aload_n 0, 1) := by decide +kernel
theorem d_L_law_927 : decode code 927 = .ok (.iload 4, 2) := by decide +kernel
theorem d_L_law_929 : decode code 929 = .ok (.iconst 1, 1) := by decide +kernel
theorem d_L_law_930 : decode code 930 = .ok (.iadd, 1) := by decide +kernel
theorem d_L_law_931 : decode code 931 = .ok (.iaload, 1) := by decide +kernel
theorem d_L_law_932 : decode code 932 = .ok (.invokevirtual 130, 3) := by decide +kernel
theorem d_L_law_935 : decode code 935 = .ok (.istore 6, 2) := by decide +kernel
theorem d_L_law_937 : decode code 937 = .ok (.aload_n 2, 1) := by decide +kernel
theorem d_L_law_938 : decode code 938 = .ok (.invokevirtual 70, 3) := by decide +kernel
theorem d_L_law_941 : decode code 941 = .ok (.iload 5, 2) := by decide +kernel
theorem d_L_law_943 : decode code 943 = .ok (.if_icmp .eq 5, 3) := by decide +kernel
theorem d_L_law_948 : decode code 948 = .ok (.iload 5, 2) := by decide +kernel
theorem d_L_law_950 : decode code 950 = .ok (.ifCond .ne 15, 3) := by decide +kernel
theorem d_L_law_965 : decode code 965 = .ok (.goto 28, 3) := by decide +kernel
theorem d_L_law_968 : decode code 968 = .ok (.aload_n 1, 1) := by decide +kernel
theorem d_L_law_969 : decode code 969 = .ok (.aload_n 0, 1) := by decide +kernel
theorem d_L_law_970 : decode code 970 = .ok (.iload 4, 2) := by decide +kernel
theorem d_L_law_972 : decode code 972 = .ok (.iconst 1, 1) := by decide +kernel
theorem d_L_law_973 : decode code 973 = .ok (.iadd, 1) := by decide +kernel
theorem d_L_law_974 : decode code 974 = .ok (.iaload, 1) := by decide +kernel
theorem d_L_law_975 : decode code 975 = .ok (.invokevirtual 131, 3) := by decide +kernel
theorem d_L_law_978 : decode code 978 = .ok (.aload_n 2, 1) := by decide +kernel
theorem d_L_law_979 : decode code 979 = .ok (.aload_n 0, 1) := by decide +kernel
theorem d_L_law_980 : decode code 980 = .ok (.iload 4, 2) := by decide +kernel
theorem d_L_law_982 : decode code 982 = .ok (.iconst 1, 1) := by decide +kernel
theorem d_L_law_983 : decode code 983 = .ok (.iadd, 1) := by decide +kernel
theorem d_L_law_984 : decode code 984 = .ok (.iaload, 1) := by decide +kernel
theorem d_L_law_985 : decode code 985 = .ok (.invokevirtual 134, 3) := by decide +kernel
theorem d_L_law_988 : decode code 988 = .ok (.if_icmp .eq 5, 3) := by decide +kernel
theorem d_L_law_993 : decode code 993 = .ok (.iinc 4 6, 3) := by decide +kernel
theorem d_L_law_996 : decode code 996 = .ok (.goto (-973), 3) := by decide +kernel
theorem d_L_law_999 : decode code 999 = .ok (.iconst 1, 1) := by decide +kernel
theorem d_L_law_1000 : decode code 1000 = .ok (.ireturn, 1) := by decide +kernel
end
section
/-! what every method of the claim carries beside its world: the class of int[][], the texts of the class, Throwable's two statics -/
def st_Z (C n d : String) (U : State) (H : Heap) : Prop := ∃ (c : ClassId) (k : Class) (i : Nat) (f : Field) (a : Nat) (cell : Cell) (v : Value), U.vm.findClass C = some c ∧ U.fieldFound? C n d = some (c, k, i, f) ∧ f.isStatic = true ∧ k.statics = some a ∧ H[a]? = some cell ∧ cell.vm.isStatics = true ∧ cell.cls = c ∧ f.slot < cell.slots.size ∧ k.staticTypes[f.slot]? = some f.type ∧ cell.slots[f.slot]? = some v ∧ v.isRef = true
def st_K (H H1 : Heap) : Prop := ∀ (a : Nat) (cell : Cell), H[a]? = some cell → cell.vm.isStatics = true → H1[a]? = some cell
theorem st_Z.moved {C n d : String} {u U : State} {H : Heap} (hvm : u.vm.Alike U.vm) (h : st_Z C n d u H) : st_Z C n d U H := by
  obtain ⟨c, k, i, f, a, cell, v, h0, h1, h2, h3, h4, h5, h6, h7, h8, h9⟩ := h
  obtain ⟨k', hi', he⟩ := State.fieldFound?_setVm hvm h1
  exact ⟨c, k', i, f, a, cell, v, by rw [hvm.findClass]; exact h0, hi', h2, by rw [he]; exact h3, h4, h5, h6, h7, by rw [he]; exact h8, h9⟩
theorem st_Z.kept {C n d : String} {U : State} {H H1 : Heap} (h : st_Z C n d U H) (hq : st_K H H1) : st_Z C n d U H1 := by
  obtain ⟨c, k, i, f, a, cell, v, h0, h1, h2, h3, h4, h5, h6⟩ := h
  exact ⟨c, k, i, f, a, cell, v, h0, h1, h2, h3, hq a cell h4 h5, h5, h6⟩
theorem st_Z.lays {C n d : String} {s : State} {args : Array Value} (h : st_Z C n d s s.heap) : (Cond.laysStatic C n d).before args s = true := by
  obtain ⟨c, k, i, f, a, cell, v, h0, h1, h2, h3, h4, h5, h6, h7, h8, h9⟩ := h
  simp [Cond.before, Cond.holds, Cond.value, h0, h1, h2, h3, h4, h5, h6, h7, h8]
theorem st_Z.isRef {C n d : String} {s : State} {args : Array Value} (h : st_Z C n d s s.heap) : (Cond.isRef (.static C n d)).before args s = true := by
  obtain ⟨c, k, i, f, a, cell, v, h0, h1, h2, h3, h4, h5, h6, h7, h8, h9, h10⟩ := h
  have he : (Term.static C n d).eval args s none [] s = some v := by
    simp [Term.eval, State.fieldNamed?, h1, h2, h3, h4, h5, h9]
  simp only [Cond.before, Cond.holds, Cond.value, he]
  cases v <;> simp [Value.isRef] at h10 ⊢
theorem st_Z.of {C n d : String} {s : State} {args : Array Value} (hl : (Cond.laysStatic C n d).before args s = true) (h : (Cond.isRef (.static C n d)).before args s = true) : st_Z C n d s s.heap := by
  obtain ⟨c, k, i, f, a, cell, hc, hi, hst, ha, hcell, hs, hcls, hlt, hty⟩ := Cond.laysStatic_spec hl
  refine ⟨c, k, i, f, a, cell, cell.slots[f.slot], hc, hi, hst, ha, hcell, hs, hcls, hlt, hty, Array.getElem?_eq_getElem hlt, ?_⟩
  have he : (Term.static C n d).eval args s none [] s = some cell.slots[f.slot] := by
    simp [Term.eval, State.fieldNamed?, hi, hst, ha, hcell, hs, Array.getElem?_eq_getElem hlt]
  simp only [Cond.before, Cond.holds, Cond.value, he] at h
  generalize cell.slots[f.slot] = v at h
  cases v <;> simp [Value.isRef] at h ⊢
def y_Pi : MethodName := ⟨"NameForge$Program", "<init>", "()V"⟩
theorem nc_moved {u U : State} (hvm : u.vm.Alike U.vm) {C T : String} {A B : Array Value} (h : (Cond.not (.castable C T)).before A u = true) : (Cond.not (.castable C T)).before B U = true := by
  have hv := Cond.holds_not_iff.mp h
  refine Cond.holds_not_iff.mpr ?_
  simp only [Cond.value, hvm.findClass, hvm.assignable] at hv ⊢
  exact hv
def Kx (U : State) : Prop := (Cond.arrayOver (.array .int)).before #[] U = true ∧ (∀ x ∈ strs, ∃ a : Nat, vk_R "NameForge" x.1 x.2 a U) ∧ st_Z "java/lang/Throwable" "UNASSIGNED_STACK" "[Ljava/lang/StackTraceElement;" U U.heap ∧ st_Z "java/lang/Throwable" "SUPPRESSED_SENTINEL" "Ljava/util/List;" U U.heap ∧ (∀ x ∈ ncs, (Cond.not (.castable x.1 x.2)).before #[] U = true) ∧ va_Nw (.methodLinkNest "NameForge" ix_Pi y_Pi "NameForge") U ∧ (∀ x ∈ cas, va_Nw (.castable x.1 x.2) U) ∧ ∀ x ∈ dcl, va_Nw (.declares x) U
theorem Kx.ao {U : State} (h : Kx U) : (Cond.arrayOver (.array .int)).before #[] U = true := h.1
theorem Kx.str {U : State} (h : Kx U) : ∀ x ∈ strs, ∃ a : Nat, vk_R "NameForge" x.1 x.2 a U := h.2.1
theorem Kx.zu {U : State} (h : Kx U) : st_Z "java/lang/Throwable" "UNASSIGNED_STACK" "[Ljava/lang/StackTraceElement;" U U.heap := h.2.2.1
theorem Kx.zs {U : State} (h : Kx U) : st_Z "java/lang/Throwable" "SUPPRESSED_SENTINEL" "Ljava/util/List;" U U.heap := h.2.2.2.1
theorem Kx.nc {U : State} (h : Kx U) : ∀ x ∈ ncs, (Cond.not (.castable x.1 x.2)).before #[] U = true := h.2.2.2.2.1
theorem Kx.nest {U : State} (h : Kx U) : va_Nw (.methodLinkNest "NameForge" ix_Pi y_Pi "NameForge") U := h.2.2.2.2.2.1
theorem Kx.ca {U : State} (h : Kx U) : ∀ x ∈ cas, va_Nw (.castable x.1 x.2) U := h.2.2.2.2.2.2.1
theorem Kx.de {U : State} (h : Kx U) : ∀ x ∈ dcl, va_Nw (.declares x) U := h.2.2.2.2.2.2.2
theorem ao_moved {u U : State} (hvm : u.vm.Alike U.vm) {A B : Array Value} (h : (Cond.arrayOver (.array .int)).before A u = true) : (Cond.arrayOver (.array .int)).before B U = true := ow_over_moved hvm h
theorem Kx.at {s U : State} (h : Kx s) (hW : s.WarmedH U.vm) (hq : st_K s.heap U.heap) : Kx U :=
  ⟨ao_moved hW.alike h.ao, fun x hx => (h.str x hx).elim fun a ha => ⟨a, vk_R.warm hW ha⟩, (h.zu.moved hW.alike).kept hq, (h.zs.moved hW.alike).kept hq, fun x hx => nc_moved hW.alike (h.nc x hx), va_Nw.warmM hW h.nest, fun x hx => va_Nw.warmC hW (h.ca x hx), fun x hx => va_Nw.warmD hW (h.de x hx)⟩
theorem Kx.same {s U : State} (h : Kx s) (hv : U.vm = s.vm) (hh : U.heap = s.heap) : Kx U :=
  h.at (by rw [hv]; exact State.WarmedH.refl s) (by rw [hh]; exact fun _ _ h _ => h)
abbrev tyZ (cI cB cJ : ClassId) : List (ClassId × FieldType) := [(cI, .int), (cB, .boolean), (cJ, .long)]
/-- a method's fixed facts -/
def Cx (p : Program) (s : State) (m : MethodId) (args : Array Value) (c : Code) (cc : ByteArray) (nL : Nat) (own : String) (D : va_G) (cI cB cJ : ClassId) : Prop :=
  p.tables.exec = Jvm.exec ∧ c.code = cc ∧ c.maxLocals = nL ∧ s.vm.findClass own = some m.cls ∧ (∀ w ∈ wT, w.before args s = true) ∧ va_K D vCl (tyZ cI cB cJ) s ∧ Kx s
/-- a method's world -/
def Wd (D : va_G) (A : Nat → Prop) (s : State) (ws : va_W) (H : Heap) (locs : List Loc) : Prop :=
  va_P D vCl ws H ∧ va_D A ws ∧ va_S A s.heap H locs ∧ (∀ q, s.heap.size ≤ q → A q) ∧ ∀ (q : Nat) (cell : Cell), s.heap[q]? = some cell → cell.vm.isStatics = true → ¬ A q
theorem Wd.st {D : va_G} {A : Nat → Prop} {s : State} {ws : va_W} {H : Heap} {locs : List Loc} (w : Wd D A s ws H locs) : st_K s.heap H :=
  fun a cell h1 h2 => (w.2.2.1.2.1 a (Array.getElem?_eq_some_iff.mp h1).1 (w.2.2.2.2 a cell h1 h2)).trans h1
theorem Wd.to {D : va_G} {A : Nat → Prop} {s : State} {ws ws1 : va_W} {H H1 : Heap} {locs locs1 : List Loc} (w : Wd D A s ws H locs) (hP : va_P D vCl ws1 H1) (hD : va_D A ws1) (hS : va_S A s.heap H1 locs1) : Wd D A s ws1 H1 locs1 := ⟨hP, hD, hS, w.2.2.2⟩
theorem Wd.sub {D : va_G} {A : Nat → Prop} {s : State} {ws ws1 : va_W} {H : Heap} {locs : List Loc} (w : Wd D A s ws H locs) (is : List Nat) (hn : va_nd is = true) (hs : is.map (fun i => ws[i]?) = ws1.map some) : Wd D A s ws1 H locs :=
  w.to (w.1.sub is (by
    have h := congrArg (List.filterMap id) hs
    simpa [List.filterMap_map, Function.comp_def] using h)) (w.2.1.sub is hn hs) w.2.2.1
theorem cell_free {D : va_G} {cl : List vw_C} {q : Nat × va_E} {H : Heap} (h : va_at D cl q H) {cell : Cell} (hc : H[q.1]? = some cell) : cell.vm.isStatics = false := by
  obtain ⟨a, e⟩ := q
  cases e with
  | inl x =>
    have h1 : H[a]? = some (vp_cell x.1 x.2) := h
    cases hc.symm.trans h1
    obtain ⟨c, n, f | f | f | f | f⟩ := x <;> rfl
  | inr o =>
    obtain ⟨r, -, cell', g1, g2, g3, -⟩ := h
    cases hc.symm.trans g1
    rw [g3]
    rfl
theorem Wd.start {D : va_G} {s : State} {wc : va_W} (hP : va_P D vCl wc s.heap) (hD : va_D (fun _ => True) wc) : Wd D (va_A wc s.heap.size) s wc s.heap [] :=
  ⟨hP, hD.self, va_S.rf, fun q h => Or.inr h, fun q cell h1 h2 h3 => by
    rcases h3 with ⟨k, e, h⟩ | h
    · rw [cell_free (hP k (q, e) h) h1] at h2; cases h2
    · exact absurd (Array.getElem?_eq_some_iff.mp h1).1 (by omega)⟩
/-! contracts -/
def CP (D : va_G) (cI cB cJ : ClassId) (wc : va_W) (sz : Nat) (U : State) : Prop := U.heap.size = sz ∧ va_P D vCl wc U.heap ∧ va_K D vCl (tyZ cI cB cJ) U ∧ va_D (fun _ => True) wc ∧ Kx U
theorem CP.blind {D : va_G} {cI cB cJ : ClassId} {wc : va_W} {sz : Nat} {av : List Value} : FrameBlind (va_Pc av (CP D cI cB cJ wc sz)) := fun a U g mk q =>
  ⟨q.1, q.2.1, q.2.2.1, va_K.moved (u := U) (U := U.calling g mk a) (Vm.Alike.refl U.vm) q.2.2.2.1, q.2.2.2.2.1, q.2.2.2.2.2.same rfl rfl⟩
theorem CP.give {D : va_G} {cI cB cJ : ClassId} {A : Nat → Prop} {s U : State} {ws wc : va_W} {H : Heap} {locs : List Loc} (hK : va_K D vCl (tyZ cI cB cJ) s) (hx : Kx s) (w : Wd D A s ws H locs) (is : List Nat) (hn : va_nd is = true) (hs : is.map (fun i => ws[i]?) = wc.map some) (hU : U.heap = H) (hW : s.WarmedH U.vm) : CP D cI cB cJ wc H.size U :=
  ⟨by rw [hU], by rw [hU]; exact (w.sub is hn hs).1, va_K.moved hW.alike hK, ((w.sub is hn hs).2.1).weaken (fun _ _ _ _ => trivial), hx.at hW (by rw [hU]; exact w.st)⟩
def CE (D : va_G) (w1 : va_W) (A : Nat → Prop) (t : State) : Prop := va_P D vCl w1 t.heap ∧ va_D A w1
theorem gI {ws : List Cond} (h : ∀ w ∈ ws, w ∈ wT) : GoodIn wT ws := fun w hw => ⟨h w hw, good_of_word (wT_good w (h w hw))⟩
theorem gI1 {c0 : Cond} (h : c0 ∈ wT) : ∀ w ∈ c0 :: wT, w ∈ wT := fun w hw => (List.mem_cons.mp hw).elim (fun e => e ▸ h) id
/-- reads alone -/
def KR (l : Launch) (D : va_G) (cI cB cJ : ClassId) (y : MethodName) (bytes : ByteArray) (maxL : Nat) (ret : Option FieldType) (fr lo : Nat) (av : List Value) (wc : va_W) (r0 : Int32) : Prop :=
  ∀ sz : Nat, Met l y (Cond.code y bytes maxL ret :: wT) { frames := fr, cells := 0, slots := 0, locals := lo } (va_Pc av (CP D cI cB cJ wc sz)) (QcRead r0) 0 0 (fun _ => False)
/-- answers r0, leaves w1 of its cells -/
def KI (l : Launch) (D : va_G) (cI cB cJ : ClassId) (y : MethodName) (bytes : ByteArray) (maxL : Nat) (ret : Option FieldType) (fr lo : Nat) (av : List Value) (wc : va_W) (r0 : Int32) (w1 : va_W) : Prop :=
  ∀ sz : Nat, Met l y (Cond.code y bytes maxL ret :: wT) { frames := fr, cells := 0, slots := 0, locals := lo } (va_Pc av (CP D cI cB cJ wc sz)) (va_Qi (fun r (_ : Unit) => r = r0) (fun _ t => CE D w1 (va_A wc sz) t) (va_A wc sz)) 0 0 (va_A wc sz)
def KV (l : Launch) (D : va_G) (cI cB cJ : ClassId) (y : MethodName) (bytes : ByteArray) (maxL : Nat) (fr lo mc ms : Nat) (av : List Value) (wc : va_W) (B : (Nat → Prop) → State → Prop) : Prop :=
  ∀ sz : Nat, Met l y (Cond.code y bytes maxL none :: wT) { frames := fr, cells := mc, slots := ms, locals := lo } (va_Pc av (CP D cI cB cJ wc sz)) (va_Qv (fun (_ : Unit) => True) (fun _ t => B (va_A wc sz) t) (va_A wc sz)) mc ms (va_A wc sz)
section RW
variable {p : Program} {l : Launch} {e : Env} {R : Room} {s : State} {m : MethodId} {args : Array Value} {below : List Frame} {meth : Method} {c : Code} {H : Heap} {locs : List Loc} {cells slots : Nat} {Q : State → Prop}
variable {cc : ByteArray} {pc nL : Nat} {ls : Array Slot} {rest : List Value} {own : String} {D : va_G} {cI cB cJ : ClassId} {A : Nat → Prop} {ws : va_W} {a : Nat}
theorem R_get (C0 : Cx p s m args c cc nL own D cI cB cJ) (w : Wd D A s ws H locs) (k : Nat) {ci : Nat} {fs : List Value} (he : ws[k]? = some (a, .inr (ci, fs))) {C : String} {T : u_T} {N : Nat} (hc : vCl[ci]? = some (C, T, N)) (hin : ∀ w ∈ u_ws C T N, w ∈ wT) (j : Nat) (hj : j < N) {index : Nat} (hlink : Cond.fieldLink own index (T j).1 (T j).2.1 (T j).2.2.1 ∈ wT) {v : Value} (hv : fs[j]? = some v) (hdg : decode cc pc = .ok (.getfield index, 3))
    (kk : W p l e R s m args below meth c H locs cells slots Q (F0 m (pc + 3) ls (v :: rest))) : W p l e R s m args below meth c H locs cells slots Q (F0 m pc ls (.ref a :: rest)) :=
  va_get (C := C) (T := T) (N := N) C0.1 C0.2.1 C0.2.2.2.2.1 hin C0.2.2.2.1 C0.2.2.2.2.2.1 w.1 k he hc j hj (C0.2.2.2.2.1 _ hlink) (fun _ h => h) hv hdg kk
theorem R_put (C0 : Cx p s m args c cc nL own D cI cB cJ) (w : Wd D A s ws H locs) (k : Nat) {ci : Nat} {fs : List Value} (he : ws[k]? = some (a, .inr (ci, fs))) {C : String} {T : u_T} {N : Nat} (hc : vCl[ci]? = some (C, T, N)) (hin : ∀ w ∈ u_ws C T N, w ∈ wT) {ty0 : Nat → FieldType} (hty : ∀ k, k < N → parseFieldDescriptor (T k).2.2.1 = some (ty0 k)) (hnm : ∀ a, a < N → ∀ b, b < N → a ≠ b → (T a).2.1 ≠ (T b).2.1) (j : Nat) (hj : j < N) {index : Nat} (hlink : Cond.fieldLink own index (T j).1 (T j).2.1 (T j).2.2.1 ∈ wT) (hfin : (T j).2.2.2 = false) {v : Value} (hn : narrow (ty0 j) v = v) (hfit : fits (ty0 j) v = true) (hl : j < fs.length) (hdg : decode cc pc = .ok (.putfield index, 3))
    (kk : ∀ (H1 : Heap) (locs1 : List Loc), Wd D A s (ws.set k (a, .inr (ci, fs.set j v))) H1 locs1 → W p l e R s m args below meth c H1 locs1 cells slots Q (F0 m (pc + 3) ls rest)) : W p l e R s m args below meth c H locs cells slots Q (F0 m pc ls (v :: .ref a :: rest)) :=
  va_put (C := C) (T := T) (N := N) (ty := ty0 j) C0.1 C0.2.1 C0.2.2.2.2.1 hin ty0 hty hnm C0.2.2.2.1 C0.2.2.2.2.2.1 w.1 w.2.1 w.2.2.1 k he hc j hj (C0.2.2.2.2.1 _ hlink) (fun _ h => h) hfin (hty j hj) hn hfit hl hdg (fun H1 locs1 hP hD hs => kk H1 locs1 (w.to hP hD hs))
theorem R_putF (C0 : Cx p s m args c cc nL own D cI cB cJ) (w : Wd D A s ws H locs) (k : Nat) {ci : Nat} {fs : List Value} (he : ws[k]? = some (a, .inr (ci, fs))) {C : String} {T : u_T} {N : Nat} (hc : vCl[ci]? = some (C, T, N)) (hin : ∀ w ∈ u_ws C T N, w ∈ wT) {ty0 : Nat → FieldType} (hty : ∀ k, k < N → parseFieldDescriptor (T k).2.2.1 = some (ty0 k)) (hnm : ∀ a, a < N → ∀ b, b < N → a ≠ b → (T a).2.1 ≠ (T b).2.1) (j : Nat) (hj : j < N) {index : Nat} (hlink : Cond.fieldLink own index (T j).1 (T j).2.1 (T j).2.2.1 ∈ wT) (hfin : (T j).2.2.2 = true) (hin2 : meth.name = "<init>") (hdecl : (T j).1 = own) {v : Value} (hn : narrow (ty0 j) v = v) (hfit : fits (ty0 j) v = true) (hl : j < fs.length) (hdg : decode cc pc = .ok (.putfield index, 3))
    (kk : ∀ (H1 : Heap) (locs1 : List Loc), Wd D A s (ws.set k (a, .inr (ci, fs.set j v))) H1 locs1 → W p l e R s m args below meth c H1 locs1 cells slots Q (F0 m (pc + 3) ls rest)) : W p l e R s m args below meth c H locs cells slots Q (F0 m pc ls (v :: .ref a :: rest)) :=
  va_putF (C := C) (T := T) (N := N) (ty := ty0 j) C0.1 C0.2.1 C0.2.2.2.2.1 hin ty0 hty hnm C0.2.2.2.1 C0.2.2.2.2.2.1 w.1 w.2.1 w.2.2.1 k he hc j hj (C0.2.2.2.2.1 _ hlink) (fun _ h => h) hfin hin2 hdecl (hty j hj) hn hfit hl hdg (fun H1 locs1 hP hD hs => kk H1 locs1 (w.to hP hD hs))
theorem R_ald (C0 : Cx p s m args c cc nL own D cI cB cJ) (w : Wd D A s ws H locs) (k : Nat) {n : Nat} {f : Nat → Int32} (he : ws[k]? = some (a, .inl (cI, n, .inl f))) {i : Int32} (hi : vp_in i n) (hdg : decode cc pc = .ok (.iaload, 1))
    (kk : W p l e R s m args below meth c H locs cells slots Q (F0 m (pc + 1) ls (.int (f i.toNatClampNeg) :: rest))) : W p l e R s m args below meth c H locs cells slots Q (F0 m pc ls (.int i :: .ref a :: rest)) :=
  va_iald C0.1 C0.2.1 C0.2.2.2.2.2.1 w.1 k 0 he rfl hi hdg kk
theorem R_ast (C0 : Cx p s m args c cc nL own D cI cB cJ) (w : Wd D A s ws H locs) (k : Nat) {n : Nat} {f : Nat → Int32} (he : ws[k]? = some (a, .inl (cI, n, .inl f))) {i x : Int32} (hi : vp_in i n) (hdg : decode cc pc = .ok (.iastore, 1))
    (kk : ∀ (H1 : Heap) (locs1 : List Loc), Wd D A s (ws.set k (a, .inl (cI, n, .inl (upd f i.toNatClampNeg x)))) H1 locs1 → W p l e R s m args below meth c H1 locs1 cells slots Q (F0 m (pc + 1) ls rest)) : W p l e R s m args below meth c H locs cells slots Q (F0 m pc ls (.int x :: .int i :: .ref a :: rest)) :=
  va_iast C0.1 C0.2.1 C0.2.2.2.2.2.1 w.1 w.2.1 w.2.2.1 k 0 he rfl hi hdg (fun H1 locs1 hP hD hs => kk H1 locs1 (w.to hP hD hs))
theorem R_last (C0 : Cx p s m args c cc nL own D cI cB cJ) (w : Wd D A s ws H locs) (k : Nat) {n : Nat} {f : Nat → Int64} (he : ws[k]? = some (a, .inl (cJ, n, .inr (.inl f)))) {i : Int32} {x : Int64} (hi : vp_in i n) (hdg : decode cc pc = .ok (.lastore, 1))
    (kk : ∀ (H1 : Heap) (locs1 : List Loc), Wd D A s (ws.set k (a, .inl (cJ, n, .inr (.inl (vp_updL f i.toNatClampNeg x))))) H1 locs1 → W p l e R s m args below meth c H1 locs1 cells slots Q (F0 m (pc + 1) ls rest)) : W p l e R s m args below meth c H locs cells slots Q (F0 m pc ls (.long x :: .int i :: .ref a :: rest)) :=
  va_last C0.1 C0.2.1 C0.2.2.2.2.2.1 w.1 w.2.1 w.2.2.1 k 2 he rfl hi hdg (fun H1 locs1 hP hD hs => kk H1 locs1 (w.to hP hD hs))
theorem R_lald (C0 : Cx p s m args c cc nL own D cI cB cJ) (w : Wd D A s ws H locs) (k : Nat) {n : Nat} {f : Nat → Int64} (he : ws[k]? = some (a, .inl (cJ, n, .inr (.inl f)))) {i : Int32} (hi : vp_in i n) (hdg : decode cc pc = .ok (.laload, 1))
    (kk : W p l e R s m args below meth c H locs cells slots Q (F0 m (pc + 1) ls (.long (f i.toNatClampNeg) :: rest))) : W p l e R s m args below meth c H locs cells slots Q (F0 m pc ls (.int i :: .ref a :: rest)) :=
  va_lald C0.1 C0.2.1 C0.2.2.2.2.2.1 w.1 k 2 he rfl hi hdg kk
theorem R_new (C0 : Cx p s m args c cc nL own D cI cB cJ) (w : Wd D A s ws H locs) {ci : Nat} {C : String} {T : u_T} {N : Nat} (hc : vCl[ci]? = some (C, T, N)) (hin : ∀ w ∈ u_ws C T N, w ∈ wT) {ty0 : Nat → FieldType} (hty : ∀ k, k < N → parseFieldDescriptor (T k).2.2.1 = some (ty0 k)) {index : Nat} (hcl : Cond.classLink own index C ∈ wT) (hinst : Cond.instantiable C N ∈ wT) (hini : Cond.initialized C ∈ wT) {fs : List Value} (hfs : ∀ j, j < N → defaultValue (ty0 j) = vp_V fs j) (hcells : cells + 1 ≤ R.cells) (hslots : slots + N ≤ R.slots) (hdg : decode cc pc = .ok (.new index, 3))
    (kk : ∀ (q : Nat) (H1 : Heap), Wd D A s (ws ++ [(q, .inr (ci, fs))]) H1 locs → W p l e R s m args below meth c H1 locs (cells + 1) (slots + N) Q (F0 m (pc + 3) ls (.ref q :: rest))) : W p l e R s m args below meth c H locs cells slots Q (F0 m pc ls rest) :=
  va_new (C := C) (T := T) (N := N) C0.1 C0.2.1 C0.2.2.2.2.1 hin ty0 hty C0.2.2.2.1 (C0.2.2.2.2.1 _ hcl) (C0.2.2.2.2.1 _ hinst) (C0.2.2.2.2.1 _ hini) C0.2.2.2.2.2.1 w.1 w.2.1 w.2.2.1 w.2.2.2.1 hc hfs hcells hslots hdg (fun q H1 hP hD hs => kk q H1 (w.to hP hD hs))
theorem R_newI (C0 : Cx p s m args c cc nL own D cI cB cJ) (w : Wd D A s ws H locs) (hac : Cond.arrayClass .int ∈ wT) {n : Int32} {N : Nat} (hn : ¬ n < 0) (hN : n.toNatClampNeg = N) (hbytes : N * componentBytes .int ≤ 536870912) (hcells : cells + 1 ≤ R.cells) (hslots : slots + N ≤ R.slots) (hdg : decode cc pc = .ok (.newarray .int, 2))
    (kk : ∀ (q : Nat) (H1 : Heap), Wd D A s (ws ++ [(q, .inl (cI, N, .inl (fun _ => 0)))]) H1 locs → W p l e R s m args below meth c H1 locs (cells + 1) (slots + N) Q (F0 m (pc + 2) ls (.ref q :: rest))) : W p l e R s m args below meth c H locs cells slots Q (F0 m pc ls (.int n :: rest)) := by
  refine va_newa (atype := .int) (a0 := (N, .inl (fun _ => 0))) (ty := .int) C0.1 C0.2.1 (C0.2.2.2.2.1 _ hac) rfl C0.2.2.2.2.2.1 w.1 w.2.1 w.2.2.1 w.2.2.2.1 (fun _ => rfl) hn hN hbytes hcells hslots hdg (fun q cA H1 hK hP hD hs => ?_)
  have h1 : s.vm.findClass ("[" ++ FieldType.int.toString) = some cA := (hK.2 3 (cA, .int) rfl).2
  have h2 : s.vm.findClass ("[" ++ FieldType.int.toString) = some cI := (C0.2.2.2.2.2.1.2 0 (cI, .int) rfl).2
  cases h1.symm.trans h2
  exact kk q H1 (w.to hP hD hs)
theorem R_newJ (C0 : Cx p s m args c cc nL own D cI cB cJ) (w : Wd D A s ws H locs) (hac : Cond.arrayClass .long ∈ wT) {n : Int32} {N : Nat} (hn : ¬ n < 0) (hN : n.toNatClampNeg = N) (hbytes : N * componentBytes .long ≤ 536870912) (hcells : cells + 1 ≤ R.cells) (hslots : slots + N ≤ R.slots) (hdg : decode cc pc = .ok (.newarray .long, 2))
    (kk : ∀ (q : Nat) (H1 : Heap), Wd D A s (ws ++ [(q, .inl (cJ, N, .inr (.inl (fun _ => 0))))]) H1 locs → W p l e R s m args below meth c H1 locs (cells + 1) (slots + N) Q (F0 m (pc + 2) ls (.ref q :: rest))) : W p l e R s m args below meth c H locs cells slots Q (F0 m pc ls (.int n :: rest)) := by
  refine va_newa (atype := .long) (a0 := (N, .inr (.inl (fun _ => 0)))) (ty := .long) C0.1 C0.2.1 (C0.2.2.2.2.1 _ hac) rfl C0.2.2.2.2.2.1 w.1 w.2.1 w.2.2.1 w.2.2.2.1 (fun _ => rfl) hn hN hbytes hcells hslots hdg (fun q cA H1 hK hP hD hs => ?_)
  have h1 : s.vm.findClass ("[" ++ FieldType.long.toString) = some cA := (hK.2 3 (cA, .long) rfl).2
  have h2 : s.vm.findClass ("[" ++ FieldType.long.toString) = some cJ := (C0.2.2.2.2.2.1.2 2 (cJ, .long) rfl).2
  cases h1.symm.trans h2
  exact kk q H1 (w.to hP hD hs)
/-- a new array that nobody asks for again -/
theorem R_newX (C0 : Cx p s m args c cc nL own D cI cB cJ) (w : Wd D A s ws H locs) {atype : ArrayType} (hac : Cond.arrayClass (newarray.typeOf atype) ∈ wT) {n : Int32} {N : Nat} (hn : ¬ n < 0) (hN : n.toNatClampNeg = N) (hbytes : N * componentBytes (newarray.typeOf atype) ≤ 536870912) (hcells : cells + 1 ≤ R.cells) (hslots : slots + N ≤ R.slots) (hdg : decode cc pc = .ok (.newarray atype, 2))
    (kk : ∀ (q : Nat) (H1 : Heap), Wd D A s ws H1 locs → W p l e R s m args below meth c H1 locs (cells + 1) (slots + N) Q (F0 m (pc + 2) ls (.ref q :: rest))) : W p l e R s m args below meth c H locs cells slots Q (F0 m pc ls (.int n :: rest)) := by
  refine va_newaK C0.1 C0.2.1 (C0.2.2.2.2.1 _ hac) rfl hdg rfl hn hN hbytes hcells hslots rfl fun H1 cA e1 z1 o1 hAr hNm => ?_
  exact kk H.size H1 (w.to (w.1.kept (fun k x hx => o1 x.1 ((w.1 k x hx).lt))) w.2.1 ⟨Nat.le_trans w.2.2.1.1 (by rw [z1]; exact Nat.le_succ _), fun x h1 h2 => (o1 x (Nat.lt_of_lt_of_le h1 w.2.2.1.1)).trans (w.2.2.1.2.1 x h1 h2), w.2.2.1.2.2⟩)
/-- a new int[][] that nobody asks for again -/
theorem R_mna (C0 : Cx p s m args c cc nL own D cI cB cJ) (w : Wd D A s ws H locs) {index : Nat} (hcl : Cond.classLink own index "[[I" ∈ wT) (hac : Cond.arrayClass .int ∈ wT) {n k : Int32} {N K : Nat} (hn : ¬ n < 0) (hk : ¬ k < 0) (hN : n.toNatClampNeg = N) (hK : k.toNatClampNeg = K) (hb1 : N * 4 ≤ 536870912) (hb2 : K * 4 ≤ 536870912) (hcells : cells + (1 + N) ≤ R.cells) (hslots : slots + (N + N * K) ≤ R.slots) (hdg : decode cc pc = .ok (.multianewarray index 2, 4))
    (kk : ∀ (q : Nat) (H1 : Heap), Wd D A s ws H1 locs → W p l e R s m args below meth c H1 locs (cells + (1 + N)) (slots + (N + N * K)) Q (F0 m (pc + 4) ls (.ref q :: rest))) : W p l e R s m args below meth c H locs cells slots Q (F0 m pc ls (.int k :: .int n :: rest)) := by
  intro T hT X
  subst hN; subst hK; subst hT
  obtain ⟨vm₁, c0, c1, hW, hf0, hf1, X1, st⟩ := ow_mna X C0.1 C0.2.2.2.1 (C0.2.2.2.2.1 _ hcl) (ao_moved (Vm.Alike.refl s.vm) C0.2.2.2.2.2.2.ao) (C0.2.2.2.2.1 _ hac) (g := F0 m pc ls (.int k :: .int n :: rest)) rfl (by rw [C0.2.1]; exact hdg) (n := n) (k := k) (rest := rest) rfl hn hk hb1 hb2 hcells hslots
  have fo : ∀ a : Nat, a < T.heap.size → (ow_grid (T.setVm vm₁) c0 c1 n.toNatClampNeg k.toNatClampNeg (.int 0) n.toNatClampNeg).heap[a]? = T.heap[a]? := fun a ha => ow_grid_old (T.setVm vm₁) c0 c1 _ _ _ _ ha
  have hz : T.heap.size ≤ (ow_grid (T.setVm vm₁) c0 c1 n.toNatClampNeg k.toNatClampNeg (.int 0) n.toNatClampNeg).heap.size := by
    rw [ow_grid_size]
    show T.heap.size ≤ T.heap.size + 1 + _
    omega
  obtain ⟨t, a1, b1⟩ := kk T.heap.size _ (w.to (w.1.kept (fun k x hx => fo x.1 ((w.1 k x hx).lt))) w.2.1 ⟨Nat.le_trans w.2.2.1.1 hz, fun x h1 h2 => (fo x (Nat.lt_of_lt_of_le h1 w.2.2.1.1)).trans (w.2.2.1.2.1 x h1 h2), w.2.2.1.2.2⟩) _ rfl (X1.more (by omega) (by omega))
  exact ⟨t, st t a1, b1⟩
/-! calls -/
variable {y : MethodName} {bytes : ByteArray} {maxL fr lo mc ms index n9 : Nat} {ret : Option FieldType} {As : List Value} {wc wr w1 : va_W}
theorem cB_of {rm : Room} {n : Nat} (C0 : Cx p s m args c cc nL own D cI cB cJ) (hcode : Cond.code y bytes maxL ret ∈ wT) (hlink : Cond.methodLink own index y ∈ wT) (hini : Cond.initialized y.cls ∈ wT) (hd : y.cls ≠ "java/lang/invoke/MethodHandle" ∧ y.cls ≠ "java/lang/invoke/VarHandle" ∧ (parseMethodDescriptor y.desc).map (fun d => d.parameters.length) = some n) (hR : rm.frames + 1 ≤ R.frames ∧ 8 + (maxL + 11) + rm.locals ≤ R.locals) : CallB R s args own index y bytes maxL ret (Cond.code y bytes maxL ret :: wT) rm rm.cells rm.slots n :=
  callB_of n C0.2.2.2.2.1 (gI (gI1 hcode)) rfl rfl rfl (C0.2.2.2.2.1 _ hini) (C0.2.2.2.2.1 _ hlink) hd hR
theorem R_ri (C0 : Cx p s m args c cc nL own D cI cB cJ) (w : Wd D A s ws H locs) {b : Nat} (k : Nat) {ci : Nat} {fs : List Value} (he : ws[k]? = some (b, .inr (ci, fs))) {C : String} {T : u_T} {N : Nat} (hc : vCl[ci]? = some (C, T, N)) (isC : List Nat) {r0 : Int32} (hM : KR l D cI cB cJ y bytes maxL ret fr lo (.ref b :: As) wc r0) (hnC : va_nd isC = true) (hC : isC.map (fun i => ws[i]?) = wc.map some) (hcode : Cond.code y bytes maxL ret ∈ wT) (hlink : Cond.methodLink own index y ∈ wT) (hinst : Cond.instanceMethod y ∈ wT) (hsel : Cond.selects C y y ∈ wT) (hini : Cond.initialized y.cls ∈ wT)
    (hd : y.cls ≠ "java/lang/invoke/MethodHandle" ∧ y.cls ≠ "java/lang/invoke/VarHandle" ∧ (parseMethodDescriptor y.desc).map (fun d => d.parameters.length) = some n9) (hn9 : As.length = n9) (hR : fr + 1 ≤ R.frames ∧ 8 + (maxL + 11) + lo ≤ R.locals) (hls : ls.size = nL) {st0 : List Value} (hst : st0 = As.reverse ++ .ref b :: rest) (hrest : (rest.map fun v => v.category).sum ≤ 8) (hdg : decode cc pc = .ok (.invokevirtual index, 3)) (hcs : cells ≤ R.cells) (hss : slots ≤ R.slots)
    (kk : W p l e R s m args below meth c H locs cells slots Q (F0 m (pc + 3) ls (.int r0 :: rest))) : W p l e R s m args below meth c H locs cells slots Q (F0 m pc ls st0) := by
  subst hst
  exact W.callR (W.runV (rest := rest) ⟨C0.1, C0.2.1, C0.2.2.1, C0.2.2.2.1, C0.2.2.2.2.1⟩ (hM H.size) ⟨cB_of C0 hcode hlink hini hd hR, C0.2.2.2.2.1 _ hinst, C0.2.2.2.2.1 _ hsel⟩ ⟨CP.blind, va_recv C0.2.2.2.2.2.1 w.1 hc he, fun U hU hW => ⟨rfl, CP.give C0.2.2.2.2.2.1 C0.2.2.2.2.2.2 w isC hnC hC hU hW⟩⟩ rfl hn9 hls rfl (lv_room hrest) hdg ⟨hcs, hss⟩) kk
theorem R_vi (C0 : Cx p s m args c cc nL own D cI cB cJ) (w : Wd D A s ws H locs) {b : Nat} (k : Nat) {ci : Nat} {fs : List Value} (he : ws[k]? = some (b, .inr (ci, fs))) {C : String} {T : u_T} {N : Nat} (hc : vCl[ci]? = some (C, T, N)) (isC isR : List Nat) {r0 : Int32} (hM : KI l D cI cB cJ y bytes maxL ret fr lo (.ref b :: As) wc r0 w1) (hnC : va_nd isC = true) (hC : isC.map (fun i => ws[i]?) = wc.map some) (hnR : va_nd isR = true) (hRr : isR.map (fun i => ws[i]?) = wr.map some) (hdis : ∀ i ∈ isR, i ∉ isC) (hcode : Cond.code y bytes maxL ret ∈ wT) (hlink : Cond.methodLink own index y ∈ wT) (hinst : Cond.instanceMethod y ∈ wT) (hsel : Cond.selects C y y ∈ wT) (hini : Cond.initialized y.cls ∈ wT)
    (hd : y.cls ≠ "java/lang/invoke/MethodHandle" ∧ y.cls ≠ "java/lang/invoke/VarHandle" ∧ (parseMethodDescriptor y.desc).map (fun d => d.parameters.length) = some n9) (hn9 : As.length = n9) (hR : fr + 1 ≤ R.frames ∧ 8 + (maxL + 11) + lo ≤ R.locals) (hls : ls.size = nL) {st0 : List Value} (hst : st0 = As.reverse ++ .ref b :: rest) (hrest : (rest.map fun v => v.category).sum ≤ 8) (hdg : decode cc pc = .ok (.invokevirtual index, 3)) (hcs : cells ≤ R.cells) (hss : slots ≤ R.slots)
    (kk : ∀ (H1 : Heap) (locs1 : List Loc), Wd D A s (wr ++ w1) H1 locs1 → W p l e R s m args below meth c H1 locs1 cells slots Q (F0 m (pc + 3) ls (.int r0 :: rest))) : W p l e R s m args below meth c H locs cells slots Q (F0 m pc ls st0) := by
  subst hst
  have hF := va_free (wc := wc) w.2.1 w.2.2.1 w.2.2.2.1 isC hC
  refine va_calli (va_runV (rest := rest) ⟨C0.1, C0.2.1, C0.2.2.1, C0.2.2.2.1, C0.2.2.2.2.1⟩ (hM H.size) ⟨cB_of C0 hcode hlink hini hd hR, C0.2.2.2.2.1 _ hinst, C0.2.2.2.2.1 _ hsel⟩ ⟨CP.blind, va_recv C0.2.2.2.2.2.1 w.1 hc he, fun U hU hW => ⟨rfl, CP.give C0.2.2.2.2.2.1 C0.2.2.2.2.2.2 w isC hnC hC hU hW⟩⟩ rfl hn9 hls rfl (lv_room hrest) hdg ⟨hcs, hss⟩) w.2.2.1 (fun q _ h => hF q h) hF (fun r u t H1 locs1 ht hvm hr hB hz hk hS => ?_)
  subst hr
  obtain ⟨hP1, hD1⟩ := hB
  rw [ht] at hP1
  obtain ⟨hP, hD⟩ := va_join (wr := wr) (w1 := w1) w.1 w.2.1 isC isR hC hRr hnR hdis hk hF hP1 hD1
  exact kk H1 locs1 (w.to hP hD hS)
theorem R_vv (C0 : Cx p s m args c cc nL own D cI cB cJ) (w : Wd D A s ws H locs) {b : Nat} (k : Nat) {ci : Nat} {fs : List Value} (he : ws[k]? = some (b, .inr (ci, fs))) {C : String} {T : u_T} {N : Nat} (hc : vCl[ci]? = some (C, T, N)) (isC isR : List Nat) (hM : KV l D cI cB cJ y bytes maxL fr lo 0 0 (.ref b :: As) wc (fun A t => CE D w1 A t)) (hnC : va_nd isC = true) (hC : isC.map (fun i => ws[i]?) = wc.map some) (hnR : va_nd isR = true) (hRr : isR.map (fun i => ws[i]?) = wr.map some) (hdis : ∀ i ∈ isR, i ∉ isC) (hcode : Cond.code y bytes maxL none ∈ wT) (hlink : Cond.methodLink own index y ∈ wT) (hinst : Cond.instanceMethod y ∈ wT) (hsel : Cond.selects C y y ∈ wT) (hini : Cond.initialized y.cls ∈ wT)
    (hd : y.cls ≠ "java/lang/invoke/MethodHandle" ∧ y.cls ≠ "java/lang/invoke/VarHandle" ∧ (parseMethodDescriptor y.desc).map (fun d => d.parameters.length) = some n9) (hn9 : As.length = n9) (hR : fr + 1 ≤ R.frames ∧ 8 + (maxL + 11) + lo ≤ R.locals) (hls : ls.size = nL) {st0 : List Value} (hst : st0 = As.reverse ++ .ref b :: rest) (hrest : (rest.map fun v => v.category).sum ≤ 8) (hdg : decode cc pc = .ok (.invokevirtual index, 3)) (hcs : cells ≤ R.cells) (hss : slots ≤ R.slots)
    (kk : ∀ (H1 : Heap) (locs1 : List Loc), Wd D A s (wr ++ w1) H1 locs1 → W p l e R s m args below meth c H1 locs1 cells slots Q (F0 m (pc + 3) ls rest)) : W p l e R s m args below meth c H locs cells slots Q (F0 m pc ls st0) := by
  subst hst
  have hF := va_free (wc := wc) w.2.1 w.2.2.1 w.2.2.2.1 isC hC
  refine va_callv (va_runV (rest := rest) ⟨C0.1, C0.2.1, C0.2.2.1, C0.2.2.2.1, C0.2.2.2.2.1⟩ (hM H.size) ⟨cB_of C0 hcode hlink hini hd hR, C0.2.2.2.2.1 _ hinst, C0.2.2.2.2.1 _ hsel⟩ ⟨CP.blind, va_recv C0.2.2.2.2.2.1 w.1 hc he, fun U hU hW => ⟨rfl, CP.give C0.2.2.2.2.2.1 C0.2.2.2.2.2.2 w isC hnC hC hU hW⟩⟩ rfl hn9 hls rfl (lv_room hrest) hdg ⟨hcs, hss⟩) w.2.2.1 (fun q _ h => hF q h) hF (fun u t H1 locs1 ht hvm hr hB hz hk hS => ?_)
  obtain ⟨hP1, hD1⟩ := hB
  rw [ht] at hP1
  obtain ⟨hP, hD⟩ := va_join (wr := wr) (w1 := w1) w.1 w.2.1 isC isR hC hRr hnR hdis hk hF hP1 hD1
  exact kk H1 locs1 (w.to hP hD hS)
/-- a constructor: what it leaves is told by B -/
theorem R_iv (C0 : Cx p s m args c cc nL own D cI cB cJ) (w : Wd D A s ws H locs) {b : Nat} (isC isR : List Nat) {B : (Nat → Prop) → State → Prop} (hM : KV l D cI cB cJ y bytes maxL fr lo mc ms (.ref b :: As) wc B) (hnC : va_nd isC = true) (hC : isC.map (fun i => ws[i]?) = wc.map some) (hnR : va_nd isR = true) (hRr : isR.map (fun i => ws[i]?) = wr.map some) (hdis : ∀ i ∈ isR, i ∉ isC) (hcode : Cond.code y bytes maxL none ∈ wT) (hlink : Cond.methodLink own index y ∈ wT) (hinst : Cond.instanceMethod y ∈ wT) (hini : Cond.initialized y.cls ∈ wT) (hy1 : y.name = "<init>")
    (hd : y.cls ≠ "java/lang/invoke/MethodHandle" ∧ y.cls ≠ "java/lang/invoke/VarHandle" ∧ (parseMethodDescriptor y.desc).map (fun d => d.parameters.length) = some n9) (hn9 : As.length = n9) (hR : fr + 1 ≤ R.frames ∧ 8 + (maxL + 11) + lo ≤ R.locals) (hls : ls.size = nL) {st0 : List Value} (hst : st0 = As.reverse ++ .ref b :: rest) (hrest : (rest.map fun v => v.category).sum ≤ 8) (hdg : decode cc pc = .ok (.invokespecial index, 3)) (hcs : cells + mc ≤ R.cells) (hss : slots + ms ≤ R.slots)
    (kk : ∀ (t : State) (H1 : Heap) (locs1 : List Loc), t.heap = H1 → B (va_A wc H.size) t → (∀ w1 : va_W, CE D w1 (va_A wc H.size) t → Wd D A s (wr ++ w1) H1 locs1) → W p l e R s m args below meth c H1 locs1 (cells + mc) (slots + ms) Q (F0 m (pc + 3) ls rest)) : W p l e R s m args below meth c H locs cells slots Q (F0 m pc ls st0) := by
  subst hst
  have hF := va_free (wc := wc) w.2.1 w.2.2.1 w.2.2.2.1 isC hC
  refine va_callv (va_runI (rest := rest) ⟨C0.1, C0.2.1, C0.2.2.1, C0.2.2.2.1, C0.2.2.2.2.1⟩ (hM H.size) ⟨cB_of C0 hcode hlink hini hd hR, hy1, C0.2.2.2.2.1 _ hinst⟩ ⟨CP.blind, fun U hU hW => ⟨rfl, CP.give C0.2.2.2.2.2.1 C0.2.2.2.2.2.2 w isC hnC hC hU hW⟩⟩ rfl hn9 hls rfl (lv_room hrest) hdg ⟨hcs, hss⟩) w.2.2.1 (fun q _ h => hF q h) hF (fun u t H1 locs1 ht hvm hr hB hz hk hS => ?_)
  refine kk t H1 locs1 ht hB (fun w1 hE => ?_)
  obtain ⟨hP1, hD1⟩ := hE
  rw [ht] at hP1
  obtain ⟨hP, hD⟩ := va_join (wr := wr) (w1 := w1) w.1 w.2.1 isC isR hC hRr hnR hdis hk hF hP1 hD1
  exact w.to hP hD hS
/-- the same across the nest -/
theorem R_ivN (C0 : Cx p s m args c cc nL own D cI cB cJ) (w : Wd D A s ws H locs) {b : Nat} (isC isR : List Nat) {B : (Nat → Prop) → State → Prop} (hM : KV l D cI cB cJ y bytes maxL fr lo mc ms (.ref b :: As) wc B) (hnC : va_nd isC = true) (hC : isC.map (fun i => ws[i]?) = wc.map some) (hnR : va_nd isR = true) (hRr : isR.map (fun i => ws[i]?) = wr.map some) (hdis : ∀ i ∈ isR, i ∉ isC) (hcode : Cond.code y bytes maxL none ∈ wT) {host : String} (hlink : va_Nw (.methodLinkNest own index y host) s) (hinst : Cond.instanceMethod y ∈ wT) (hini : Cond.initialized y.cls ∈ wT) (hy1 : y.name = "<init>")
    (hd : y.cls ≠ "java/lang/invoke/MethodHandle" ∧ y.cls ≠ "java/lang/invoke/VarHandle" ∧ (parseMethodDescriptor y.desc).map (fun d => d.parameters.length) = some n9) (hn9 : As.length = n9) (hR : fr + 1 ≤ R.frames ∧ 8 + (maxL + 11) + lo ≤ R.locals) (hls : ls.size = nL) {st0 : List Value} (hst : st0 = As.reverse ++ .ref b :: rest) (hrest : (rest.map fun v => v.category).sum ≤ 8) (hdg : decode cc pc = .ok (.invokespecial index, 3)) (hcs : cells + mc ≤ R.cells) (hss : slots + ms ≤ R.slots)
    (kk : ∀ (t : State) (H1 : Heap) (locs1 : List Loc), t.heap = H1 → B (va_A wc H.size) t → (∀ w1 : va_W, CE D w1 (va_A wc H.size) t → Wd D A s (wr ++ w1) H1 locs1) → W p l e R s m args below meth c H1 locs1 (cells + mc) (slots + ms) Q (F0 m (pc + 3) ls rest)) : W p l e R s m args below meth c H locs cells slots Q (F0 m pc ls st0) := by
  subst hst
  have hF := va_free (wc := wc) w.2.1 w.2.2.1 w.2.2.2.1 isC hC
  refine va_callv (va_runIN (rest := rest) (host := host) (Ts := wT) ⟨C0.1, C0.2.1, C0.2.2.1, C0.2.2.2.1, C0.2.2.2.2.1⟩ (hM H.size) ⟨va_cnB n9 C0.2.2.2.2.1 (gI (gI1 hcode)) rfl rfl rfl hlink (C0.2.2.2.2.1 _ hini) hd hR, hy1, C0.2.2.2.2.1 _ hinst⟩ ⟨CP.blind, fun U hU hW => ⟨rfl, CP.give C0.2.2.2.2.2.1 C0.2.2.2.2.2.2 w isC hnC hC hU hW⟩⟩ rfl hn9 hls rfl (lv_room hrest) hdg ⟨hcs, hss⟩) w.2.2.1 (fun q _ h => hF q h) hF (fun u t H1 locs1 ht hvm hr hB hz hk hS => ?_)
  refine kk t H1 locs1 ht hB (fun w1 hE => ?_)
  obtain ⟨hP1, hD1⟩ := hE
  rw [ht] at hP1
  obtain ⟨hP, hD⟩ := va_join (wr := wr) (w1 := w1) w.1 w.2.1 isC isR hC hRr hnR hdis hk hF hP1 hD1
  exact w.to hP hD hS
end RW
end
section
/-! throws: a method that ends by 'throw new E(text)', and the call that catches it -/
/-- how a throwing method leaves: the exception is a new object of the class E; no old cell has changed -/
def XE (E : String) (st : State) (o : Outcome) (t : State) : Prop := ∃ (q : Addr) (ce : Cell), o = .threw q ∧ t.heap[q]? = some ce ∧ ce.vm = .none ∧ st.vm.findClass E = some ce.cls ∧ st.WarmedH t.vm ∧ st.sameButNew ({ t with vm := st.vm } : State) [] 1 6
def XQ (below : List Frame) (E : String) (s : State) : State → Prop := fun t => ∃ o : Outcome, t.status = .running ∧ Ended t below o ∧ XE E s o t
def KX (l : Launch) (D : va_G) (cI cB cJ : ClassId) (y : MethodName) (bytes : ByteArray) (maxL : Nat) (ret : Option FieldType) (fr lo : Nat) (av : List Value) (wc : va_W) (E : String) : Prop :=
  ∀ sz : Nat, MetFree l y (headSpec (Cond.code y bytes maxL ret :: wT) { frames := fr, cells := 1, slots := 6, locals := lo }) (va_Pc av (CP D cI cB cJ wc sz)) (fun _ _ _ _ _ => True) (fun _ st o t => XE E st o t)
theorem KX.ofW {l : Launch} {y : MethodName} {ws ws' : List Cond} {rm : Room} {Pc : Array Value → State → Prop} {E : String} {cc : ByteArray} {maxL : Nat} {ret : Option FieldType}
    (hy : plainName y.cls = true) (hw : ws = Cond.code y cc maxL ret :: ws')
    (body : ∀ p e s m args below meth c s₁, BodyLoose p l y (headSpec ws rm) cc maxL ret e s m args below meth c s₁ → c.maxLocals = maxL → Pc args s →
      W p l e (headSpec ws rm).room s m args below meth c s.heap [] 0 0 (XQ below E s) (entryFrame m args maxL)) : MetFree l y (headSpec ws rm) Pc (fun _ _ _ _ _ => True) (fun _ st o t => XE E st o t) := by
  refine MetFree.of_bodyS (code := cc) (maxLocals := maxL) (ret := ret) hy ?_ ?_
  · intro args s m h hn
    obtain ⟨meth, c, h1, h2, h3, h4, h5, h6, -, -⟩ := Cond.code_spec hn (atoms_spec (ws := ws) h _ (by rw [hw]; exact List.mem_cons_self))
    exact ⟨meth, c, h1, h2, h3, h4, h5, h6⟩
  · intro p e s m args below meth c s₁ B hml hP _
    have hh0 : s₁.heap = s.heap := by rw [B.state]; rfl
    obtain ⟨t, a1, o, b1, b2, b3⟩ := body p e s m args below meth c s₁ B hml hP s₁ hh0 (Stand.of_body B)
    exact ⟨t, o, a1, b1, b2, b3⟩
/-- the words that a throw asks -/
def x_ok (w : Cond) : Bool := decide (w ∈ wT) || (match w with
  | .castable a b => decide ((a, b) ∈ cas)
  | .declares y => decide (y ∈ dcl)
  | .laysStatic C n d => decide (C = "java/lang/Throwable" ∧ ((n = "UNASSIGNED_STACK" ∧ d = "[Ljava/lang/StackTraceElement;") ∨ (n = "SUPPRESSED_SENTINEL" ∧ d = "Ljava/util/List;")))
  | .isRef (.static C n d) => decide (C = "java/lang/Throwable" ∧ ((n = "UNASSIGNED_STACK" ∧ d = "[Ljava/lang/StackTraceElement;") ∨ (n = "SUPPRESSED_SENTINEL" ∧ d = "Ljava/util/List;")))
  | _ => false)
theorem x_ok_spec {args : Array Value} {s : State} (hts : ∀ w ∈ wT, w.before args s = true) (hx : Kx s) {w : Cond} (h : x_ok w = true) : w.before args s = true := by
  unfold x_ok at h
  rw [Bool.or_eq_true] at h
  rcases h with h | h
  · exact hts w (of_decide_eq_true h)
  · split at h
    · exact va_Nw.use rfl (hx.ca _ (of_decide_eq_true h))
    · exact va_Nw.use rfl (hx.de _ (of_decide_eq_true h))
    · obtain ⟨rfl, ⟨rfl, rfl⟩ | ⟨rfl, rfl⟩⟩ := of_decide_eq_true h
      · exact hx.zu.lays
      · exact hx.zs.lays
    · obtain ⟨rfl, ⟨rfl, rfl⟩ | ⟨rfl, rfl⟩⟩ := of_decide_eq_true h
      · exact hx.zu.isRef
      · exact hx.zs.isRef
    · cases h
section TH
variable {p : Program} {l : Launch} {e : Env} {R : Room} {s : State} {m : MethodId} {args : Array Value} {below : List Frame} {meth : Method} {c : Code} {H : Heap} {locs : List Loc} {cells slots : Nat} {Q : State → Prop}
variable {cc : ByteArray} {pc nL : Nat} {ls : Array Slot} {rest : List Value} {own : String} {D : va_G} {cI cB cJ : ClassId} {A : Nat → Prop} {ws : va_W} {a : Nat}
/-- 'throw new E(text)' in a method that has changed nothing yet -/
theorem R_throw (C0 : Cx p s m args c cc nL own D cI cB cJ) (htl : l.stackTraces = false) {cls tx : String} {names : List String} {ik is ic ix : Nat} {rx : ByteArray} (x0 : decode rx 0 = .ok (.aload_n 0, 1)) (x1 : decode rx 1 = .ok (.aload_n 1, 1)) (x2 : decode rx 2 = .ok (.invokespecial ix, 3)) (x5 : decode rx 5 = .ok (.return_, 1)) (hcls : Bundle.fit cls = true) (hnames : ∀ n ∈ names, Bundle.fit n = true) (hown : own = "NameForge")
    (hat : (ow_words "NameForge" ic cls ix rx names).all x_ok = true) (hkl : Cond.classLink own ik cls ∈ wT) (hini : Cond.initialized cls ∈ wT) (hins : Cond.instantiable cls 6 ∈ wT) (hstr : (is, tx) ∈ strs) (hls : ls.size = nL)
    (d0 : decode cc pc = .ok (.new ik, 3)) (d3 : decode cc (pc + 3) = .ok (.dup, 1)) (d4 : decode cc (pc + 4) = .ok (.ldc is, 2)) (d6 : decode cc (pc + 6) = .ok (.invokespecial ic, 3)) (d9 : decode cc (pc + 9) = .ok (.athrow, 1)) (hout : c.exceptionTable.isEmpty = true) (hlocks : meth.locks = false)
    (hRc : 1 ≤ R.cells) (hRs : 6 ≤ R.slots) (hRf : names.length + 3 < R.frames) (hRl : (rest.map fun v => v.category).sum + (13 * (names.length + 1) + 43) ≤ R.locals) : W p l e R s m args below meth c s.heap [] 0 0 (XQ below cls s) (F0 m pc ls rest) := by
  subst hown
  have hat' : ∀ w ∈ ow_words "NameForge" ic cls ix rx names, w.before args s = true := fun w hw => x_ok_spec C0.2.2.2.2.1 C0.2.2.2.2.2.2 (List.all_eq_true.mp hat w hw)
  refine W.newc C0.1 C0.2.1 C0.2.2.2.1 (C0.2.2.2.2.1 _ hkl) (C0.2.2.2.2.1 _ hins) (C0.2.2.2.2.1 _ hini) rfl d0 (by omega) (by omega) (fun cX kX hfX hkX hord hn6 => ?_)
  refine W.eq (g2 := F0 m (pc + 3) ls (.ref s.heap.size :: rest)) rfl ?_
  refine lv_dup C0.1 C0.2.1 d3 rfl ?_
  obtain ⟨sa, hsa⟩ := C0.2.2.2.2.2.2.str (is, tx) hstr
  refine va_ldcS (own := "NameForge") (tx := tx) (q := sa) C0.1 C0.2.1 C0.2.2.2.1 hsa d4 ?_
  intro T hT X
  have htr : e.platform.stackTraces = false := (show e.platform.stackTraces = l.stackTraces by rw [X.admits.platform]).trans htl
  have hcellA : T.heap[s.heap.size]? = some (freshCell cX kX) := by rw [hT]; simp [freshCell]
  obtain ⟨U, hsteps, hrun, hend, hW, hsame, -, -, ce, hce, hcc, hcv⟩ := ow_throw X C0.1 htr (fun x hx => nomatch hx) x0 x1 x2 x5 C0.2.2.2.1 hcls hnames hat' hfX hkX hcellA (Nat.le_refl _) (tx := .ref sa) rfl
    (g := F0 m (pc + 4 + 2) ls (.ref sa :: .ref s.heap.size :: .ref s.heap.size :: rest)) rfl (by rw [C0.2.2.1]; exact hls) rfl rfl (rest := rest) rfl (by rw [C0.2.1]; exact d6) (by rw [C0.2.1]; exact d9)
    (fun x hx => by rw [Array.isEmpty_iff.mp hout] at hx; cases hx) hRf (by have h9 : (Value.ref s.heap.size).category = 1 := rfl; have h8 : (F0 m (pc + 4 + 2) ls (.ref sa :: .ref s.heap.size :: .ref s.heap.size :: rest)).monitorRoom = 0 := rfl; simp only [List.map_cons, List.sum_cons, h9, h8]; omega) hlocks
  exact ⟨U, hsteps, .threw s.heap.size, hrun, hend, s.heap.size, ce, rfl, hce, hcv, by rw [hcc]; exact hfX, hW, hsame⟩
/-- the call of a method that throws, under a handler of the caller's -/
theorem R_catch (C0 : Cx p s m args c cc nL own D cI cB cJ) (w : Wd D A s ws H locs) {b : Nat} (k : Nat) {ci : Nat} {fs : List Value} (he : ws[k]? = some (b, .inr (ci, fs))) {C : String} {T : u_T} {N : Nat} (hc : vCl[ci]? = some (C, T, N)) (isC : List Nat) {y : MethodName} {bytes : ByteArray} {maxL fr lo index n9 : Nat} {ret : Option FieldType} {As : List Value} {wc : va_W} {E : String} (hM : KX l D cI cB cJ y bytes maxL ret fr lo (.ref b :: As) wc E) (hnC : va_nd isC = true) (hC : isC.map (fun i => ws[i]?) = wc.map some)
    (hcode : Cond.code y bytes maxL ret ∈ wT) (hlink : Cond.methodLink own index y ∈ wT) (hinst : Cond.instanceMethod y ∈ wT) (hsel : Cond.selects C y y ∈ wT) (hini : Cond.initialized y.cls ∈ wT)
    (hd : y.cls ≠ "java/lang/invoke/MethodHandle" ∧ y.cls ≠ "java/lang/invoke/VarHandle" ∧ (parseMethodDescriptor y.desc).map (fun d => d.parameters.length) = some n9) (hn9 : As.length = n9) (hR : fr + 1 ≤ R.frames ∧ 8 + (maxL + 11) + lo ≤ R.locals) (hls : ls.size = nL) {st0 : List Value} (hst : st0 = As.reverse ++ .ref b :: rest) (hrest : (rest.map fun v => v.category).sum ≤ 8) (hdg : decode cc pc = .ok (.invokevirtual index, 3)) (hcs : cells + 1 ≤ R.cells) (hss : slots + 6 ≤ R.slots)
    {pre suf : List ExceptionTableEntry} {x : ExceptionTableEntry} (hsplit : c.exceptionTable.toList = pre ++ x :: suf) (hpass : ∀ z ∈ pre, z.catchType ≠ 0 ∧ ∃ nm : String, Cond.classLink own z.catchType nm ∈ wT ∧ (E, nm) ∈ ncs) (hcov : covers x pc = true) (h0 : x.catchType ≠ 0) {nm : String} (hcl : Cond.classLink own x.catchType nm ∈ wT) (hcast : (E, nm) ∈ cas)
    (kk : ∀ (q : Nat) (H1 : Heap), Wd D A s ws H1 locs → W p l e R s m args below meth c H1 locs (cells + 1) (slots + 6) Q (F0 m x.handlerPc ls [.ref q])) : W p l e R s m args below meth c H locs cells slots Q (F0 m pc ls st0) := by
  subst hst
  have hts := C0.2.2.2.2.1
  have hcB : CallB R s args own index y bytes maxL ret (Cond.code y bytes maxL ret :: wT) { frames := fr, cells := 1, slots := 6, locals := lo } 1 6 n9 := cB_of (rm := { frames := fr, cells := 1, slots := 6, locals := lo }) C0 hcode hlink hini hd hR
  obtain ⟨-, -, -, -, hws, hcw, -, -, hy, hlen, -⟩ := hcB
  intro T1 hT X
  subst hT
  obtain ⟨cellB, hcellB, hnsB, hclsB⟩ := va_recv C0.2.2.2.2.2.1 w.1 hc he
  have hclsB : s.vm.findClass C = some cellB.cls := hclsB
  obtain ⟨mk, methM, hnamed, hmethM, hstM, habM⟩ := Cond.instanceMethod_spec (hts _ hinst)
  obtain ⟨methM', cM, hmethM', -, -, -, -, -, -, hsigM⟩ := Cond.code_spec hnamed (hts _ hcode)
  cases hmethM.symm.trans hmethM'
  obtain ⟨c2, r2, m2, q1, q2, q3, q4, kP, hkP, hkPi⟩ := Cond.selects_spec (hts _ hsel)
  cases hclsB.symm.trans q1
  cases (State.methodFound?_of_named hnamed hy).symm.trans q2
  cases hnamed.symm.trans q3
  have hselP : selectMethod e.platform s.vm cellB.cls mk = .method mk := by rw [Launch.admits_selectMethod X.admits]; exact q4
  obtain ⟨vm₁, X₁, hstep₁⟩ := X.invokevirtual C0.1 C0.2.2.2.1 (hts _ hlink) hnamed hmethM hstM hkP hkPi hy (a := b) (cell := cellB) hcellB (fun z h => by rw [h] at hnsB; cases hnsB) hselP hmethM habM hkP hkPi (g := F0 m pc ls (As.reverse ++ .ref b :: rest)) rfl (argsL := As) (rest := rest) (hn9.trans (hlen _ hsigM)) rfl (by rw [C0.2.1]; exact hdg)
  have hW₁ := X₁.warmed
  obtain ⟨v, L, B, XB, ⟨rfl, hsz, hold, ce, e6, e7, hcE⟩, hst1⟩ := ow_call X₁ (hM T1.heap.size) (bytes := bytes) (maxL := maxL) (ret := ret) (w := 8) (k0 := 1) (n0 := 6) (g := { F0 m pc ls (As.reverse ++ .ref b :: rest) with stack := rest }) rfl (hls.trans C0.2.2.1.symm) (by rw [C0.2.1]; exact hdg) (lv_room hrest) (X₁.named hnamed) (a := (Value.ref b :: As).toArray)
    (atoms_intro fun w hw => hws w hw _ _ hW₁) (hws _ hcw _ _ hW₁) (word_at hW₁ (good_of_word (wT_good _ hini)) (hts _ hini)) hR.1 hR.2 hcs hss (CP.blind _ _ _ _ ⟨rfl, CP.give C0.2.2.2.2.2.1 C0.2.2.2.2.2.2 w isC hnC hC rfl hW₁⟩)
    (E := fun q L H1 => L = [] ∧ T1.heap.size ≤ H1.size ∧ (∀ z : Nat, z < T1.heap.size → H1[z]? = T1.heap[z]?) ∧ ∃ ce : Cell, H1[q]? = some ce ∧ ce.vm = .none ∧ s.vm.findClass E = some ce.cls) (by
      rintro o t ⟨q, ce, ho, h1, h2, h3, h4, h5⟩
      refine ⟨q, [], ho, h4, h5, rfl, h5.2.1, fun z hz => ?_, ce, h1, h2, ?_⟩
      · obtain ⟨cz, hcz⟩ : ∃ cz, T1.heap[z]? = some cz := ⟨_, Array.getElem?_eq_getElem hz⟩
        obtain ⟨cz', g1, g2, g3, g4⟩ := h5.2.2.2.2.2 z cz hcz
        have hsl : cz'.slots = cz.slots := Array.ext_getElem? fun i => g4 i (fun hm => nomatch hm)
        have g1' : t.heap[z]? = some cz' := g1
        rw [g1', hcz, g2, hsl]
      · have h9 : (T1.setVm vm₁).vm.findClass E = some ce.cls := h3
        rwa [hW₁.alike.findClass] at h9)
  obtain ⟨c3, cT, hc3, hcT, hasg⟩ := Cond.castable_spec (va_Nw.use (A := args) rfl (C0.2.2.2.2.2.2.ca _ hcast))
  cases hcE.symm.trans hc3
  have hpl : e.platform.magicAccessors = ({} : Platform).magicAccessors := by rw [X.admits.platform]
  obtain ⟨cX, hcX, hlX⟩ := Cond.classLink_spec C0.2.2.2.1 (hts _ hcl) e.platform hpl
  cases hcT.symm.trans hcX
  obtain ⟨vm', XV, hst2⟩ := ow_caught XB v (g := { F0 m pc ls (As.reverse ++ .ref b :: rest) with stack := rest }) rfl e6 e7 (Vm.classAt_of_assignable hasg (Vm.classAt_of_findClass hcT)) hsplit (fun z hz => by
    obtain ⟨z0, nmz, hz1, hz2⟩ := hpass z hz
    obtain ⟨cz, hcz, hlz⟩ := Cond.classLink_spec C0.2.2.2.1 (hts _ hz1) e.platform hpl
    exact ⟨z0, cz, hlz, ow_no (C0.2.2.2.2.2.2.nc _ hz2) hcE hcz⟩) hcov h0 hlX hasg
  rw [List.append_nil] at XV
  obtain ⟨t, a1, b1⟩ := kk v B.heap (w.to (w.1.kept (fun k x hx => hold x.1 ((w.1 k x hx).lt))) w.2.1 ⟨Nat.le_trans w.2.2.1.1 hsz, fun x h1 h2 => (hold x (Nat.lt_of_lt_of_le h1 w.2.2.1.1)).trans (w.2.2.1.2.1 x h1 h2), w.2.2.1.2.2⟩) (B.setVm vm') rfl XV
  exact ⟨t, (hstep₁ _ (fun acts => by rw [doInvoke_state]; exact hst1)).trans (hst2.trans a1), b1⟩
end TH
end
section
/-! a method's contract out of its walk -/
section EN
variable {l : Launch} {D : va_G} {cI cB cJ : ClassId} {y : MethodName} {bytes : ByteArray} {maxL : Nat} {ret : Option FieldType} {fr lo mc ms : Nat} {av : List Value} {wc w1 : va_W} {r0 : Int32}
theorem Cx.of {p : Program} {e : Env} {s s₁ : State} {m : MethodId} {args : Array Value} {below : List Frame} {meth : Method} {c : Code} {c0 : Cond} {rm : Room} (B : BodyLoose p l y (headSpec (c0 :: wT) rm) bytes maxL ret e s m args below meth c s₁) (hml : c.maxLocals = maxL) (hK : va_K D vCl (tyZ cI cB cJ) s) (hx : Kx s) : Cx p s m args c bytes maxL y.cls D cI cB cJ :=
  ⟨B.exec, B.bytes, hml, findClass_of_methodNamed B.named, fun w hw => atoms_spec (ws := c0 :: wT) B.pre w (List.mem_cons_of_mem _ hw), hK, hx⟩
theorem KR.ofW (hy : plainName y.cls = true) (hav : (lg_sl av).length ≤ maxL) {ty : FieldType} (hret : ret = some ty) (hnr : narrow ty (.int r0) = .int r0)
    (body : ∀ (p : Program) (e : Env) (s : State) (m : MethodId) (args : Array Value) (below : List Frame) (meth : Method) (c : Code) (A : Nat → Prop) (Q : State → Prop) (ls : Array Slot), Cx p s m args c bytes maxL y.cls D cI cB cJ → lv_has ls maxL (lv_args 0 av) → Wd D A s wc s.heap [] →
      (∀ (pc : Nat) (ls : Array Slot), decode bytes pc = .ok (.ireturn, 1) → W p l e { frames := fr, cells := 0, slots := 0, locals := lo } s m args below meth c s.heap [] 0 0 Q (F0 m pc ls [.int r0])) →
      W p l e { frames := fr, cells := 0, slots := 0, locals := lo } s m args below meth c s.heap [] 0 0 Q (F0 m 0 ls [])) : KR l D cI cB cJ y bytes maxL ret fr lo av wc r0 := by
  intro sz
  refine Met.ofW (cc := bytes) (maxL := maxL) (ret := ret) hy rfl ?_
  intro p e s m args below meth c s₁ B hml hv
  obtain ⟨rfl, rfl, hP, hK, hD, hx⟩ := hv
  have hr := B.returns
  have hlocks := B.notSynchronized
  rw [lg_entry_eq]
  exact body p e s m _ below meth c _ _ _ (Cx.of B hml hK hx) (lv_entry av hav) (Wd.start hP hD) (fun pc ls hdg => W.zret B.exec B.bytes (hr.trans hret) hnr (fun t ht _ => ⟨rfl, ht⟩) (fun q hq => nomatch hq) hdg)
theorem KI.ofW (hy : plainName y.cls = true) (hav : (lg_sl av).length ≤ maxL) {ty : FieldType} (hret : ret = some ty) (hnr : narrow ty (.int r0) = .int r0)
    (body : ∀ (p : Program) (e : Env) (s : State) (m : MethodId) (args : Array Value) (below : List Frame) (meth : Method) (c : Code) (A : Nat → Prop) (Q : State → Prop) (ls : Array Slot), Cx p s m args c bytes maxL y.cls D cI cB cJ → lv_has ls maxL (lv_args 0 av) → Wd D A s wc s.heap [] →
      (∀ (pc : Nat) (ls : Array Slot) (H : Heap) (locs : List Loc), decode bytes pc = .ok (.ireturn, 1) → Wd D A s w1 H locs → W p l e { frames := fr, cells := 0, slots := 0, locals := lo } s m args below meth c H locs 0 0 Q (F0 m pc ls [.int r0])) →
      W p l e { frames := fr, cells := 0, slots := 0, locals := lo } s m args below meth c s.heap [] 0 0 Q (F0 m 0 ls [])) : KI l D cI cB cJ y bytes maxL ret fr lo av wc r0 w1 := by
  intro sz
  refine Met.ofW (cc := bytes) (maxL := maxL) (ret := ret) hy rfl ?_
  intro p e s m args below meth c s₁ B hml hv
  obtain ⟨rfl, rfl, hP, hK, hD, hx⟩ := hv
  have hr := B.returns
  have hlocks := B.notSynchronized
  rw [lg_entry_eq]
  exact body p e s m _ below meth c _ _ _ (Cx.of B hml hK hx) (lv_entry av hav) (Wd.start hP hD) (fun pc ls H locs hdg w => W.zret B.exec B.bytes (hr.trans hret) hnr (fun t ht _ => ⟨⟨r0, (), rfl, rfl, by rw [ht]; exact w.1, w.2.1⟩, w.2.2.1.F ht⟩) w.2.2.1.2.2 hdg)
theorem KV.ofW {B0 : (Nat → Prop) → State → Prop} (hy : plainName y.cls = true) (hav : (lg_sl av).length ≤ maxL)
    (body : ∀ (p : Program) (e : Env) (s : State) (m : MethodId) (args : Array Value) (below : List Frame) (meth : Method) (c : Code) (A : Nat → Prop) (Q : State → Prop) (ls : Array Slot), Cx p s m args c bytes maxL y.cls D cI cB cJ → meth.name = y.name → lv_has ls maxL (lv_args 0 av) → Wd D A s wc s.heap [] →
      (∀ (pc : Nat) (ls : Array Slot) (H : Heap) (locs : List Loc), decode bytes pc = .ok (.return_, 1) → va_S A s.heap H locs → (∀ t : State, t.heap = H → B0 A t) → W p l e { frames := fr, cells := mc, slots := ms, locals := lo } s m args below meth c H locs mc ms Q (F0 m pc ls [])) →
      W p l e { frames := fr, cells := mc, slots := ms, locals := lo } s m args below meth c s.heap [] 0 0 Q (F0 m 0 ls [])) : KV l D cI cB cJ y bytes maxL fr lo mc ms av wc B0 := by
  intro sz
  refine Met.ofW (cc := bytes) (maxL := maxL) (ret := none) hy rfl ?_
  intro p e s m args below meth c s₁ B hml hv
  obtain ⟨rfl, rfl, hP, hK, hD, hx⟩ := hv
  have hr := B.returns
  have hlocks := B.notSynchronized
  rw [lg_entry_eq]
  exact body p e s m _ below meth c _ _ _ (Cx.of B hml hK hx) (name_of_methodNamed B.named B.method).1 (lv_entry av hav) (Wd.start hP hD) (fun pc ls H locs hdg hS hB => W.vret B.exec B.bytes hr (fun t ht _ => ⟨⟨(), rfl, trivial, hB t ht⟩, hS.F ht⟩) hS.2.2 hdg)
theorem KX.ofB {E : String} (hy : plainName y.cls = true) (hav : (lg_sl av).length ≤ maxL)
    (body : ∀ (p : Program) (e : Env) (s : State) (m : MethodId) (args : Array Value) (below : List Frame) (meth : Method) (c : Code) (A : Nat → Prop) (ls : Array Slot), Cx p s m args c bytes maxL y.cls D cI cB cJ → c.exceptionTable.isEmpty = true → meth.locks = false → lv_has ls maxL (lv_args 0 av) → Wd D A s wc s.heap [] →
      W p l e { frames := fr, cells := 1, slots := 6, locals := lo } s m args below meth c s.heap [] 0 0 (XQ below E s) (F0 m 0 ls [])) : KX l D cI cB cJ y bytes maxL ret fr lo av wc E := by
  intro sz
  refine KX.ofW (cc := bytes) (maxL := maxL) (ret := ret) hy rfl ?_
  intro p e s m args below meth c s₁ B hml hv
  obtain ⟨rfl, rfl, hP, hK, hD, hx⟩ := hv
  have hemp := B.noHandlers (atoms_spec (ws := Cond.code y bytes maxL ret :: wT) B.pre _ List.mem_cons_self)
  rw [lg_entry_eq]
  exact body p e s m _ below meth c _ _ (Cx.of B hml hK hx) hemp B.notSynchronized (lv_entry av hav) (Wd.start hP hD)
/-- a helper of the law: a method with handlers -/
def KH (l : Launch) (D : va_G) (cI cB cJ : ClassId) (y : MethodName) (bytes : ByteArray) (maxL : Nat) (hh : List (Nat × Nat × Nat × Nat)) (fr lo : Nat) (av : List Value) (wc : va_W) (r0 : Int32) (w1 : va_W) : Prop :=
  ∀ sz : Nat, Met l y (Cond.codeWith y bytes maxL (some .int) hh :: wT) { frames := fr, cells := 1, slots := 6, locals := lo } (va_Pc av (CP D cI cB cJ wc sz)) (va_Qi (fun r (_ : Unit) => r = r0) (fun _ t => CE D w1 (va_A wc sz) t) (va_A wc sz)) 1 6 (va_A wc sz)
theorem KH.ofW {hh : List (Nat × Nat × Nat × Nat)} (hy : plainName y.cls = true) (hav : (lg_sl av).length ≤ maxL)
    (body : ∀ (p : Program) (e : Env) (s : State) (m : MethodId) (args : Array Value) (below : List Frame) (meth : Method) (c : Code) (A : Nat → Prop) (Q : State → Prop) (ls : Array Slot), Cx p s m args c bytes maxL y.cls D cI cB cJ → c.exceptionTable.toList.map (fun h => (h.startPc, h.endPc, h.handlerPc, h.catchType)) = hh → lv_has ls maxL (lv_args 0 av) → Wd D A s wc s.heap [] →
      (∀ (pc : Nat) (ls : Array Slot) (H : Heap) (locs : List Loc), decode bytes pc = .ok (.ireturn, 1) → Wd D A s w1 H locs → W p l e { frames := fr, cells := 1, slots := 6, locals := lo } s m args below meth c H locs 1 6 Q (F0 m pc ls [.int r0])) →
      W p l e { frames := fr, cells := 1, slots := 6, locals := lo } s m args below meth c s.heap [] 0 0 Q (F0 m 0 ls [])) : KH l D cI cB cJ y bytes maxL hh fr lo av wc r0 w1 := by
  intro sz
  refine va_MetW (cc := bytes) (maxL := maxL) (ret := some .int) (hh := hh) hy rfl ?_
  intro p e s m args below meth c s₁ B hml hv
  obtain ⟨rfl, rfl, hP, hK, hD, hx⟩ := hv
  have hr := B.returns
  have hlocks := B.notSynchronized
  obtain ⟨m9, meth9, c9, hn9, h1, h2, -, -, htab, -⟩ := Cond.codeWith_spec (atoms_spec (ws := Cond.codeWith y bytes maxL (some .int) hh :: wT) B.pre _ List.mem_cons_self)
  cases B.named.symm.trans hn9
  cases B.method.symm.trans h1
  cases (Stand.of_body B).code.symm.trans h2
  rw [lg_entry_eq]
  exact body p e s m _ below meth c _ _ _ (Cx.of B hml hK hx) htab (lv_entry av hav) (Wd.start hP hD) (fun pc ls H locs hdg w => W.iret B.exec B.bytes hr (fun t ht _ => ⟨⟨r0, (), rfl, rfl, by rw [ht]; exact w.1, w.2.1⟩, w.2.2.1.F ht⟩) w.2.2.1.2.2 hdg)
end EN
section CH
variable {p : Program} {l : Launch} {e : Env} {R : Room} {s : State} {m : MethodId} {args : Array Value} {below : List Frame} {meth : Method} {c : Code} {H : Heap} {locs : List Loc} {cells slots : Nat} {Q : State → Prop}
variable {cc : ByteArray} {pc nL : Nat} {ls : Array Slot} {rest : List Value} {own : String} {D : va_G} {cI cB cJ : ClassId} {A : Nat → Prop} {ws : va_W} {a : Nat}
variable {y : MethodName} {bytes : ByteArray} {maxL fr lo index n9 : Nat} {As : List Value} {wc wr w1 : va_W}
/-- the law calls a helper -/
theorem R_sh {hh : List (Nat × Nat × Nat × Nat)} (C0 : Cx p s m args c cc nL own D cI cB cJ) (w : Wd D A s ws H locs) (isC isR : List Nat) {r0 : Int32} (hM : KH l D cI cB cJ y bytes maxL hh fr lo As wc r0 w1) (hnC : va_nd isC = true) (hC : isC.map (fun i => ws[i]?) = wc.map some) (hnR : va_nd isR = true) (hRr : isR.map (fun i => ws[i]?) = wr.map some) (hdis : ∀ i ∈ isR, i ∉ isC) (hcode : Cond.codeWith y bytes maxL (some .int) hh ∈ wT) (hlink : Cond.methodLink own index y ∈ wT) (hstat : Cond.static y ∈ wT) (hini : Cond.initialized y.cls ∈ wT)
    (hd : y.cls ≠ "java/lang/invoke/MethodHandle" ∧ y.cls ≠ "java/lang/invoke/VarHandle" ∧ (parseMethodDescriptor y.desc).map (fun d => d.parameters.length) = some n9) (hn9 : As.length = n9) (hR : fr + 1 ≤ R.frames ∧ 8 + (maxL + 11) + lo ≤ R.locals) (hls : ls.size = nL) {st0 : List Value} (hst : st0 = As.reverse ++ rest) (hrest : (rest.map fun v => v.category).sum ≤ 8) (hdg : decode cc pc = .ok (.invokestatic index, 3)) (hcs : cells + 1 ≤ R.cells) (hss : slots + 6 ≤ R.slots)
    (kk : ∀ (H1 : Heap) (locs1 : List Loc), Wd D A s (wr ++ w1) H1 locs1 → W p l e R s m args below meth c H1 locs1 (cells + 1) (slots + 6) Q (F0 m (pc + 3) ls (.int r0 :: rest))) : W p l e R s m args below meth c H locs cells slots Q (F0 m pc ls st0) := by
  subst hst
  have hts := C0.2.2.2.2.1
  have hF := va_free (wc := wc) w.2.1 w.2.2.1 w.2.2.2.1 isC hC
  have hgood : GoodIn wT (Cond.codeWith y bytes maxL (some .int) hh :: wT) := gI (gI1 hcode)
  have hK : Back l R p e below s args y 3 8 (PreOf R 1 6 (va_Pc As (CP D cI cB cJ wc H.size))) (PostOf (va_Qi (fun r (_ : Unit) => r = r0) (fun _ t => CE D w1 (va_A wc H.size) t) (va_A wc H.size)) 1 6 (va_A wc H.size)) :=
    va_backW (hh := hh) (bytes := bytes) (maxL := maxL) (ret := some .int) (hM H.size) CP.blind rfl rfl hR.1 hR.2 (pay_in hts hgood) List.mem_cons_self (fun a' U hW => word_at hW (good_of_word (wT_good _ hini)) (hts _ hini))
  have hrun : va_Run p l e R s m args below meth c H locs cells slots 1 6 (F0 m pc ls (As.reverse ++ rest)) rest (va_Qi (fun r (_ : Unit) => r = r0) (fun _ t => CE D w1 (va_A wc H.size) t) (va_A wc H.size) As.toArray) (va_A wc H.size) := by
    intro T hT X
    obtain ⟨mk, methM, cM, hnamed, hmethM, hcM, -, -, -, -, -, hsigM⟩ := Cond.codeWith_spec (hts _ hcode)
    have hstatic : methM.isStatic = true := Cond.static_spec hnamed hmethM (hts _ hstat)
    obtain ⟨kP, hkP, -⟩ := className_of_methodNamed hnamed
    have hinitP : kP.init = .initialized := Cond.initialized_spec (findClass_of_methodNamed hnamed) hkP (hts _ hini)
    have hlen : As.length = methM.sig.parameters.length := by
      have h2 := hd.2.2
      rw [hsigM] at h2
      exact hn9.trans (Option.some.inj h2).symm
    obtain ⟨vm₁, X₁, hstep₁⟩ := X.invokestatic C0.1 C0.2.2.2.1 (hts _ hlink) hnamed hmethM hstatic hkP hinitP ⟨hd.1, hd.2.1⟩ (g := F0 m pc ls (As.reverse ++ rest)) rfl (argsL := As) (rest := rest) hlen rfl (by rw [C0.2.1]; exact hdg)
    obtain ⟨v, ⟨U', l2, c2, s2⟩, X', ⟨g', mk', t, L, e1, e2, hq, h1, hL, h2, h3⟩, hsteps⟩ := hK m meth c ⟨T.setVm vm₁, locs, cells, slots⟩ { F0 m pc ls (As.reverse ++ rest) with stack := rest } (.invokestatic index) mk As.toArray X₁ rfl (hls.trans C0.2.2.1.symm) (by rw [C0.2.1]; exact hdg) (lv_room hrest) (X₁.named hnamed) ⟨hcs, hss, rfl, CP.give C0.2.2.2.2.2.1 C0.2.2.2.2.2.2 w isC hnC hC hT X₁.warmed⟩
    dsimp only [Pt.U, Pt.locs, Pt.cells, Pt.slots] at X' e1 e2 h1 h2 h3 hsteps
    subst h1; subst h2; subst h3
    exact ⟨v, (T.setVm vm₁).calling g' mk' As.toArray, t, U', L, hT, X', hL, e1, e2, hq, fun target h => hstep₁ _ fun acts => by rw [doInvoke_state]; exact hsteps.trans h⟩
  refine va_calli hrun w.2.2.1 (fun q _ h => hF q h) hF (fun r u t H1 locs1 ht hvm hr hB hz hk hS => ?_)
  subst hr
  obtain ⟨hP1, hD1⟩ := hB
  rw [ht] at hP1
  obtain ⟨hP, hD⟩ := va_join (wr := wr) (w1 := w1) w.1 w.2.1 isC isR hC hRr hnR hdis hk hF hP1 hD1
  exact kk H1 locs1 (w.to hP hD hS)
end CH
section SM
variable {p : Program} {l : Launch} {e : Env} {R : Room} {s : State} {m : MethodId} {args : Array Value} {below : List Frame} {meth : Method} {c : Code} {H : Heap} {locs : List Loc} {cells slots : Nat} {Q : State → Prop} {pc : Nat} {ls : Array Slot} {rest : List Value}
theorem lv_cst {x y : Int32} (h : x = y) (k : W p l e R s m args below meth c H locs cells slots Q (F0 m pc ls (.int y :: rest))) : W p l e R s m args below meth c H locs cells slots Q (F0 m pc ls (.int x :: rest)) := by
  rw [h]
  exact k
end SM
theorem vin {i : Int32} {n : Nat} (h : ¬ (i < 0 ∨ n ≤ i.toNatClampNeg)) : vp_in i n := h
abbrev tabF (h : ExceptionTableEntry) : Nat × Nat × Nat × Nat := (h.startPc, h.endPc, h.handlerPc, h.catchType)
theorem tab1 {L : List ExceptionTableEntry} {a : Nat × Nat × Nat × Nat} (h : L.map (fun h => (h.startPc, h.endPc, h.handlerPc, h.catchType)) = [a]) : ∃ z, tabF z = a ∧ L = [z] := by
  match L, h with
  | [z], h => exact ⟨z, (List.cons.inj h).1, rfl⟩
theorem tab2 {L : List ExceptionTableEntry} {a b : Nat × Nat × Nat × Nat} (h : L.map (fun h => (h.startPc, h.endPc, h.handlerPc, h.catchType)) = [a, b]) : ∃ z, tabF z = a ∧ ∃ z', tabF z' = b ∧ L = [z, z'] := by
  match L, h with
  | [z, z'], h => exact ⟨z, (List.cons.inj h).1, z', (List.cons.inj (List.cons.inj h).2).1, rfl⟩
theorem cov_eq {z : ExceptionTableEntry} {pc a b c d : Nat} (h : tabF z = (a, b, c, d)) : covers z pc = (decide (a ≤ pc) && decide (pc < b)) := by
  have h1 : z.startPc = a := congrArg Prod.fst h
  have h2 : z.endPc = b := congrArg (fun q => q.2.1) h
  show (decide (z.startPc ≤ pc) && decide (pc < z.endPc)) = _
  rw [h1, h2]
theorem ct_eq {z : ExceptionTableEntry} {a b c d : Nat} (h : tabF z = (a, b, c, d)) : z.catchType = d := congrArg (fun q => q.2.2.2) h
theorem hpc_eq {z : ExceptionTableEntry} {a b c d : Nat} (h : tabF z = (a, b, c, d)) : z.handlerPc = c := congrArg (fun q => q.2.2.1) h
theorem sp_out {k : Int32} (h0 : ¬ k = 0) (h1 : ¬ k = 1) (h2 : ¬ k = 2) : k.toInt < 0 ∨ 2 < k.toInt := by
  have a0 : k.toInt ≠ 0 := fun h => h0 (Int32.toInt_inj.mp (by rw [h]; decide))
  have a1 : k.toInt ≠ 1 := fun h => h1 (Int32.toInt_inj.mp (by rw [h]; decide))
  have a2 : k.toInt ≠ 2 := fun h => h2 (Int32.toInt_inj.mp (by rw [h]; decide))
  omega
theorem l6 {L : Nat} (h : L ≤ 6) (hc : ¬ (Int32.ofNat L - 6 < 0)) : L = 6 := by
  have h7 : L = 0 ∨ L = 1 ∨ L = 2 ∨ L = 3 ∨ L = 4 ∨ L = 5 ∨ L = 6 := by omega
  rcases h7 with rfl | rfl | rfl | rfl | rfl | rfl | rfl
  · exact absurd (by decide) hc
  · exact absurd (by decide) hc
  · exact absurd (by decide) hc
  · exact absurd (by decide) hc
  · exact absurd (by decide) hc
  · exact absurd (by decide) hc
  · rfl
theorem nz0 : narrow .boolean (.int 0) = .int 0 := by decide +kernel
theorem nz1 : narrow .boolean (.int 1) = .int 1 := by decide +kernel
theorem fz0 : fits .boolean (.int 0) = true := by decide +kernel
end
section
theorem at_IllegalArgumentException : (ow_words "NameForge" 92 "java/lang/IllegalArgumentException" ix_IllegalArgumentException rx_IllegalArgumentException up_IllegalArgumentException).all x_ok = true := by decide +kernel
theorem at_IllegalStateException : (ow_words "NameForge" 73 "java/lang/IllegalStateException" ix_IllegalStateException rx_IllegalStateException up_IllegalStateException).all x_ok = true := by decide +kernel
theorem at_NoSuchElementException : (ow_words "NameForge" 140 "java/util/NoSuchElementException" ix_NoSuchElementException rx_NoSuchElementException up_NoSuchElementException).all x_ok = true := by decide +kernel
end
section
abbrev fN (v0 : Int32) (q : Nat → Nat) : List Value := [.ref (q 0), .ref (q 1), .ref (q 2), .ref (q 3), .ref (q 4), .ref (q 5), .int v0]
abbrev fP (v0 : Int32) (q : Nat → Nat) : List Value := [.int v0, .ref (q 1), .ref (q 2), .ref (q 3), .ref (q 4), .ref (q 5), .ref (q 6), .ref (q 7), .ref (q 8), .ref (q 9)]
abbrev fA (v0 : Int32) (q : Nat → Nat) : List Value := [.ref (q 0), .ref (q 1), .ref (q 2), .ref (q 3), .int v0, .ref (q 5), .ref (q 6), .ref (q 7), .ref (q 8), .int 0, .ref (q 10), .int 0, .int 0, .int 0]
abbrev fR (v0 : Int32) (v1 : Int32) (v2 : Int32) (v3 : Int32) (q : Nat → Nat) : List Value := [.int v0, .int v1, .ref (q 2), .ref (q 3), .ref (q 4), .ref (q 5), .ref (q 6), .ref (q 7), .ref (q 8), .ref (q 9), .ref (q 10), .int v2, .int 0, .ref (q 13), .ref (q 14), .ref (q 15), .ref (q 16), .int 0, .ref (q 18), .ref (q 19), .ref (q 20), .ref (q 21), .ref (q 22), .ref (q 23), .ref (q 24), .ref (q 25), .ref (q 26), .int 0, .ref (q 28), .ref (q 29), .ref (q 30), .ref (q 31), .int v3, .ref (q 33), .int 0, .int 0, .ref (q 36), .int 0, .int 0, .ref (q 39), .ref (q 40)]
theorem bornN : ∀ j, j < 7 → defaultValue (tyN j) = vp_V [.null, .null, .null, .null, .null, .null, .int 0] j := fun j hj => match j, hj with
  | 0, _ => rfl
  | 1, _ => rfl
  | 2, _ => rfl
  | 3, _ => rfl
  | 4, _ => rfl
  | 5, _ => rfl
  | 6, _ => rfl
  | k + 7, h => absurd h (by omega)
theorem bornP : ∀ j, j < 10 → defaultValue (tyP j) = vp_V [.int 0, .null, .null, .null, .null, .null, .null, .null, .null, .null] j := fun j hj => match j, hj with
  | 0, _ => rfl
  | 1, _ => rfl
  | 2, _ => rfl
  | 3, _ => rfl
  | 4, _ => rfl
  | 5, _ => rfl
  | 6, _ => rfl
  | 7, _ => rfl
  | 8, _ => rfl
  | 9, _ => rfl
  | k + 10, h => absurd h (by omega)
theorem bornS : ∀ j, j < 9 → defaultValue (tyS j) = vp_V [.null, .int 0, .null, .null, .null, .null, .null, .int 0, .null] j := fun j hj => match j, hj with
  | 0, _ => rfl
  | 1, _ => rfl
  | 2, _ => rfl
  | 3, _ => rfl
  | 4, _ => rfl
  | 5, _ => rfl
  | 6, _ => rfl
  | 7, _ => rfl
  | 8, _ => rfl
  | k + 9, h => absurd h (by omega)
theorem bornG : ∀ j, j < 14 → defaultValue (tyG j) = vp_V [.null, .null, .int 0, .null, .null, .null, .null, .null, .null, .null, .null, .null, .null, .null] j := fun j hj => match j, hj with
  | 0, _ => rfl
  | 1, _ => rfl
  | 2, _ => rfl
  | 3, _ => rfl
  | 4, _ => rfl
  | 5, _ => rfl
  | 6, _ => rfl
  | 7, _ => rfl
  | 8, _ => rfl
  | 9, _ => rfl
  | 10, _ => rfl
  | 11, _ => rfl
  | 12, _ => rfl
  | 13, _ => rfl
  | k + 14, h => absurd h (by omega)
theorem bornK : ∀ j, j < 8 → defaultValue (tyK j) = vp_V [.null, .null, .null, .int 0, .null, .null, .null, .int 0] j := fun j hj => match j, hj with
  | 0, _ => rfl
  | 1, _ => rfl
  | 2, _ => rfl
  | 3, _ => rfl
  | 4, _ => rfl
  | 5, _ => rfl
  | 6, _ => rfl
  | 7, _ => rfl
  | k + 8, h => absurd h (by omega)
theorem bornD : ∀ j, j < 6 → defaultValue (tyD j) = vp_V [.null, .null, .null, .null, .null, .int 0] j := fun j hj => match j, hj with
  | 0, _ => rfl
  | 1, _ => rfl
  | 2, _ => rfl
  | 3, _ => rfl
  | 4, _ => rfl
  | 5, _ => rfl
  | k + 6, h => absurd h (by omega)
theorem bornA : ∀ j, j < 14 → defaultValue (tyA j) = vp_V [.null, .null, .null, .null, .int 0, .null, .null, .null, .null, .int 0, .null, .int 0, .int 0, .int 0] j := fun j hj => match j, hj with
  | 0, _ => rfl
  | 1, _ => rfl
  | 2, _ => rfl
  | 3, _ => rfl
  | 4, _ => rfl
  | 5, _ => rfl
  | 6, _ => rfl
  | 7, _ => rfl
  | 8, _ => rfl
  | 9, _ => rfl
  | 10, _ => rfl
  | 11, _ => rfl
  | 12, _ => rfl
  | 13, _ => rfl
  | k + 14, h => absurd h (by omega)
theorem bornR : ∀ j, j < 41 → defaultValue (tyR j) = vp_V [.int 0, .int 0, .null, .null, .null, .null, .null, .null, .null, .null, .null, .int 0, .int 0, .null, .null, .null, .null, .int 0, .null, .null, .null, .null, .null, .null, .null, .null, .null, .int 0, .null, .null, .null, .null, .int 0, .null, .int 0, .int 0, .null, .int 0, .int 0, .null, .null] j := fun j hj => match j, hj with
  | 0, _ => rfl
  | 1, _ => rfl
  | 2, _ => rfl
  | 3, _ => rfl
  | 4, _ => rfl
  | 5, _ => rfl
  | 6, _ => rfl
  | 7, _ => rfl
  | 8, _ => rfl
  | 9, _ => rfl
  | 10, _ => rfl
  | 11, _ => rfl
  | 12, _ => rfl
  | 13, _ => rfl
  | 14, _ => rfl
  | 15, _ => rfl
  | 16, _ => rfl
  | 17, _ => rfl
  | 18, _ => rfl
  | 19, _ => rfl
  | 20, _ => rfl
  | 21, _ => rfl
  | 22, _ => rfl
  | 23, _ => rfl
  | 24, _ => rfl
  | 25, _ => rfl
  | 26, _ => rfl
  | 27, _ => rfl
  | 28, _ => rfl
  | 29, _ => rfl
  | 30, _ => rfl
  | 31, _ => rfl
  | 32, _ => rfl
  | 33, _ => rfl
  | 34, _ => rfl
  | 35, _ => rfl
  | 36, _ => rfl
  | 37, _ => rfl
  | 38, _ => rfl
  | 39, _ => rfl
  | 40, _ => rfl
  | k + 41, h => absurd h (by omega)
abbrev wP (cI : ClassId) (h : Nat) (q : Nat → Nat) : va_W := [(h, .inr (1, fP 0 q)), ((q 1), .inl (cI, 10, .inl (fun _ => 0))), ((q 6), .inl (cI, 10, .inl (fun _ => 0))), ((q 7), .inl (cI, 10, .inl (fun _ => 0))), ((q 8), .inl (cI, 10, .inl (fun _ => 0))), ((q 9), .inl (cI, 10, .inl (fun _ => 0)))]
abbrev wA (cI : ClassId) (h : Nat) (q : Nat → Nat) : va_W := [(h, .inr (6, fA 0 q)), ((q 5), .inl (cI, 16, .inl (fun _ => 0)))]
abbrev wR (cI : ClassId) (h : Nat) (q : Nat → Nat) : va_W := [(h, .inr (7, fR 0 0 0 0 q)), ((q 2), .inl (cI, 10, .inl (fun _ => 0))), ((q 7), .inl (cI, 10, .inl (fun _ => 0))), ((q 33), .inl (cI, 16, .inl (fun _ => 0)))]
abbrev wN (cI : ClassId) (h : Nat) (qn qp qm : Nat → Nat) : va_W := [(h, .inr (0, fN 0 qn)), ((qn 0), .inr (1, fP 0 qp)), ((qn 5), .inr (6, fA 0 qm)), ((qp 1), .inl (cI, 10, .inl (fun _ => 0))), ((qp 6), .inl (cI, 10, .inl (fun _ => 0))), ((qp 7), .inl (cI, 10, .inl (fun _ => 0))), ((qp 8), .inl (cI, 10, .inl (fun _ => 0))), ((qp 9), .inl (cI, 10, .inl (fun _ => 0))), ((qm 5), .inl (cI, 16, .inl (fun _ => 0)))]
theorem CE_nil {D : va_G} {A : Nat → Prop} {t : State} : CE D [] A t := ⟨fun k q hk => (by cases hk), ⟨fun i j p q hi => (by cases hi), fun k q hk => (by cases hk)⟩⟩
set_option maxHeartbeats 4000000 in
set_option maxRecDepth 100000 in
theorem c_P_init (l : Launch) (D : va_G) (cI cB cJ : ClassId) (h : Nat) : KV l D cI cB cJ y_P_init b_P_init 1 1 12 49 330 [.ref h] [(h, .inr (1, [.int 0, .null, .null, .null, .null, .null, .null, .null, .null, .null]))] (fun A t => ∃ q : Nat → Nat, CE D (wP cI h q) A t) := by
  refine KV.ofW (by decide) (Nat.le_of_ble_eq_true rfl) ?_
  intro p e s m args below meth c A Q ls C0 hin hl w hret
  have hin : meth.name = "<init>" := hin
  have hx := C0.1
  have hb := C0.2.1
  have hl : lv_has ls 1 [(0, .ref h)] := hl
  refine lv_aload_n hx hb d_P_init_0 rfl (lv_at hl 0 rfl) ?_
  refine W.objInit hx hb C0.2.2.2.1 (C0.2.2.2.2.1 _ wd_30) (C0.2.2.2.2.1 _ wd_23) (C0.2.2.2.2.1 _ wd_24) rfl (by rw [C0.2.2.1]; exact hl.1) rfl d_P_init_1 (Nat.le_of_ble_eq_true rfl) (Nat.le_of_ble_eq_true rfl) ?_
  refine W.eq (g2 := F0 m 4 ls []) rfl ?_
  refine lv_aload_n hx hb d_P_init_4 rfl (lv_at hl 0 rfl) ?_
  refine lv_bipush (v := 10) hx hb d_P_init_5 (by decide) ?_
  refine R_newI (N := 10) C0 w wd_93 (by decide) (by decide) (by decide) (Nat.le_of_ble_eq_true rfl) (Nat.le_of_ble_eq_true rfl) d_P_init_7 (fun q1 H w => ?_)
  refine W.cs (cells' := 1) (slots' := 10) rfl rfl ?_
  have w : Wd D A s [(h, .inr (1, [.int 0, .null, .null, .null, .null, .null, .null, .null, .null, .null])), (q1, .inl (cI, 10, .inl (fun _ => 0)))] H _ := w
  refine R_putF C0 w 0 rfl rfl inP tyP_ok nmP 1 (by decide) wd_39 rfl hin rfl rfl rfl (Nat.le_of_ble_eq_true rfl) d_P_init_9 (fun H locs w => ?_)
  have w : Wd D A s [(h, .inr (1, [.int 0, .ref q1, .null, .null, .null, .null, .null, .null, .null, .null])), (q1, .inl (cI, 10, .inl (fun _ => 0)))] H _ := w
  refine lv_aload_n hx hb d_P_init_12 rfl (lv_at hl 0 rfl) ?_
  refine lv_bipush (v := 10) hx hb d_P_init_13 (by decide) ?_
  refine lv_bipush (v := 6) hx hb d_P_init_15 (by decide) ?_
  refine R_mna (N := 10) (K := 6) C0 w wd_31 wd_93 (by decide) (by decide) (by decide) (by decide) (by decide) (by decide) (Nat.le_of_ble_eq_true rfl) (Nat.le_of_ble_eq_true rfl) d_P_init_17 (fun q2 H w => ?_)
  refine W.cs (cells' := 12) (slots' := 80) rfl rfl ?_
  have w : Wd D A s [(h, .inr (1, [.int 0, .ref q1, .null, .null, .null, .null, .null, .null, .null, .null])), (q1, .inl (cI, 10, .inl (fun _ => 0)))] H _ := w
  refine R_putF C0 w 0 rfl rfl inP tyP_ok nmP 2 (by decide) wd_45 rfl hin rfl rfl rfl (Nat.le_of_ble_eq_true rfl) d_P_init_21 (fun H locs w => ?_)
  have w : Wd D A s [(h, .inr (1, [.int 0, .ref q1, .ref q2, .null, .null, .null, .null, .null, .null, .null])), (q1, .inl (cI, 10, .inl (fun _ => 0)))] H _ := w
  refine lv_aload_n hx hb d_P_init_24 rfl (lv_at hl 0 rfl) ?_
  refine lv_bipush (v := 10) hx hb d_P_init_25 (by decide) ?_
  refine lv_bipush (v := 6) hx hb d_P_init_27 (by decide) ?_
  refine R_mna (N := 10) (K := 6) C0 w wd_31 wd_93 (by decide) (by decide) (by decide) (by decide) (by decide) (by decide) (Nat.le_of_ble_eq_true rfl) (Nat.le_of_ble_eq_true rfl) d_P_init_29 (fun q3 H w => ?_)
  refine W.cs (cells' := 23) (slots' := 150) rfl rfl ?_
  have w : Wd D A s [(h, .inr (1, [.int 0, .ref q1, .ref q2, .null, .null, .null, .null, .null, .null, .null])), (q1, .inl (cI, 10, .inl (fun _ => 0)))] H _ := w
  refine R_putF C0 w 0 rfl rfl inP tyP_ok nmP 3 (by decide) wd_50 rfl hin rfl rfl rfl (Nat.le_of_ble_eq_true rfl) d_P_init_33 (fun H locs w => ?_)
  have w : Wd D A s [(h, .inr (1, [.int 0, .ref q1, .ref q2, .ref q3, .null, .null, .null, .null, .null, .null])), (q1, .inl (cI, 10, .inl (fun _ => 0)))] H _ := w
  refine lv_aload_n hx hb d_P_init_36 rfl (lv_at hl 0 rfl) ?_
  refine lv_bipush (v := 10) hx hb d_P_init_37 (by decide) ?_
  refine lv_bipush (v := 6) hx hb d_P_init_39 (by decide) ?_
  refine R_mna (N := 10) (K := 6) C0 w wd_31 wd_93 (by decide) (by decide) (by decide) (by decide) (by decide) (by decide) (Nat.le_of_ble_eq_true rfl) (Nat.le_of_ble_eq_true rfl) d_P_init_41 (fun q4 H w => ?_)
  refine W.cs (cells' := 34) (slots' := 220) rfl rfl ?_
  have w : Wd D A s [(h, .inr (1, [.int 0, .ref q1, .ref q2, .ref q3, .null, .null, .null, .null, .null, .null])), (q1, .inl (cI, 10, .inl (fun _ => 0)))] H _ := w
  refine R_putF C0 w 0 rfl rfl inP tyP_ok nmP 4 (by decide) wd_53 rfl hin rfl rfl rfl (Nat.le_of_ble_eq_true rfl) d_P_init_45 (fun H locs w => ?_)
  have w : Wd D A s [(h, .inr (1, [.int 0, .ref q1, .ref q2, .ref q3, .ref q4, .null, .null, .null, .null, .null])), (q1, .inl (cI, 10, .inl (fun _ => 0)))] H _ := w
  refine lv_aload_n hx hb d_P_init_48 rfl (lv_at hl 0 rfl) ?_
  refine lv_bipush (v := 10) hx hb d_P_init_49 (by decide) ?_
  refine lv_bipush (v := 6) hx hb d_P_init_51 (by decide) ?_
  refine R_mna (N := 10) (K := 6) C0 w wd_31 wd_93 (by decide) (by decide) (by decide) (by decide) (by decide) (by decide) (Nat.le_of_ble_eq_true rfl) (Nat.le_of_ble_eq_true rfl) d_P_init_53 (fun q5 H w => ?_)
  refine W.cs (cells' := 45) (slots' := 290) rfl rfl ?_
  have w : Wd D A s [(h, .inr (1, [.int 0, .ref q1, .ref q2, .ref q3, .ref q4, .null, .null, .null, .null, .null])), (q1, .inl (cI, 10, .inl (fun _ => 0)))] H _ := w
  refine R_putF C0 w 0 rfl rfl inP tyP_ok nmP 5 (by decide) wd_57 rfl hin rfl rfl rfl (Nat.le_of_ble_eq_true rfl) d_P_init_57 (fun H locs w => ?_)
  have w : Wd D A s [(h, .inr (1, [.int 0, .ref q1, .ref q2, .ref q3, .ref q4, .ref q5, .null, .null, .null, .null])), (q1, .inl (cI, 10, .inl (fun _ => 0)))] H _ := w
  refine lv_aload_n hx hb d_P_init_60 rfl (lv_at hl 0 rfl) ?_
  refine lv_bipush (v := 10) hx hb d_P_init_61 (by decide) ?_
  refine R_newI (N := 10) C0 w wd_93 (by decide) (by decide) (by decide) (Nat.le_of_ble_eq_true rfl) (Nat.le_of_ble_eq_true rfl) d_P_init_63 (fun q6 H w => ?_)
  refine W.cs (cells' := 46) (slots' := 300) rfl rfl ?_
  have w : Wd D A s [(h, .inr (1, [.int 0, .ref q1, .ref q2, .ref q3, .ref q4, .ref q5, .null, .null, .null, .null])), (q1, .inl (cI, 10, .inl (fun _ => 0))), (q6, .inl (cI, 10, .inl (fun _ => 0)))] H _ := w
  refine R_putF C0 w 0 rfl rfl inP tyP_ok nmP 6 (by decide) wd_60 rfl hin rfl rfl rfl (Nat.le_of_ble_eq_true rfl) d_P_init_65 (fun H locs w => ?_)
  have w : Wd D A s [(h, .inr (1, [.int 0, .ref q1, .ref q2, .ref q3, .ref q4, .ref q5, .ref q6, .null, .null, .null])), (q1, .inl (cI, 10, .inl (fun _ => 0))), (q6, .inl (cI, 10, .inl (fun _ => 0)))] H _ := w
  refine lv_aload_n hx hb d_P_init_68 rfl (lv_at hl 0 rfl) ?_
  refine lv_bipush (v := 10) hx hb d_P_init_69 (by decide) ?_
  refine R_newI (N := 10) C0 w wd_93 (by decide) (by decide) (by decide) (Nat.le_of_ble_eq_true rfl) (Nat.le_of_ble_eq_true rfl) d_P_init_71 (fun q7 H w => ?_)
  refine W.cs (cells' := 47) (slots' := 310) rfl rfl ?_
  have w : Wd D A s [(h, .inr (1, [.int 0, .ref q1, .ref q2, .ref q3, .ref q4, .ref q5, .ref q6, .null, .null, .null])), (q1, .inl (cI, 10, .inl (fun _ => 0))), (q6, .inl (cI, 10, .inl (fun _ => 0))), (q7, .inl (cI, 10, .inl (fun _ => 0)))] H _ := w
  refine R_putF C0 w 0 rfl rfl inP tyP_ok nmP 7 (by decide) wd_63 rfl hin rfl rfl rfl (Nat.le_of_ble_eq_true rfl) d_P_init_73 (fun H locs w => ?_)
  have w : Wd D A s [(h, .inr (1, [.int 0, .ref q1, .ref q2, .ref q3, .ref q4, .ref q5, .ref q6, .ref q7, .null, .null])), (q1, .inl (cI, 10, .inl (fun _ => 0))), (q6, .inl (cI, 10, .inl (fun _ => 0))), (q7, .inl (cI, 10, .inl (fun _ => 0)))] H _ := w
  refine lv_aload_n hx hb d_P_init_76 rfl (lv_at hl 0 rfl) ?_
  refine lv_bipush (v := 10) hx hb d_P_init_77 (by decide) ?_
  refine R_newI (N := 10) C0 w wd_93 (by decide) (by decide) (by decide) (Nat.le_of_ble_eq_true rfl) (Nat.le_of_ble_eq_true rfl) d_P_init_79 (fun q8 H w => ?_)
  refine W.cs (cells' := 48) (slots' := 320) rfl rfl ?_
  have w : Wd D A s [(h, .inr (1, [.int 0, .ref q1, .ref q2, .ref q3, .ref q4, .ref q5, .ref q6, .ref q7, .null, .null])), (q1, .inl (cI, 10, .inl (fun _ => 0))), (q6, .inl (cI, 10, .inl (fun _ => 0))), (q7, .inl (cI, 10, .inl (fun _ => 0))), (q8, .inl (cI, 10, .inl (fun _ => 0)))] H _ := w
  refine R_putF C0 w 0 rfl rfl inP tyP_ok nmP 8 (by decide) wd_66 rfl hin rfl rfl rfl (Nat.le_of_ble_eq_true rfl) d_P_init_81 (fun H locs w => ?_)
  have w : Wd D A s [(h, .inr (1, [.int 0, .ref q1, .ref q2, .ref q3, .ref q4, .ref q5, .ref q6, .ref q7, .ref q8, .null])), (q1, .inl (cI, 10, .inl (fun _ => 0))), (q6, .inl (cI, 10, .inl (fun _ => 0))), (q7, .inl (cI, 10, .inl (fun _ => 0))), (q8, .inl (cI, 10, .inl (fun _ => 0)))] H _ := w
  refine lv_aload_n hx hb d_P_init_84 rfl (lv_at hl 0 rfl) ?_
  refine lv_bipush (v := 10) hx hb d_P_init_85 (by decide) ?_
  refine R_newI (N := 10) C0 w wd_93 (by decide) (by decide) (by decide) (Nat.le_of_ble_eq_true rfl) (Nat.le_of_ble_eq_true rfl) d_P_init_87 (fun q9 H w => ?_)
  refine W.cs (cells' := 49) (slots' := 330) rfl rfl ?_
  have w : Wd D A s [(h, .inr (1, [.int 0, .ref q1, .ref q2, .ref q3, .ref q4, .ref q5, .ref q6, .ref q7, .ref q8, .null])), (q1, .inl (cI, 10, .inl (fun _ => 0))), (q6, .inl (cI, 10, .inl (fun _ => 0))), (q7, .inl (cI, 10, .inl (fun _ => 0))), (q8, .inl (cI, 10, .inl (fun _ => 0))), (q9, .inl (cI, 10, .inl (fun _ => 0)))] H _ := w
  refine R_putF C0 w 0 rfl rfl inP tyP_ok nmP 9 (by decide) wd_69 rfl hin rfl rfl rfl (Nat.le_of_ble_eq_true rfl) d_P_init_89 (fun H locs w => ?_)
  have w : Wd D A s [(h, .inr (1, [.int 0, .ref q1, .ref q2, .ref q3, .ref q4, .ref q5, .ref q6, .ref q7, .ref q8, .ref q9])), (q1, .inl (cI, 10, .inl (fun _ => 0))), (q6, .inl (cI, 10, .inl (fun _ => 0))), (q7, .inl (cI, 10, .inl (fun _ => 0))), (q8, .inl (cI, 10, .inl (fun _ => 0))), (q9, .inl (cI, 10, .inl (fun _ => 0)))] H _ := w
  exact hret _ _ _ _ d_P_init_92 w.2.2.1 (fun t ht => ⟨fun k => [0, q1, q2, q3, q4, q5, q6, q7, q8, q9].getD k 0, by rw [ht]; exact (w.sub [0, 1, 2, 3, 4, 5] rfl rfl).1, (w.sub [0, 1, 2, 3, 4, 5] rfl rfl).2.1⟩)
set_option maxHeartbeats 4000000 in
set_option maxRecDepth 100000 in
theorem c_S_init (l : Launch) (D : va_G) (cI cB cJ : ClassId) (h : Nat) (a1 : Nat) : KV l D cI cB cJ y_S_init b_S_init 2 1 12 6 60 [.ref h, .ref a1] [(h, .inr (2, [.null, .int 0, .null, .null, .null, .null, .null, .int 0, .null]))] (fun _ _ => True) := by
  refine KV.ofW (by decide) (Nat.le_of_ble_eq_true rfl) ?_
  intro p e s m args below meth c A Q ls C0 hin hl w hret
  have hin : meth.name = "<init>" := hin
  have hx := C0.1
  have hb := C0.2.1
  have hl : lv_has ls 2 [(0, .ref h), (1, .ref a1)] := hl
  refine lv_aload_n hx hb d_S_init_0 rfl (lv_at hl 0 rfl) ?_
  refine W.objInit hx hb C0.2.2.2.1 (C0.2.2.2.2.1 _ wd_99) (C0.2.2.2.2.1 _ wd_23) (C0.2.2.2.2.1 _ wd_24) rfl (by rw [C0.2.2.1]; exact hl.1) rfl d_S_init_1 (Nat.le_of_ble_eq_true rfl) (Nat.le_of_ble_eq_true rfl) ?_
  refine W.eq (g2 := F0 m 4 ls []) rfl ?_
  refine lv_aload_n hx hb d_S_init_4 rfl (lv_at hl 0 rfl) ?_
  refine lv_bipush (v := 10) hx hb d_S_init_5 (by decide) ?_
  refine R_newX (atype := .int) (N := 10) C0 w wd_93 (by decide) (by decide) (by decide) (Nat.le_of_ble_eq_true rfl) (Nat.le_of_ble_eq_true rfl) d_S_init_7 (fun q1 H w => ?_)
  refine W.cs (cells' := 1) (slots' := 10) rfl rfl ?_
  have w : Wd D A s [(h, .inr (2, [.null, .int 0, .null, .null, .null, .null, .null, .int 0, .null]))] H _ := w
  refine R_putF C0 w 0 rfl rfl inS tyS_ok nmS 2 (by decide) wd_103 rfl hin rfl rfl rfl (Nat.le_of_ble_eq_true rfl) d_S_init_9 (fun H locs w => ?_)
  have w : Wd D A s [(h, .inr (2, [.null, .int 0, .ref q1, .null, .null, .null, .null, .int 0, .null]))] H _ := w
  refine lv_aload_n hx hb d_S_init_12 rfl (lv_at hl 0 rfl) ?_
  refine lv_bipush (v := 10) hx hb d_S_init_13 (by decide) ?_
  refine R_newX (atype := .int) (N := 10) C0 w wd_93 (by decide) (by decide) (by decide) (Nat.le_of_ble_eq_true rfl) (Nat.le_of_ble_eq_true rfl) d_S_init_15 (fun q2 H w => ?_)
  refine W.cs (cells' := 2) (slots' := 20) rfl rfl ?_
  have w : Wd D A s [(h, .inr (2, [.null, .int 0, .ref q1, .null, .null, .null, .null, .int 0, .null]))] H _ := w
  refine R_putF C0 w 0 rfl rfl inS tyS_ok nmS 3 (by decide) wd_105 rfl hin rfl rfl rfl (Nat.le_of_ble_eq_true rfl) d_S_init_17 (fun H locs w => ?_)
  have w : Wd D A s [(h, .inr (2, [.null, .int 0, .ref q1, .ref q2, .null, .null, .null, .int 0, .null]))] H _ := w
  refine lv_aload_n hx hb d_S_init_20 rfl (lv_at hl 0 rfl) ?_
  refine lv_bipush (v := 10) hx hb d_S_init_21 (by decide) ?_
  refine R_newX (atype := .int) (N := 10) C0 w wd_93 (by decide) (by decide) (by decide) (Nat.le_of_ble_eq_true rfl) (Nat.le_of_ble_eq_true rfl) d_S_init_23 (fun q3 H w => ?_)
  refine W.cs (cells' := 3) (slots' := 30) rfl rfl ?_
  have w : Wd D A s [(h, .inr (2, [.null, .int 0, .ref q1, .ref q2, .null, .null, .null, .int 0, .null]))] H _ := w
  refine R_putF C0 w 0 rfl rfl inS tyS_ok nmS 4 (by decide) wd_106 rfl hin rfl rfl rfl (Nat.le_of_ble_eq_true rfl) d_S_init_25 (fun H locs w => ?_)
  have w : Wd D A s [(h, .inr (2, [.null, .int 0, .ref q1, .ref q2, .ref q3, .null, .null, .int 0, .null]))] H _ := w
  refine lv_aload_n hx hb d_S_init_28 rfl (lv_at hl 0 rfl) ?_
  refine lv_bipush (v := 10) hx hb d_S_init_29 (by decide) ?_
  refine R_newX (atype := .int) (N := 10) C0 w wd_93 (by decide) (by decide) (by decide) (Nat.le_of_ble_eq_true rfl) (Nat.le_of_ble_eq_true rfl) d_S_init_31 (fun q4 H w => ?_)
  refine W.cs (cells' := 4) (slots' := 40) rfl rfl ?_
  have w : Wd D A s [(h, .inr (2, [.null, .int 0, .ref q1, .ref q2, .ref q3, .null, .null, .int 0, .null]))] H _ := w
  refine R_putF C0 w 0 rfl rfl inS tyS_ok nmS 5 (by decide) wd_109 rfl hin rfl rfl rfl (Nat.le_of_ble_eq_true rfl) d_S_init_33 (fun H locs w => ?_)
  have w : Wd D A s [(h, .inr (2, [.null, .int 0, .ref q1, .ref q2, .ref q3, .ref q4, .null, .int 0, .null]))] H _ := w
  refine lv_aload_n hx hb d_S_init_36 rfl (lv_at hl 0 rfl) ?_
  refine lv_bipush (v := 10) hx hb d_S_init_37 (by decide) ?_
  refine R_newX (atype := .int) (N := 10) C0 w wd_93 (by decide) (by decide) (by decide) (Nat.le_of_ble_eq_true rfl) (Nat.le_of_ble_eq_true rfl) d_S_init_39 (fun q5 H w => ?_)
  refine W.cs (cells' := 5) (slots' := 50) rfl rfl ?_
  have w : Wd D A s [(h, .inr (2, [.null, .int 0, .ref q1, .ref q2, .ref q3, .ref q4, .null, .int 0, .null]))] H _ := w
  refine R_putF C0 w 0 rfl rfl inS tyS_ok nmS 6 (by decide) wd_111 rfl hin rfl rfl rfl (Nat.le_of_ble_eq_true rfl) d_S_init_41 (fun H locs w => ?_)
  have w : Wd D A s [(h, .inr (2, [.null, .int 0, .ref q1, .ref q2, .ref q3, .ref q4, .ref q5, .int 0, .null]))] H _ := w
  refine lv_aload_n hx hb d_S_init_44 rfl (lv_at hl 0 rfl) ?_
  refine lv_bipush (v := 10) hx hb d_S_init_45 (by decide) ?_
  refine R_newX (atype := .int) (N := 10) C0 w wd_93 (by decide) (by decide) (by decide) (Nat.le_of_ble_eq_true rfl) (Nat.le_of_ble_eq_true rfl) d_S_init_47 (fun q6 H w => ?_)
  refine W.cs (cells' := 6) (slots' := 60) rfl rfl ?_
  have w : Wd D A s [(h, .inr (2, [.null, .int 0, .ref q1, .ref q2, .ref q3, .ref q4, .ref q5, .int 0, .null]))] H _ := w
  refine R_putF C0 w 0 rfl rfl inS tyS_ok nmS 8 (by decide) wd_117 rfl hin rfl rfl rfl (Nat.le_of_ble_eq_true rfl) d_S_init_49 (fun H locs w => ?_)
  have w : Wd D A s [(h, .inr (2, [.null, .int 0, .ref q1, .ref q2, .ref q3, .ref q4, .ref q5, .int 0, .ref q6]))] H _ := w
  refine lv_aload_n hx hb d_S_init_52 rfl (lv_at hl 0 rfl) ?_
  refine lv_aload_n hx hb d_S_init_53 rfl (lv_at hl 1 rfl) ?_
  refine R_putF C0 w 0 rfl rfl inS tyS_ok nmS 0 (by decide) wd_100 rfl hin rfl rfl rfl (Nat.le_of_ble_eq_true rfl) d_S_init_54 (fun H locs w => ?_)
  have w : Wd D A s [(h, .inr (2, [.ref a1, .int 0, .ref q1, .ref q2, .ref q3, .ref q4, .ref q5, .int 0, .ref q6]))] H _ := w
  exact hret _ _ _ _ d_S_init_57 w.2.2.1 (fun _ _ => trivial)
set_option maxHeartbeats 4000000 in
set_option maxRecDepth 100000 in
theorem c_G_init (l : Launch) (D : va_G) (cI cB cJ : ClassId) (h : Nat) (a1 : Nat) (a2 : Nat) : KV l D cI cB cJ y_G_init b_G_init 3 1 12 61 758 [.ref h, .ref a1, .ref a2] [(h, .inr (3, [.null, .null, .int 0, .null, .null, .null, .null, .null, .null, .null, .null, .null, .null, .null]))] (fun _ _ => True) := by
  refine KV.ofW (by decide) (Nat.le_of_ble_eq_true rfl) ?_
  intro p e s m args below meth c A Q ls C0 hin hl w hret
  have hin : meth.name = "<init>" := hin
  have hx := C0.1
  have hb := C0.2.1
  have hl : lv_has ls 3 [(0, .ref h), (1, .ref a1), (2, .ref a2)] := hl
  refine lv_aload_n hx hb d_G_init_0 rfl (lv_at hl 0 rfl) ?_
  refine W.objInit hx hb C0.2.2.2.1 (C0.2.2.2.2.1 _ wd_142) (C0.2.2.2.2.1 _ wd_23) (C0.2.2.2.2.1 _ wd_24) rfl (by rw [C0.2.2.1]; exact hl.1) rfl d_G_init_1 (Nat.le_of_ble_eq_true rfl) (Nat.le_of_ble_eq_true rfl) ?_
  refine W.eq (g2 := F0 m 4 ls []) rfl ?_
  refine lv_aload_n hx hb d_G_init_4 rfl (lv_at hl 0 rfl) ?_
  refine lv_bipush (v := 10) hx hb d_G_init_5 (by decide) ?_
  refine R_newX (atype := .int) (N := 10) C0 w wd_93 (by decide) (by decide) (by decide) (Nat.le_of_ble_eq_true rfl) (Nat.le_of_ble_eq_true rfl) d_G_init_7 (fun q1 H w => ?_)
  refine W.cs (cells' := 1) (slots' := 10) rfl rfl ?_
  have w : Wd D A s [(h, .inr (3, [.null, .null, .int 0, .null, .null, .null, .null, .null, .null, .null, .null, .null, .null, .null]))] H _ := w
  refine R_putF C0 w 0 rfl rfl inG tyG_ok nmG 3 (by decide) wd_148 rfl hin rfl rfl rfl (Nat.le_of_ble_eq_true rfl) d_G_init_9 (fun H locs w => ?_)
  have w : Wd D A s [(h, .inr (3, [.null, .null, .int 0, .ref q1, .null, .null, .null, .null, .null, .null, .null, .null, .null, .null]))] H _ := w
  refine lv_aload_n hx hb d_G_init_12 rfl (lv_at hl 0 rfl) ?_
  refine lv_bipush (v := 10) hx hb d_G_init_13 (by decide) ?_
  refine R_newX (atype := .int) (N := 10) C0 w wd_93 (by decide) (by decide) (by decide) (Nat.le_of_ble_eq_true rfl) (Nat.le_of_ble_eq_true rfl) d_G_init_15 (fun q2 H w => ?_)
  refine W.cs (cells' := 2) (slots' := 20) rfl rfl ?_
  have w : Wd D A s [(h, .inr (3, [.null, .null, .int 0, .ref q1, .null, .null, .null, .null, .null, .null, .null, .null, .null, .null]))] H _ := w
  refine R_putF C0 w 0 rfl rfl inG tyG_ok nmG 4 (by decide) wd_152 rfl hin rfl rfl rfl (Nat.le_of_ble_eq_true rfl) d_G_init_17 (fun H locs w => ?_)
  have w : Wd D A s [(h, .inr (3, [.null, .null, .int 0, .ref q1, .ref q2, .null, .null, .null, .null, .null, .null, .null, .null, .null]))] H _ := w
  refine lv_aload_n hx hb d_G_init_20 rfl (lv_at hl 0 rfl) ?_
  refine lv_bipush (v := 10) hx hb d_G_init_21 (by decide) ?_
  refine lv_bipush (v := 6) hx hb d_G_init_23 (by decide) ?_
  refine R_mna (N := 10) (K := 6) C0 w wd_143 wd_93 (by decide) (by decide) (by decide) (by decide) (by decide) (by decide) (Nat.le_of_ble_eq_true rfl) (Nat.le_of_ble_eq_true rfl) d_G_init_25 (fun q3 H w => ?_)
  refine W.cs (cells' := 13) (slots' := 90) rfl rfl ?_
  have w : Wd D A s [(h, .inr (3, [.null, .null, .int 0, .ref q1, .ref q2, .null, .null, .null, .null, .null, .null, .null, .null, .null]))] H _ := w
  refine R_putF C0 w 0 rfl rfl inG tyG_ok nmG 5 (by decide) wd_153 rfl hin rfl rfl rfl (Nat.le_of_ble_eq_true rfl) d_G_init_29 (fun H locs w => ?_)
  have w : Wd D A s [(h, .inr (3, [.null, .null, .int 0, .ref q1, .ref q2, .ref q3, .null, .null, .null, .null, .null, .null, .null, .null]))] H _ := w
  refine lv_aload_n hx hb d_G_init_32 rfl (lv_at hl 0 rfl) ?_
  refine lv_bipush (v := 10) hx hb d_G_init_33 (by decide) ?_
  refine lv_bipush (v := 6) hx hb d_G_init_35 (by decide) ?_
  refine R_mna (N := 10) (K := 6) C0 w wd_143 wd_93 (by decide) (by decide) (by decide) (by decide) (by decide) (by decide) (Nat.le_of_ble_eq_true rfl) (Nat.le_of_ble_eq_true rfl) d_G_init_37 (fun q4 H w => ?_)
  refine W.cs (cells' := 24) (slots' := 160) rfl rfl ?_
  have w : Wd D A s [(h, .inr (3, [.null, .null, .int 0, .ref q1, .ref q2, .ref q3, .null, .null, .null, .null, .null, .null, .null, .null]))] H _ := w
  refine R_putF C0 w 0 rfl rfl inG tyG_ok nmG 6 (by decide) wd_157 rfl hin rfl rfl rfl (Nat.le_of_ble_eq_true rfl) d_G_init_41 (fun H locs w => ?_)
  have w : Wd D A s [(h, .inr (3, [.null, .null, .int 0, .ref q1, .ref q2, .ref q3, .ref q4, .null, .null, .null, .null, .null, .null, .null]))] H _ := w
  refine lv_aload_n hx hb d_G_init_44 rfl (lv_at hl 0 rfl) ?_
  refine lv_bipush (v := 10) hx hb d_G_init_45 (by decide) ?_
  refine lv_bipush (v := 6) hx hb d_G_init_47 (by decide) ?_
  refine R_mna (N := 10) (K := 6) C0 w wd_143 wd_93 (by decide) (by decide) (by decide) (by decide) (by decide) (by decide) (Nat.le_of_ble_eq_true rfl) (Nat.le_of_ble_eq_true rfl) d_G_init_49 (fun q5 H w => ?_)
  refine W.cs (cells' := 35) (slots' := 230) rfl rfl ?_
  have w : Wd D A s [(h, .inr (3, [.null, .null, .int 0, .ref q1, .ref q2, .ref q3, .ref q4, .null, .null, .null, .null, .null, .null, .null]))] H _ := w
  refine R_putF C0 w 0 rfl rfl inG tyG_ok nmG 7 (by decide) wd_162 rfl hin rfl rfl rfl (Nat.le_of_ble_eq_true rfl) d_G_init_53 (fun H locs w => ?_)
  have w : Wd D A s [(h, .inr (3, [.null, .null, .int 0, .ref q1, .ref q2, .ref q3, .ref q4, .ref q5, .null, .null, .null, .null, .null, .null]))] H _ := w
  refine lv_aload_n hx hb d_G_init_56 rfl (lv_at hl 0 rfl) ?_
  refine lv_bipush (v := 10) hx hb d_G_init_57 (by decide) ?_
  refine lv_bipush (v := 6) hx hb d_G_init_59 (by decide) ?_
  refine R_mna (N := 10) (K := 6) C0 w wd_143 wd_93 (by decide) (by decide) (by decide) (by decide) (by decide) (by decide) (Nat.le_of_ble_eq_true rfl) (Nat.le_of_ble_eq_true rfl) d_G_init_61 (fun q6 H w => ?_)
  refine W.cs (cells' := 46) (slots' := 300) rfl rfl ?_
  have w : Wd D A s [(h, .inr (3, [.null, .null, .int 0, .ref q1, .ref q2, .ref q3, .ref q4, .ref q5, .null, .null, .null, .null, .null, .null]))] H _ := w
  refine R_putF C0 w 0 rfl rfl inG tyG_ok nmG 8 (by decide) wd_167 rfl hin rfl rfl rfl (Nat.le_of_ble_eq_true rfl) d_G_init_65 (fun H locs w => ?_)
  have w : Wd D A s [(h, .inr (3, [.null, .null, .int 0, .ref q1, .ref q2, .ref q3, .ref q4, .ref q5, .ref q6, .null, .null, .null, .null, .null]))] H _ := w
  refine lv_aload_n hx hb d_G_init_68 rfl (lv_at hl 0 rfl) ?_
  refine lv_bipush (v := 10) hx hb d_G_init_69 (by decide) ?_
  refine lv_bipush (v := 6) hx hb d_G_init_71 (by decide) ?_
  refine R_mna (N := 10) (K := 6) C0 w wd_143 wd_93 (by decide) (by decide) (by decide) (by decide) (by decide) (by decide) (Nat.le_of_ble_eq_true rfl) (Nat.le_of_ble_eq_true rfl) d_G_init_73 (fun q7 H w => ?_)
  refine W.cs (cells' := 57) (slots' := 370) rfl rfl ?_
  have w : Wd D A s [(h, .inr (3, [.null, .null, .int 0, .ref q1, .ref q2, .ref q3, .ref q4, .ref q5, .ref q6, .null, .null, .null, .null, .null]))] H _ := w
  refine R_putF C0 w 0 rfl rfl inG tyG_ok nmG 9 (by decide) wd_172 rfl hin rfl rfl rfl (Nat.le_of_ble_eq_true rfl) d_G_init_77 (fun H locs w => ?_)
  have w : Wd D A s [(h, .inr (3, [.null, .null, .int 0, .ref q1, .ref q2, .ref q3, .ref q4, .ref q5, .ref q6, .ref q7, .null, .null, .null, .null]))] H _ := w
  refine lv_aload_n hx hb d_G_init_80 rfl (lv_at hl 0 rfl) ?_
  refine lv_bipush (v := 10) hx hb d_G_init_81 (by decide) ?_
  refine R_newX (atype := .int) (N := 10) C0 w wd_93 (by decide) (by decide) (by decide) (Nat.le_of_ble_eq_true rfl) (Nat.le_of_ble_eq_true rfl) d_G_init_83 (fun q8 H w => ?_)
  refine W.cs (cells' := 58) (slots' := 380) rfl rfl ?_
  have w : Wd D A s [(h, .inr (3, [.null, .null, .int 0, .ref q1, .ref q2, .ref q3, .ref q4, .ref q5, .ref q6, .ref q7, .null, .null, .null, .null]))] H _ := w
  refine R_putF C0 w 0 rfl rfl inG tyG_ok nmG 10 (by decide) wd_177 rfl hin rfl rfl rfl (Nat.le_of_ble_eq_true rfl) d_G_init_85 (fun H locs w => ?_)
  have w : Wd D A s [(h, .inr (3, [.null, .null, .int 0, .ref q1, .ref q2, .ref q3, .ref q4, .ref q5, .ref q6, .ref q7, .ref q8, .null, .null, .null]))] H _ := w
  refine lv_aload_n hx hb d_G_init_88 rfl (lv_at hl 0 rfl) ?_
  refine lv_bipush (v := 126) hx hb d_G_init_89 (by decide) ?_
  refine R_newX (atype := .int) (N := 126) C0 w wd_93 (by decide) (by decide) (by decide) (Nat.le_of_ble_eq_true rfl) (Nat.le_of_ble_eq_true rfl) d_G_init_91 (fun q9 H w => ?_)
  refine W.cs (cells' := 59) (slots' := 506) rfl rfl ?_
  have w : Wd D A s [(h, .inr (3, [.null, .null, .int 0, .ref q1, .ref q2, .ref q3, .ref q4, .ref q5, .ref q6, .ref q7, .ref q8, .null, .null, .null]))] H _ := w
  refine R_putF C0 w 0 rfl rfl inG tyG_ok nmG 11 (by decide) wd_182 rfl hin rfl rfl rfl (Nat.le_of_ble_eq_true rfl) d_G_init_93 (fun H locs w => ?_)
  have w : Wd D A s [(h, .inr (3, [.null, .null, .int 0, .ref q1, .ref q2, .ref q3, .ref q4, .ref q5, .ref q6, .ref q7, .ref q8, .ref q9, .null, .null]))] H _ := w
  refine lv_aload_n hx hb d_G_init_96 rfl (lv_at hl 0 rfl) ?_
  refine lv_bipush (v := 126) hx hb d_G_init_97 (by decide) ?_
  refine R_newX (atype := .int) (N := 126) C0 w wd_93 (by decide) (by decide) (by decide) (Nat.le_of_ble_eq_true rfl) (Nat.le_of_ble_eq_true rfl) d_G_init_99 (fun q10 H w => ?_)
  refine W.cs (cells' := 60) (slots' := 632) rfl rfl ?_
  have w : Wd D A s [(h, .inr (3, [.null, .null, .int 0, .ref q1, .ref q2, .ref q3, .ref q4, .ref q5, .ref q6, .ref q7, .ref q8, .ref q9, .null, .null]))] H _ := w
  refine R_putF C0 w 0 rfl rfl inG tyG_ok nmG 12 (by decide) wd_185 rfl hin rfl rfl rfl (Nat.le_of_ble_eq_true rfl) d_G_init_101 (fun H locs w => ?_)
  have w : Wd D A s [(h, .inr (3, [.null, .null, .int 0, .ref q1, .ref q2, .ref q3, .ref q4, .ref q5, .ref q6, .ref q7, .ref q8, .ref q9, .ref q10, .null]))] H _ := w
  refine lv_aload_n hx hb d_G_init_104 rfl (lv_at hl 0 rfl) ?_
  refine lv_bipush (v := 126) hx hb d_G_init_105 (by decide) ?_
  refine R_newX (atype := .int) (N := 126) C0 w wd_93 (by decide) (by decide) (by decide) (Nat.le_of_ble_eq_true rfl) (Nat.le_of_ble_eq_true rfl) d_G_init_107 (fun q11 H w => ?_)
  refine W.cs (cells' := 61) (slots' := 758) rfl rfl ?_
  have w : Wd D A s [(h, .inr (3, [.null, .null, .int 0, .ref q1, .ref q2, .ref q3, .ref q4, .ref q5, .ref q6, .ref q7, .ref q8, .ref q9, .ref q10, .null]))] H _ := w
  refine R_putF C0 w 0 rfl rfl inG tyG_ok nmG 13 (by decide) wd_187 rfl hin rfl rfl rfl (Nat.le_of_ble_eq_true rfl) d_G_init_109 (fun H locs w => ?_)
  have w : Wd D A s [(h, .inr (3, [.null, .null, .int 0, .ref q1, .ref q2, .ref q3, .ref q4, .ref q5, .ref q6, .ref q7, .ref q8, .ref q9, .ref q10, .ref q11]))] H _ := w
  refine lv_aload_n hx hb d_G_init_112 rfl (lv_at hl 0 rfl) ?_
  refine lv_aload_n hx hb d_G_init_113 rfl (lv_at hl 1 rfl) ?_
  refine R_putF C0 w 0 rfl rfl inG tyG_ok nmG 0 (by decide) wd_144 rfl hin rfl rfl rfl (Nat.le_of_ble_eq_true rfl) d_G_init_114 (fun H locs w => ?_)
  have w : Wd D A s [(h, .inr (3, [.ref a1, .null, .int 0, .ref q1, .ref q2, .ref q3, .ref q4, .ref q5, .ref q6, .ref q7, .ref q8, .ref q9, .ref q10, .ref q11]))] H _ := w
  refine lv_aload_n hx hb d_G_init_117 rfl (lv_at hl 0 rfl) ?_
  refine lv_aload_n hx hb d_G_init_118 rfl (lv_at hl 2 rfl) ?_
  refine R_putF C0 w 0 rfl rfl inG tyG_ok nmG 1 (by decide) wd_145 rfl hin rfl rfl rfl (Nat.le_of_ble_eq_true rfl) d_G_init_119 (fun H locs w => ?_)
  have w : Wd D A s [(h, .inr (3, [.ref a1, .ref a2, .int 0, .ref q1, .ref q2, .ref q3, .ref q4, .ref q5, .ref q6, .ref q7, .ref q8, .ref q9, .ref q10, .ref q11]))] H _ := w
  exact hret _ _ _ _ d_G_init_122 w.2.2.1 (fun _ _ => trivial)
set_option maxHeartbeats 4000000 in
set_option maxRecDepth 100000 in
theorem c_K_init (l : Launch) (D : va_G) (cI cB cJ : ClassId) (h : Nat) (a1 : Nat) (a2 : Nat) (a3 : Nat) : KV l D cI cB cJ y_K_init b_K_init 4 1 12 3 262 [.ref h, .ref a1, .ref a2, .ref a3] [(h, .inr (4, [.null, .null, .null, .int 0, .null, .null, .null, .int 0]))] (fun _ _ => True) := by
  refine KV.ofW (by decide) (Nat.le_of_ble_eq_true rfl) ?_
  intro p e s m args below meth c A Q ls C0 hin hl w hret
  have hin : meth.name = "<init>" := hin
  have hx := C0.1
  have hb := C0.2.1
  have hl : lv_has ls 4 [(0, .ref h), (1, .ref a1), (2, .ref a2), (3, .ref a3)] := hl
  refine lv_aload_n hx hb d_K_init_0 rfl (lv_at hl 0 rfl) ?_
  refine W.objInit hx hb C0.2.2.2.1 (C0.2.2.2.2.1 _ wd_223) (C0.2.2.2.2.1 _ wd_23) (C0.2.2.2.2.1 _ wd_24) rfl (by rw [C0.2.2.1]; exact hl.1) rfl d_K_init_1 (Nat.le_of_ble_eq_true rfl) (Nat.le_of_ble_eq_true rfl) ?_
  refine W.eq (g2 := F0 m 4 ls []) rfl ?_
  refine lv_aload_n hx hb d_K_init_4 rfl (lv_at hl 0 rfl) ?_
  refine lv_bipush (v := 10) hx hb d_K_init_5 (by decide) ?_
  refine R_newX (atype := .int) (N := 10) C0 w wd_93 (by decide) (by decide) (by decide) (Nat.le_of_ble_eq_true rfl) (Nat.le_of_ble_eq_true rfl) d_K_init_7 (fun q1 H w => ?_)
  refine W.cs (cells' := 1) (slots' := 10) rfl rfl ?_
  have w : Wd D A s [(h, .inr (4, [.null, .null, .null, .int 0, .null, .null, .null, .int 0]))] H _ := w
  refine R_putF C0 w 0 rfl rfl inK tyK_ok nmK 4 (by decide) wd_230 rfl hin rfl rfl rfl (Nat.le_of_ble_eq_true rfl) d_K_init_9 (fun H locs w => ?_)
  have w : Wd D A s [(h, .inr (4, [.null, .null, .null, .int 0, .ref q1, .null, .null, .int 0]))] H _ := w
  refine lv_aload_n hx hb d_K_init_12 rfl (lv_at hl 0 rfl) ?_
  refine lv_bipush (v := 126) hx hb d_K_init_13 (by decide) ?_
  refine R_newX (atype := .int) (N := 126) C0 w wd_93 (by decide) (by decide) (by decide) (Nat.le_of_ble_eq_true rfl) (Nat.le_of_ble_eq_true rfl) d_K_init_15 (fun q2 H w => ?_)
  refine W.cs (cells' := 2) (slots' := 136) rfl rfl ?_
  have w : Wd D A s [(h, .inr (4, [.null, .null, .null, .int 0, .ref q1, .null, .null, .int 0]))] H _ := w
  refine R_putF C0 w 0 rfl rfl inK tyK_ok nmK 5 (by decide) wd_231 rfl hin rfl rfl rfl (Nat.le_of_ble_eq_true rfl) d_K_init_17 (fun H locs w => ?_)
  have w : Wd D A s [(h, .inr (4, [.null, .null, .null, .int 0, .ref q1, .ref q2, .null, .int 0]))] H _ := w
  refine lv_aload_n hx hb d_K_init_20 rfl (lv_at hl 0 rfl) ?_
  refine lv_bipush (v := 126) hx hb d_K_init_21 (by decide) ?_
  refine R_newX (atype := .int) (N := 126) C0 w wd_93 (by decide) (by decide) (by decide) (Nat.le_of_ble_eq_true rfl) (Nat.le_of_ble_eq_true rfl) d_K_init_23 (fun q3 H w => ?_)
  refine W.cs (cells' := 3) (slots' := 262) rfl rfl ?_
  have w : Wd D A s [(h, .inr (4, [.null, .null, .null, .int 0, .ref q1, .ref q2, .null, .int 0]))] H _ := w
  refine R_putF C0 w 0 rfl rfl inK tyK_ok nmK 6 (by decide) wd_235 rfl hin rfl rfl rfl (Nat.le_of_ble_eq_true rfl) d_K_init_25 (fun H locs w => ?_)
  have w : Wd D A s [(h, .inr (4, [.null, .null, .null, .int 0, .ref q1, .ref q2, .ref q3, .int 0]))] H _ := w
  refine lv_aload_n hx hb d_K_init_28 rfl (lv_at hl 0 rfl) ?_
  refine lv_aload_n hx hb d_K_init_29 rfl (lv_at hl 1 rfl) ?_
  refine R_putF C0 w 0 rfl rfl inK tyK_ok nmK 0 (by decide) wd_224 rfl hin rfl rfl rfl (Nat.le_of_ble_eq_true rfl) d_K_init_30 (fun H locs w => ?_)
  have w : Wd D A s [(h, .inr (4, [.ref a1, .null, .null, .int 0, .ref q1, .ref q2, .ref q3, .int 0]))] H _ := w
  refine lv_aload_n hx hb d_K_init_33 rfl (lv_at hl 0 rfl) ?_
  refine lv_aload_n hx hb d_K_init_34 rfl (lv_at hl 2 rfl) ?_
  refine R_putF C0 w 0 rfl rfl inK tyK_ok nmK 1 (by decide) wd_225 rfl hin rfl rfl rfl (Nat.le_of_ble_eq_true rfl) d_K_init_35 (fun H locs w => ?_)
  have w : Wd D A s [(h, .inr (4, [.ref a1, .ref a2, .null, .int 0, .ref q1, .ref q2, .ref q3, .int 0]))] H _ := w
  refine lv_aload_n hx hb d_K_init_38 rfl (lv_at hl 0 rfl) ?_
  refine lv_aload_n hx hb d_K_init_39 rfl (lv_at hl 3 rfl) ?_
  refine R_putF C0 w 0 rfl rfl inK tyK_ok nmK 2 (by decide) wd_226 rfl hin rfl rfl rfl (Nat.le_of_ble_eq_true rfl) d_K_init_40 (fun H locs w => ?_)
  have w : Wd D A s [(h, .inr (4, [.ref a1, .ref a2, .ref a3, .int 0, .ref q1, .ref q2, .ref q3, .int 0]))] H _ := w
  exact hret _ _ _ _ d_K_init_43 w.2.2.1 (fun _ _ => trivial)
set_option maxHeartbeats 4000000 in
set_option maxRecDepth 100000 in
theorem c_D_init (l : Launch) (D : va_G) (cI cB cJ : ClassId) (h : Nat) (a1 : Nat) (a2 : Nat) (a3 : Nat) : KV l D cI cB cJ y_D_init b_D_init 4 1 12 2 252 [.ref h, .ref a1, .ref a2, .ref a3] [(h, .inr (5, [.null, .null, .null, .null, .null, .int 0]))] (fun _ _ => True) := by
  refine KV.ofW (by decide) (Nat.le_of_ble_eq_true rfl) ?_
  intro p e s m args below meth c A Q ls C0 hin hl w hret
  have hin : meth.name = "<init>" := hin
  have hx := C0.1
  have hb := C0.2.1
  have hl : lv_has ls 4 [(0, .ref h), (1, .ref a1), (2, .ref a2), (3, .ref a3)] := hl
  refine lv_aload_n hx hb d_D_init_0 rfl (lv_at hl 0 rfl) ?_
  refine W.objInit hx hb C0.2.2.2.1 (C0.2.2.2.2.1 _ wd_261) (C0.2.2.2.2.1 _ wd_23) (C0.2.2.2.2.1 _ wd_24) rfl (by rw [C0.2.2.1]; exact hl.1) rfl d_D_init_1 (Nat.le_of_ble_eq_true rfl) (Nat.le_of_ble_eq_true rfl) ?_
  refine W.eq (g2 := F0 m 4 ls []) rfl ?_
  refine lv_aload_n hx hb d_D_init_4 rfl (lv_at hl 0 rfl) ?_
  refine lv_bipush (v := 126) hx hb d_D_init_5 (by decide) ?_
  refine R_newX (atype := .boolean) (N := 126) C0 w wd_283 (by decide) (by decide) (by decide) (Nat.le_of_ble_eq_true rfl) (Nat.le_of_ble_eq_true rfl) d_D_init_7 (fun q1 H w => ?_)
  refine W.cs (cells' := 1) (slots' := 126) rfl rfl ?_
  have w : Wd D A s [(h, .inr (5, [.null, .null, .null, .null, .null, .int 0]))] H _ := w
  refine R_putF C0 w 0 rfl rfl inD tyD_ok nmD 3 (by decide) wd_265 rfl hin rfl rfl rfl (Nat.le_of_ble_eq_true rfl) d_D_init_9 (fun H locs w => ?_)
  have w : Wd D A s [(h, .inr (5, [.null, .null, .null, .ref q1, .null, .int 0]))] H _ := w
  refine lv_aload_n hx hb d_D_init_12 rfl (lv_at hl 0 rfl) ?_
  refine lv_bipush (v := 126) hx hb d_D_init_13 (by decide) ?_
  refine R_newX (atype := .int) (N := 126) C0 w wd_93 (by decide) (by decide) (by decide) (Nat.le_of_ble_eq_true rfl) (Nat.le_of_ble_eq_true rfl) d_D_init_15 (fun q2 H w => ?_)
  refine W.cs (cells' := 2) (slots' := 252) rfl rfl ?_
  have w : Wd D A s [(h, .inr (5, [.null, .null, .null, .ref q1, .null, .int 0]))] H _ := w
  refine R_putF C0 w 0 rfl rfl inD tyD_ok nmD 4 (by decide) wd_268 rfl hin rfl rfl rfl (Nat.le_of_ble_eq_true rfl) d_D_init_17 (fun H locs w => ?_)
  have w : Wd D A s [(h, .inr (5, [.null, .null, .null, .ref q1, .ref q2, .int 0]))] H _ := w
  refine lv_aload_n hx hb d_D_init_20 rfl (lv_at hl 0 rfl) ?_
  refine lv_aload_n hx hb d_D_init_21 rfl (lv_at hl 1 rfl) ?_
  refine R_putF C0 w 0 rfl rfl inD tyD_ok nmD 0 (by decide) wd_262 rfl hin rfl rfl rfl (Nat.le_of_ble_eq_true rfl) d_D_init_22 (fun H locs w => ?_)
  have w : Wd D A s [(h, .inr (5, [.ref a1, .null, .null, .ref q1, .ref q2, .int 0]))] H _ := w
  refine lv_aload_n hx hb d_D_init_25 rfl (lv_at hl 0 rfl) ?_
  refine lv_aload_n hx hb d_D_init_26 rfl (lv_at hl 2 rfl) ?_
  refine R_putF C0 w 0 rfl rfl inD tyD_ok nmD 1 (by decide) wd_263 rfl hin rfl rfl rfl (Nat.le_of_ble_eq_true rfl) d_D_init_27 (fun H locs w => ?_)
  have w : Wd D A s [(h, .inr (5, [.ref a1, .ref a2, .null, .ref q1, .ref q2, .int 0]))] H _ := w
  refine lv_aload_n hx hb d_D_init_30 rfl (lv_at hl 0 rfl) ?_
  refine lv_aload_n hx hb d_D_init_31 rfl (lv_at hl 3 rfl) ?_
  refine R_putF C0 w 0 rfl rfl inD tyD_ok nmD 2 (by decide) wd_264 rfl hin rfl rfl rfl (Nat.le_of_ble_eq_true rfl) d_D_init_32 (fun H locs w => ?_)
  have w : Wd D A s [(h, .inr (5, [.ref a1, .ref a2, .ref a3, .ref q1, .ref q2, .int 0]))] H _ := w
  exact hret _ _ _ _ d_D_init_35 w.2.2.1 (fun _ _ => trivial)
set_option maxHeartbeats 4000000 in
set_option maxRecDepth 100000 in
theorem c_A_init (l : Launch) (D : va_G) (cI cB cJ : ClassId) (h : Nat) (a1 : Nat) (a2 : Nat) (a3 : Nat) (a4 : Nat) : KV l D cI cB cJ y_A_init b_A_init 5 1 12 5 194 [.ref h, .ref a1, .ref a2, .ref a3, .ref a4] [(h, .inr (6, [.null, .null, .null, .null, .int 0, .null, .null, .null, .null, .int 0, .null, .int 0, .int 0, .int 0]))] (fun A t => ∃ q : Nat → Nat, CE D (wA cI h q) A t) := by
  refine KV.ofW (by decide) (Nat.le_of_ble_eq_true rfl) ?_
  intro p e s m args below meth c A Q ls C0 hin hl w hret
  have hin : meth.name = "<init>" := hin
  have hx := C0.1
  have hb := C0.2.1
  have hl : lv_has ls 5 [(0, .ref h), (1, .ref a1), (2, .ref a2), (3, .ref a3), (4, .ref a4)] := hl
  refine lv_aload_n hx hb d_A_init_0 rfl (lv_at hl 0 rfl) ?_
  refine W.objInit hx hb C0.2.2.2.1 (C0.2.2.2.2.1 _ wd_289) (C0.2.2.2.2.1 _ wd_23) (C0.2.2.2.2.1 _ wd_24) rfl (by rw [C0.2.2.1]; exact hl.1) rfl d_A_init_1 (Nat.le_of_ble_eq_true rfl) (Nat.le_of_ble_eq_true rfl) ?_
  refine W.eq (g2 := F0 m 4 ls []) rfl ?_
  refine lv_aload_n hx hb d_A_init_4 rfl (lv_at hl 0 rfl) ?_
  refine lv_bipush (v := 16) hx hb d_A_init_5 (by decide) ?_
  refine R_newI (N := 16) C0 w wd_93 (by decide) (by decide) (by decide) (Nat.le_of_ble_eq_true rfl) (Nat.le_of_ble_eq_true rfl) d_A_init_7 (fun q1 H w => ?_)
  refine W.cs (cells' := 1) (slots' := 16) rfl rfl ?_
  have w : Wd D A s [(h, .inr (6, [.null, .null, .null, .null, .int 0, .null, .null, .null, .null, .int 0, .null, .int 0, .int 0, .int 0])), (q1, .inl (cI, 16, .inl (fun _ => 0)))] H _ := w
  refine R_putF C0 w 0 rfl rfl inA tyA_ok nmA 5 (by decide) wd_296 rfl hin rfl rfl rfl (Nat.le_of_ble_eq_true rfl) d_A_init_9 (fun H locs w => ?_)
  have w : Wd D A s [(h, .inr (6, [.null, .null, .null, .null, .int 0, .ref q1, .null, .null, .null, .int 0, .null, .int 0, .int 0, .int 0])), (q1, .inl (cI, 16, .inl (fun _ => 0)))] H _ := w
  refine lv_aload_n hx hb d_A_init_12 rfl (lv_at hl 0 rfl) ?_
  refine lv_bipush (v := 6) hx hb d_A_init_13 (by decide) ?_
  refine R_newX (atype := .int) (N := 6) C0 w wd_93 (by decide) (by decide) (by decide) (Nat.le_of_ble_eq_true rfl) (Nat.le_of_ble_eq_true rfl) d_A_init_15 (fun q2 H w => ?_)
  refine W.cs (cells' := 2) (slots' := 22) rfl rfl ?_
  have w : Wd D A s [(h, .inr (6, [.null, .null, .null, .null, .int 0, .ref q1, .null, .null, .null, .int 0, .null, .int 0, .int 0, .int 0])), (q1, .inl (cI, 16, .inl (fun _ => 0)))] H _ := w
  refine R_putF C0 w 0 rfl rfl inA tyA_ok nmA 6 (by decide) wd_297 rfl hin rfl rfl rfl (Nat.le_of_ble_eq_true rfl) d_A_init_17 (fun H locs w => ?_)
  have w : Wd D A s [(h, .inr (6, [.null, .null, .null, .null, .int 0, .ref q1, .ref q2, .null, .null, .int 0, .null, .int 0, .int 0, .int 0])), (q1, .inl (cI, 16, .inl (fun _ => 0)))] H _ := w
  refine lv_aload_n hx hb d_A_init_20 rfl (lv_at hl 0 rfl) ?_
  refine lv_bipush (v := 126) hx hb d_A_init_21 (by decide) ?_
  refine R_newX (atype := .int) (N := 126) C0 w wd_93 (by decide) (by decide) (by decide) (Nat.le_of_ble_eq_true rfl) (Nat.le_of_ble_eq_true rfl) d_A_init_23 (fun q3 H w => ?_)
  refine W.cs (cells' := 3) (slots' := 148) rfl rfl ?_
  have w : Wd D A s [(h, .inr (6, [.null, .null, .null, .null, .int 0, .ref q1, .ref q2, .null, .null, .int 0, .null, .int 0, .int 0, .int 0])), (q1, .inl (cI, 16, .inl (fun _ => 0)))] H _ := w
  refine R_putF C0 w 0 rfl rfl inA tyA_ok nmA 7 (by decide) wd_298 rfl hin rfl rfl rfl (Nat.le_of_ble_eq_true rfl) d_A_init_25 (fun H locs w => ?_)
  have w : Wd D A s [(h, .inr (6, [.null, .null, .null, .null, .int 0, .ref q1, .ref q2, .ref q3, .null, .int 0, .null, .int 0, .int 0, .int 0])), (q1, .inl (cI, 16, .inl (fun _ => 0)))] H _ := w
  refine lv_aload_n hx hb d_A_init_28 rfl (lv_at hl 0 rfl) ?_
  refine lv_bipush (v := 6) hx hb d_A_init_29 (by decide) ?_
  refine R_newX (atype := .int) (N := 6) C0 w wd_93 (by decide) (by decide) (by decide) (Nat.le_of_ble_eq_true rfl) (Nat.le_of_ble_eq_true rfl) d_A_init_31 (fun q4 H w => ?_)
  refine W.cs (cells' := 4) (slots' := 154) rfl rfl ?_
  have w : Wd D A s [(h, .inr (6, [.null, .null, .null, .null, .int 0, .ref q1, .ref q2, .ref q3, .null, .int 0, .null, .int 0, .int 0, .int 0])), (q1, .inl (cI, 16, .inl (fun _ => 0)))] H _ := w
  refine R_putF C0 w 0 rfl rfl inA tyA_ok nmA 8 (by decide) wd_299 rfl hin rfl rfl rfl (Nat.le_of_ble_eq_true rfl) d_A_init_33 (fun H locs w => ?_)
  have w : Wd D A s [(h, .inr (6, [.null, .null, .null, .null, .int 0, .ref q1, .ref q2, .ref q3, .ref q4, .int 0, .null, .int 0, .int 0, .int 0])), (q1, .inl (cI, 16, .inl (fun _ => 0)))] H _ := w
  refine lv_aload_n hx hb d_A_init_36 rfl (lv_at hl 0 rfl) ?_
  refine lv_bipush (v := 40) hx hb d_A_init_37 (by decide) ?_
  refine R_newX (atype := .int) (N := 40) C0 w wd_93 (by decide) (by decide) (by decide) (Nat.le_of_ble_eq_true rfl) (Nat.le_of_ble_eq_true rfl) d_A_init_39 (fun q5 H w => ?_)
  refine W.cs (cells' := 5) (slots' := 194) rfl rfl ?_
  have w : Wd D A s [(h, .inr (6, [.null, .null, .null, .null, .int 0, .ref q1, .ref q2, .ref q3, .ref q4, .int 0, .null, .int 0, .int 0, .int 0])), (q1, .inl (cI, 16, .inl (fun _ => 0)))] H _ := w
  refine R_putF C0 w 0 rfl rfl inA tyA_ok nmA 10 (by decide) wd_302 rfl hin rfl rfl rfl (Nat.le_of_ble_eq_true rfl) d_A_init_41 (fun H locs w => ?_)
  have w : Wd D A s [(h, .inr (6, [.null, .null, .null, .null, .int 0, .ref q1, .ref q2, .ref q3, .ref q4, .int 0, .ref q5, .int 0, .int 0, .int 0])), (q1, .inl (cI, 16, .inl (fun _ => 0)))] H _ := w
  refine lv_aload_n hx hb d_A_init_44 rfl (lv_at hl 0 rfl) ?_
  refine lv_aload_n hx hb d_A_init_45 rfl (lv_at hl 1 rfl) ?_
  refine R_putF C0 w 0 rfl rfl inA tyA_ok nmA 0 (by decide) wd_290 rfl hin rfl rfl rfl (Nat.le_of_ble_eq_true rfl) d_A_init_46 (fun H locs w => ?_)
  have w : Wd D A s [(h, .inr (6, [.ref a1, .null, .null, .null, .int 0, .ref q1, .ref q2, .ref q3, .ref q4, .int 0, .ref q5, .int 0, .int 0, .int 0])), (q1, .inl (cI, 16, .inl (fun _ => 0)))] H _ := w
  refine lv_aload_n hx hb d_A_init_49 rfl (lv_at hl 0 rfl) ?_
  refine lv_aload_n hx hb d_A_init_50 rfl (lv_at hl 2 rfl) ?_
  refine R_putF C0 w 0 rfl rfl inA tyA_ok nmA 1 (by decide) wd_291 rfl hin rfl rfl rfl (Nat.le_of_ble_eq_true rfl) d_A_init_51 (fun H locs w => ?_)
  have w : Wd D A s [(h, .inr (6, [.ref a1, .ref a2, .null, .null, .int 0, .ref q1, .ref q2, .ref q3, .ref q4, .int 0, .ref q5, .int 0, .int 0, .int 0])), (q1, .inl (cI, 16, .inl (fun _ => 0)))] H _ := w
  refine lv_aload_n hx hb d_A_init_54 rfl (lv_at hl 0 rfl) ?_
  refine lv_aload_n hx hb d_A_init_55 rfl (lv_at hl 3 rfl) ?_
  refine R_putF C0 w 0 rfl rfl inA tyA_ok nmA 2 (by decide) wd_292 rfl hin rfl rfl rfl (Nat.le_of_ble_eq_true rfl) d_A_init_56 (fun H locs w => ?_)
  have w : Wd D A s [(h, .inr (6, [.ref a1, .ref a2, .ref a3, .null, .int 0, .ref q1, .ref q2, .ref q3, .ref q4, .int 0, .ref q5, .int 0, .int 0, .int 0])), (q1, .inl (cI, 16, .inl (fun _ => 0)))] H _ := w
  refine lv_aload_n hx hb d_A_init_59 rfl (lv_at hl 0 rfl) ?_
  refine lv_aload hx hb d_A_init_60 (lv_at hl 4 rfl) ?_
  refine R_putF C0 w 0 rfl rfl inA tyA_ok nmA 3 (by decide) wd_293 rfl hin rfl rfl rfl (Nat.le_of_ble_eq_true rfl) d_A_init_62 (fun H locs w => ?_)
  have w : Wd D A s [(h, .inr (6, [.ref a1, .ref a2, .ref a3, .ref a4, .int 0, .ref q1, .ref q2, .ref q3, .ref q4, .int 0, .ref q5, .int 0, .int 0, .int 0])), (q1, .inl (cI, 16, .inl (fun _ => 0)))] H _ := w
  exact hret _ _ _ _ d_A_init_65 w.2.2.1 (fun t ht => ⟨fun k => [a1, a2, a3, a4, 0, q1, q2, q3, q4, 0, q5, 0, 0, 0].getD k 0, by rw [ht]; exact (w.sub [0, 1] rfl rfl).1, (w.sub [0, 1] rfl rfl).2.1⟩)
set_option maxHeartbeats 4000000 in
set_option maxRecDepth 100000 in
theorem c_R_init (l : Launch) (D : va_G) (cI cB cJ : ClassId) (h : Nat) : KV l D cI cB cJ y_R_init b_R_init 1 1 12 30 1504 [.ref h] [(h, .inr (7, [.int 0, .int 0, .null, .null, .null, .null, .null, .null, .null, .null, .null, .int 0, .int 0, .null, .null, .null, .null, .int 0, .null, .null, .null, .null, .null, .null, .null, .null, .null, .int 0, .null, .null, .null, .null, .int 0, .null, .int 0, .int 0, .null, .int 0, .int 0, .null, .null]))] (fun A t => ∃ q : Nat → Nat, CE D (wR cI h q) A t) := by
  refine KV.ofW (by decide) (Nat.le_of_ble_eq_true rfl) ?_
  intro p e s m args below meth c A Q ls C0 hin hl w hret
  have hin : meth.name = "<init>" := hin
  have hx := C0.1
  have hb := C0.2.1
  have hl : lv_has ls 1 [(0, .ref h)] := hl
  refine lv_aload_n hx hb d_R_init_0 rfl (lv_at hl 0 rfl) ?_
  refine W.objInit hx hb C0.2.2.2.1 (C0.2.2.2.2.1 _ wd_827) (C0.2.2.2.2.1 _ wd_23) (C0.2.2.2.2.1 _ wd_24) rfl (by rw [C0.2.2.1]; exact hl.1) rfl d_R_init_1 (Nat.le_of_ble_eq_true rfl) (Nat.le_of_ble_eq_true rfl) ?_
  refine W.eq (g2 := F0 m 4 ls []) rfl ?_
  refine lv_aload_n hx hb d_R_init_4 rfl (lv_at hl 0 rfl) ?_
  refine lv_bipush (v := 10) hx hb d_R_init_5 (by decide) ?_
  refine R_newI (N := 10) C0 w wd_93 (by decide) (by decide) (by decide) (Nat.le_of_ble_eq_true rfl) (Nat.le_of_ble_eq_true rfl) d_R_init_7 (fun q1 H w => ?_)
  refine W.cs (cells' := 1) (slots' := 10) rfl rfl ?_
  have w : Wd D A s [(h, .inr (7, [.int 0, .int 0, .null, .null, .null, .null, .null, .null, .null, .null, .null, .int 0, .int 0, .null, .null, .null, .null, .int 0, .null, .null, .null, .null, .null, .null, .null, .null, .null, .int 0, .null, .null, .null, .null, .int 0, .null, .int 0, .int 0, .null, .int 0, .int 0, .null, .null])), (q1, .inl (cI, 10, .inl (fun _ => 0)))] H _ := w
  refine R_putF C0 w 0 rfl rfl inR tyR_ok nmR 2 (by decide) wd_830 rfl hin rfl rfl rfl (Nat.le_of_ble_eq_true rfl) d_R_init_9 (fun H locs w => ?_)
  have w : Wd D A s [(h, .inr (7, [.int 0, .int 0, .ref q1, .null, .null, .null, .null, .null, .null, .null, .null, .int 0, .int 0, .null, .null, .null, .null, .int 0, .null, .null, .null, .null, .null, .null, .null, .null, .null, .int 0, .null, .null, .null, .null, .int 0, .null, .int 0, .int 0, .null, .int 0, .int 0, .null, .null])), (q1, .inl (cI, 10, .inl (fun _ => 0)))] H _ := w
  refine lv_aload_n hx hb d_R_init_12 rfl (lv_at hl 0 rfl) ?_
  refine lv_bipush (v := 60) hx hb d_R_init_13 (by decide) ?_
  refine R_newX (atype := .int) (N := 60) C0 w wd_93 (by decide) (by decide) (by decide) (Nat.le_of_ble_eq_true rfl) (Nat.le_of_ble_eq_true rfl) d_R_init_15 (fun q2 H w => ?_)
  refine W.cs (cells' := 2) (slots' := 70) rfl rfl ?_
  have w : Wd D A s [(h, .inr (7, [.int 0, .int 0, .ref q1, .null, .null, .null, .null, .null, .null, .null, .null, .int 0, .int 0, .null, .null, .null, .null, .int 0, .null, .null, .null, .null, .null, .null, .null, .null, .null, .int 0, .null, .null, .null, .null, .int 0, .null, .int 0, .int 0, .null, .int 0, .int 0, .null, .null])), (q1, .inl (cI, 10, .inl (fun _ => 0)))] H _ := w
  refine R_putF C0 w 0 rfl rfl inR tyR_ok nmR 3 (by decide) wd_831 rfl hin rfl rfl rfl (Nat.le_of_ble_eq_true rfl) d_R_init_17 (fun H locs w => ?_)
  have w : Wd D A s [(h, .inr (7, [.int 0, .int 0, .ref q1, .ref q2, .null, .null, .null, .null, .null, .null, .null, .int 0, .int 0, .null, .null, .null, .null, .int 0, .null, .null, .null, .null, .null, .null, .null, .null, .null, .int 0, .null, .null, .null, .null, .int 0, .null, .int 0, .int 0, .null, .int 0, .int 0, .null, .null])), (q1, .inl (cI, 10, .inl (fun _ => 0)))] H _ := w
  refine lv_aload_n hx hb d_R_init_20 rfl (lv_at hl 0 rfl) ?_
  refine lv_bipush (v := 60) hx hb d_R_init_21 (by decide) ?_
  refine R_newX (atype := .int) (N := 60) C0 w wd_93 (by decide) (by decide) (by decide) (Nat.le_of_ble_eq_true rfl) (Nat.le_of_ble_eq_true rfl) d_R_init_23 (fun q3 H w => ?_)
  refine W.cs (cells' := 3) (slots' := 130) rfl rfl ?_
  have w : Wd D A s [(h, .inr (7, [.int 0, .int 0, .ref q1, .ref q2, .null, .null, .null, .null, .null, .null, .null, .int 0, .int 0, .null, .null, .null, .null, .int 0, .null, .null, .null, .null, .null, .null, .null, .null, .null, .int 0, .null, .null, .null, .null, .int 0, .null, .int 0, .int 0, .null, .int 0, .int 0, .null, .null])), (q1, .inl (cI, 10, .inl (fun _ => 0)))] H _ := w
  refine R_putF C0 w 0 rfl rfl inR tyR_ok nmR 4 (by decide) wd_832 rfl hin rfl rfl rfl (Nat.le_of_ble_eq_true rfl) d_R_init_25 (fun H locs w => ?_)
  have w : Wd D A s [(h, .inr (7, [.int 0, .int 0, .ref q1, .ref q2, .ref q3, .null, .null, .null, .null, .null, .null, .int 0, .int 0, .null, .null, .null, .null, .int 0, .null, .null, .null, .null, .null, .null, .null, .null, .null, .int 0, .null, .null, .null, .null, .int 0, .null, .int 0, .int 0, .null, .int 0, .int 0, .null, .null])), (q1, .inl (cI, 10, .inl (fun _ => 0)))] H _ := w
  refine lv_aload_n hx hb d_R_init_28 rfl (lv_at hl 0 rfl) ?_
  refine lv_bipush (v := 60) hx hb d_R_init_29 (by decide) ?_
  refine R_newX (atype := .int) (N := 60) C0 w wd_93 (by decide) (by decide) (by decide) (Nat.le_of_ble_eq_true rfl) (Nat.le_of_ble_eq_true rfl) d_R_init_31 (fun q4 H w => ?_)
  refine W.cs (cells' := 4) (slots' := 190) rfl rfl ?_
  have w : Wd D A s [(h, .inr (7, [.int 0, .int 0, .ref q1, .ref q2, .ref q3, .null, .null, .null, .null, .null, .null, .int 0, .int 0, .null, .null, .null, .null, .int 0, .null, .null, .null, .null, .null, .null, .null, .null, .null, .int 0, .null, .null, .null, .null, .int 0, .null, .int 0, .int 0, .null, .int 0, .int 0, .null, .null])), (q1, .inl (cI, 10, .inl (fun _ => 0)))] H _ := w
  refine R_putF C0 w 0 rfl rfl inR tyR_ok nmR 5 (by decide) wd_833 rfl hin rfl rfl rfl (Nat.le_of_ble_eq_true rfl) d_R_init_33 (fun H locs w => ?_)
  have w : Wd D A s [(h, .inr (7, [.int 0, .int 0, .ref q1, .ref q2, .ref q3, .ref q4, .null, .null, .null, .null, .null, .int 0, .int 0, .null, .null, .null, .null, .int 0, .null, .null, .null, .null, .null, .null, .null, .null, .null, .int 0, .null, .null, .null, .null, .int 0, .null, .int 0, .int 0, .null, .int 0, .int 0, .null, .null])), (q1, .inl (cI, 10, .inl (fun _ => 0)))] H _ := w
  refine lv_aload_n hx hb d_R_init_36 rfl (lv_at hl 0 rfl) ?_
  refine lv_bipush (v := 60) hx hb d_R_init_37 (by decide) ?_
  refine R_newX (atype := .int) (N := 60) C0 w wd_93 (by decide) (by decide) (by decide) (Nat.le_of_ble_eq_true rfl) (Nat.le_of_ble_eq_true rfl) d_R_init_39 (fun q5 H w => ?_)
  refine W.cs (cells' := 5) (slots' := 250) rfl rfl ?_
  have w : Wd D A s [(h, .inr (7, [.int 0, .int 0, .ref q1, .ref q2, .ref q3, .ref q4, .null, .null, .null, .null, .null, .int 0, .int 0, .null, .null, .null, .null, .int 0, .null, .null, .null, .null, .null, .null, .null, .null, .null, .int 0, .null, .null, .null, .null, .int 0, .null, .int 0, .int 0, .null, .int 0, .int 0, .null, .null])), (q1, .inl (cI, 10, .inl (fun _ => 0)))] H _ := w
  refine R_putF C0 w 0 rfl rfl inR tyR_ok nmR 6 (by decide) wd_834 rfl hin rfl rfl rfl (Nat.le_of_ble_eq_true rfl) d_R_init_41 (fun H locs w => ?_)
  have w : Wd D A s [(h, .inr (7, [.int 0, .int 0, .ref q1, .ref q2, .ref q3, .ref q4, .ref q5, .null, .null, .null, .null, .int 0, .int 0, .null, .null, .null, .null, .int 0, .null, .null, .null, .null, .null, .null, .null, .null, .null, .int 0, .null, .null, .null, .null, .int 0, .null, .int 0, .int 0, .null, .int 0, .int 0, .null, .null])), (q1, .inl (cI, 10, .inl (fun _ => 0)))] H _ := w
  refine lv_aload_n hx hb d_R_init_44 rfl (lv_at hl 0 rfl) ?_
  refine lv_bipush (v := 10) hx hb d_R_init_45 (by decide) ?_
  refine R_newI (N := 10) C0 w wd_93 (by decide) (by decide) (by decide) (Nat.le_of_ble_eq_true rfl) (Nat.le_of_ble_eq_true rfl) d_R_init_47 (fun q6 H w => ?_)
  refine W.cs (cells' := 6) (slots' := 260) rfl rfl ?_
  have w : Wd D A s [(h, .inr (7, [.int 0, .int 0, .ref q1, .ref q2, .ref q3, .ref q4, .ref q5, .null, .null, .null, .null, .int 0, .int 0, .null, .null, .null, .null, .int 0, .null, .null, .null, .null, .null, .null, .null, .null, .null, .int 0, .null, .null, .null, .null, .int 0, .null, .int 0, .int 0, .null, .int 0, .int 0, .null, .null])), (q1, .inl (cI, 10, .inl (fun _ => 0))), (q6, .inl (cI, 10, .inl (fun _ => 0)))] H _ := w
  refine R_putF C0 w 0 rfl rfl inR tyR_ok nmR 7 (by decide) wd_835 rfl hin rfl rfl rfl (Nat.le_of_ble_eq_true rfl) d_R_init_49 (fun H locs w => ?_)
  have w : Wd D A s [(h, .inr (7, [.int 0, .int 0, .ref q1, .ref q2, .ref q3, .ref q4, .ref q5, .ref q6, .null, .null, .null, .int 0, .int 0, .null, .null, .null, .null, .int 0, .null, .null, .null, .null, .null, .null, .null, .null, .null, .int 0, .null, .null, .null, .null, .int 0, .null, .int 0, .int 0, .null, .int 0, .int 0, .null, .null])), (q1, .inl (cI, 10, .inl (fun _ => 0))), (q6, .inl (cI, 10, .inl (fun _ => 0)))] H _ := w
  refine lv_aload_n hx hb d_R_init_52 rfl (lv_at hl 0 rfl) ?_
  refine lv_bipush (v := 10) hx hb d_R_init_53 (by decide) ?_
  refine R_newX (atype := .int) (N := 10) C0 w wd_93 (by decide) (by decide) (by decide) (Nat.le_of_ble_eq_true rfl) (Nat.le_of_ble_eq_true rfl) d_R_init_55 (fun q7 H w => ?_)
  refine W.cs (cells' := 7) (slots' := 270) rfl rfl ?_
  have w : Wd D A s [(h, .inr (7, [.int 0, .int 0, .ref q1, .ref q2, .ref q3, .ref q4, .ref q5, .ref q6, .null, .null, .null, .int 0, .int 0, .null, .null, .null, .null, .int 0, .null, .null, .null, .null, .null, .null, .null, .null, .null, .int 0, .null, .null, .null, .null, .int 0, .null, .int 0, .int 0, .null, .int 0, .int 0, .null, .null])), (q1, .inl (cI, 10, .inl (fun _ => 0))), (q6, .inl (cI, 10, .inl (fun _ => 0)))] H _ := w
  refine R_putF C0 w 0 rfl rfl inR tyR_ok nmR 8 (by decide) wd_836 rfl hin rfl rfl rfl (Nat.le_of_ble_eq_true rfl) d_R_init_57 (fun H locs w => ?_)
  have w : Wd D A s [(h, .inr (7, [.int 0, .int 0, .ref q1, .ref q2, .ref q3, .ref q4, .ref q5, .ref q6, .ref q7, .null, .null, .int 0, .int 0, .null, .null, .null, .null, .int 0, .null, .null, .null, .null, .null, .null, .null, .null, .null, .int 0, .null, .null, .null, .null, .int 0, .null, .int 0, .int 0, .null, .int 0, .int 0, .null, .null])), (q1, .inl (cI, 10, .inl (fun _ => 0))), (q6, .inl (cI, 10, .inl (fun _ => 0)))] H _ := w
  refine lv_aload_n hx hb d_R_init_60 rfl (lv_at hl 0 rfl) ?_
  refine lv_bipush (v := 10) hx hb d_R_init_61 (by decide) ?_
  refine R_newX (atype := .int) (N := 10) C0 w wd_93 (by decide) (by decide) (by decide) (Nat.le_of_ble_eq_true rfl) (Nat.le_of_ble_eq_true rfl) d_R_init_63 (fun q8 H w => ?_)
  refine W.cs (cells' := 8) (slots' := 280) rfl rfl ?_
  have w : Wd D A s [(h, .inr (7, [.int 0, .int 0, .ref q1, .ref q2, .ref q3, .ref q4, .ref q5, .ref q6, .ref q7, .null, .null, .int 0, .int 0, .null, .null, .null, .null, .int 0, .null, .null, .null, .null, .null, .null, .null, .null, .null, .int 0, .null, .null, .null, .null, .int 0, .null, .int 0, .int 0, .null, .int 0, .int 0, .null, .null])), (q1, .inl (cI, 10, .inl (fun _ => 0))), (q6, .inl (cI, 10, .inl (fun _ => 0)))] H _ := w
  refine R_putF C0 w 0 rfl rfl inR tyR_ok nmR 9 (by decide) wd_837 rfl hin rfl rfl rfl (Nat.le_of_ble_eq_true rfl) d_R_init_65 (fun H locs w => ?_)
  have w : Wd D A s [(h, .inr (7, [.int 0, .int 0, .ref q1, .ref q2, .ref q3, .ref q4, .ref q5, .ref q6, .ref q7, .ref q8, .null, .int 0, .int 0, .null, .null, .null, .null, .int 0, .null, .null, .null, .null, .null, .null, .null, .null, .null, .int 0, .null, .null, .null, .null, .int 0, .null, .int 0, .int 0, .null, .int 0, .int 0, .null, .null])), (q1, .inl (cI, 10, .inl (fun _ => 0))), (q6, .inl (cI, 10, .inl (fun _ => 0)))] H _ := w
  refine lv_aload_n hx hb d_R_init_68 rfl (lv_at hl 0 rfl) ?_
  refine lv_bipush (v := 10) hx hb d_R_init_69 (by decide) ?_
  refine R_newX (atype := .int) (N := 10) C0 w wd_93 (by decide) (by decide) (by decide) (Nat.le_of_ble_eq_true rfl) (Nat.le_of_ble_eq_true rfl) d_R_init_71 (fun q9 H w => ?_)
  refine W.cs (cells' := 9) (slots' := 290) rfl rfl ?_
  have w : Wd D A s [(h, .inr (7, [.int 0, .int 0, .ref q1, .ref q2, .ref q3, .ref q4, .ref q5, .ref q6, .ref q7, .ref q8, .null, .int 0, .int 0, .null, .null, .null, .null, .int 0, .null, .null, .null, .null, .null, .null, .null, .null, .null, .int 0, .null, .null, .null, .null, .int 0, .null, .int 0, .int 0, .null, .int 0, .int 0, .null, .null])), (q1, .inl (cI, 10, .inl (fun _ => 0))), (q6, .inl (cI, 10, .inl (fun _ => 0)))] H _ := w
  refine R_putF C0 w 0 rfl rfl inR tyR_ok nmR 10 (by decide) wd_838 rfl hin rfl rfl rfl (Nat.le_of_ble_eq_true rfl) d_R_init_73 (fun H locs w => ?_)
  have w : Wd D A s [(h, .inr (7, [.int 0, .int 0, .ref q1, .ref q2, .ref q3, .ref q4, .ref q5, .ref q6, .ref q7, .ref q8, .ref q9, .int 0, .int 0, .null, .null, .null, .null, .int 0, .null, .null, .null, .null, .null, .null, .null, .null, .null, .int 0, .null, .null, .null, .null, .int 0, .null, .int 0, .int 0, .null, .int 0, .int 0, .null, .null])), (q1, .inl (cI, 10, .inl (fun _ => 0))), (q6, .inl (cI, 10, .inl (fun _ => 0)))] H _ := w
  refine lv_aload_n hx hb d_R_init_76 rfl (lv_at hl 0 rfl) ?_
  refine lv_bipush (v := 10) hx hb d_R_init_77 (by decide) ?_
  refine R_newX (atype := .int) (N := 10) C0 w wd_93 (by decide) (by decide) (by decide) (Nat.le_of_ble_eq_true rfl) (Nat.le_of_ble_eq_true rfl) d_R_init_79 (fun q10 H w => ?_)
  refine W.cs (cells' := 10) (slots' := 300) rfl rfl ?_
  have w : Wd D A s [(h, .inr (7, [.int 0, .int 0, .ref q1, .ref q2, .ref q3, .ref q4, .ref q5, .ref q6, .ref q7, .ref q8, .ref q9, .int 0, .int 0, .null, .null, .null, .null, .int 0, .null, .null, .null, .null, .null, .null, .null, .null, .null, .int 0, .null, .null, .null, .null, .int 0, .null, .int 0, .int 0, .null, .int 0, .int 0, .null, .null])), (q1, .inl (cI, 10, .inl (fun _ => 0))), (q6, .inl (cI, 10, .inl (fun _ => 0)))] H _ := w
  refine R_putF C0 w 0 rfl rfl inR tyR_ok nmR 13 (by decide) wd_841 rfl hin rfl rfl rfl (Nat.le_of_ble_eq_true rfl) d_R_init_81 (fun H locs w => ?_)
  have w : Wd D A s [(h, .inr (7, [.int 0, .int 0, .ref q1, .ref q2, .ref q3, .ref q4, .ref q5, .ref q6, .ref q7, .ref q8, .ref q9, .int 0, .int 0, .ref q10, .null, .null, .null, .int 0, .null, .null, .null, .null, .null, .null, .null, .null, .null, .int 0, .null, .null, .null, .null, .int 0, .null, .int 0, .int 0, .null, .int 0, .int 0, .null, .null])), (q1, .inl (cI, 10, .inl (fun _ => 0))), (q6, .inl (cI, 10, .inl (fun _ => 0)))] H _ := w
  refine lv_aload_n hx hb d_R_init_84 rfl (lv_at hl 0 rfl) ?_
  refine lv_bipush (v := 10) hx hb d_R_init_85 (by decide) ?_
  refine R_newX (atype := .int) (N := 10) C0 w wd_93 (by decide) (by decide) (by decide) (Nat.le_of_ble_eq_true rfl) (Nat.le_of_ble_eq_true rfl) d_R_init_87 (fun q11 H w => ?_)
  refine W.cs (cells' := 11) (slots' := 310) rfl rfl ?_
  have w : Wd D A s [(h, .inr (7, [.int 0, .int 0, .ref q1, .ref q2, .ref q3, .ref q4, .ref q5, .ref q6, .ref q7, .ref q8, .ref q9, .int 0, .int 0, .ref q10, .null, .null, .null, .int 0, .null, .null, .null, .null, .null, .null, .null, .null, .null, .int 0, .null, .null, .null, .null, .int 0, .null, .int 0, .int 0, .null, .int 0, .int 0, .null, .null])), (q1, .inl (cI, 10, .inl (fun _ => 0))), (q6, .inl (cI, 10, .inl (fun _ => 0)))] H _ := w
  refine R_putF C0 w 0 rfl rfl inR tyR_ok nmR 14 (by decide) wd_842 rfl hin rfl rfl rfl (Nat.le_of_ble_eq_true rfl) d_R_init_89 (fun H locs w => ?_)
  have w : Wd D A s [(h, .inr (7, [.int 0, .int 0, .ref q1, .ref q2, .ref q3, .ref q4, .ref q5, .ref q6, .ref q7, .ref q8, .ref q9, .int 0, .int 0, .ref q10, .ref q11, .null, .null, .int 0, .null, .null, .null, .null, .null, .null, .null, .null, .null, .int 0, .null, .null, .null, .null, .int 0, .null, .int 0, .int 0, .null, .int 0, .int 0, .null, .null])), (q1, .inl (cI, 10, .inl (fun _ => 0))), (q6, .inl (cI, 10, .inl (fun _ => 0)))] H _ := w
  refine lv_aload_n hx hb d_R_init_92 rfl (lv_at hl 0 rfl) ?_
  refine lv_bipush (v := 10) hx hb d_R_init_93 (by decide) ?_
  refine R_newX (atype := .int) (N := 10) C0 w wd_93 (by decide) (by decide) (by decide) (Nat.le_of_ble_eq_true rfl) (Nat.le_of_ble_eq_true rfl) d_R_init_95 (fun q12 H w => ?_)
  refine W.cs (cells' := 12) (slots' := 320) rfl rfl ?_
  have w : Wd D A s [(h, .inr (7, [.int 0, .int 0, .ref q1, .ref q2, .ref q3, .ref q4, .ref q5, .ref q6, .ref q7, .ref q8, .ref q9, .int 0, .int 0, .ref q10, .ref q11, .null, .null, .int 0, .null, .null, .null, .null, .null, .null, .null, .null, .null, .int 0, .null, .null, .null, .null, .int 0, .null, .int 0, .int 0, .null, .int 0, .int 0, .null, .null])), (q1, .inl (cI, 10, .inl (fun _ => 0))), (q6, .inl (cI, 10, .inl (fun _ => 0)))] H _ := w
  refine R_putF C0 w 0 rfl rfl inR tyR_ok nmR 15 (by decide) wd_843 rfl hin rfl rfl rfl (Nat.le_of_ble_eq_true rfl) d_R_init_97 (fun H locs w => ?_)
  have w : Wd D A s [(h, .inr (7, [.int 0, .int 0, .ref q1, .ref q2, .ref q3, .ref q4, .ref q5, .ref q6, .ref q7, .ref q8, .ref q9, .int 0, .int 0, .ref q10, .ref q11, .ref q12, .null, .int 0, .null, .null, .null, .null, .null, .null, .null, .null, .null, .int 0, .null, .null, .null, .null, .int 0, .null, .int 0, .int 0, .null, .int 0, .int 0, .null, .null])), (q1, .inl (cI, 10, .inl (fun _ => 0))), (q6, .inl (cI, 10, .inl (fun _ => 0)))] H _ := w
  refine lv_aload_n hx hb d_R_init_100 rfl (lv_at hl 0 rfl) ?_
  refine lv_bipush (v := 10) hx hb d_R_init_101 (by decide) ?_
  refine R_newX (atype := .int) (N := 10) C0 w wd_93 (by decide) (by decide) (by decide) (Nat.le_of_ble_eq_true rfl) (Nat.le_of_ble_eq_true rfl) d_R_init_103 (fun q13 H w => ?_)
  refine W.cs (cells' := 13) (slots' := 330) rfl rfl ?_
  have w : Wd D A s [(h, .inr (7, [.int 0, .int 0, .ref q1, .ref q2, .ref q3, .ref q4, .ref q5, .ref q6, .ref q7, .ref q8, .ref q9, .int 0, .int 0, .ref q10, .ref q11, .ref q12, .null, .int 0, .null, .null, .null, .null, .null, .null, .null, .null, .null, .int 0, .null, .null, .null, .null, .int 0, .null, .int 0, .int 0, .null, .int 0, .int 0, .null, .null])), (q1, .inl (cI, 10, .inl (fun _ => 0))), (q6, .inl (cI, 10, .inl (fun _ => 0)))] H _ := w
  refine R_putF C0 w 0 rfl rfl inR tyR_ok nmR 16 (by decide) wd_844 rfl hin rfl rfl rfl (Nat.le_of_ble_eq_true rfl) d_R_init_105 (fun H locs w => ?_)
  have w : Wd D A s [(h, .inr (7, [.int 0, .int 0, .ref q1, .ref q2, .ref q3, .ref q4, .ref q5, .ref q6, .ref q7, .ref q8, .ref q9, .int 0, .int 0, .ref q10, .ref q11, .ref q12, .ref q13, .int 0, .null, .null, .null, .null, .null, .null, .null, .null, .null, .int 0, .null, .null, .null, .null, .int 0, .null, .int 0, .int 0, .null, .int 0, .int 0, .null, .null])), (q1, .inl (cI, 10, .inl (fun _ => 0))), (q6, .inl (cI, 10, .inl (fun _ => 0)))] H _ := w
  refine lv_aload_n hx hb d_R_init_108 rfl (lv_at hl 0 rfl) ?_
  refine lv_sipush (v := 130) hx hb d_R_init_109 (by decide) ?_
  refine R_newX (atype := .int) (N := 130) C0 w wd_93 (by decide) (by decide) (by decide) (Nat.le_of_ble_eq_true rfl) (Nat.le_of_ble_eq_true rfl) d_R_init_112 (fun q14 H w => ?_)
  refine W.cs (cells' := 14) (slots' := 460) rfl rfl ?_
  have w : Wd D A s [(h, .inr (7, [.int 0, .int 0, .ref q1, .ref q2, .ref q3, .ref q4, .ref q5, .ref q6, .ref q7, .ref q8, .ref q9, .int 0, .int 0, .ref q10, .ref q11, .ref q12, .ref q13, .int 0, .null, .null, .null, .null, .null, .null, .null, .null, .null, .int 0, .null, .null, .null, .null, .int 0, .null, .int 0, .int 0, .null, .int 0, .int 0, .null, .null])), (q1, .inl (cI, 10, .inl (fun _ => 0))), (q6, .inl (cI, 10, .inl (fun _ => 0)))] H _ := w
  refine R_putF C0 w 0 rfl rfl inR tyR_ok nmR 18 (by decide) wd_846 rfl hin rfl rfl rfl (Nat.le_of_ble_eq_true rfl) d_R_init_114 (fun H locs w => ?_)
  have w : Wd D A s [(h, .inr (7, [.int 0, .int 0, .ref q1, .ref q2, .ref q3, .ref q4, .ref q5, .ref q6, .ref q7, .ref q8, .ref q9, .int 0, .int 0, .ref q10, .ref q11, .ref q12, .ref q13, .int 0, .ref q14, .null, .null, .null, .null, .null, .null, .null, .null, .int 0, .null, .null, .null, .null, .int 0, .null, .int 0, .int 0, .null, .int 0, .int 0, .null, .null])), (q1, .inl (cI, 10, .inl (fun _ => 0))), (q6, .inl (cI, 10, .inl (fun _ => 0)))] H _ := w
  refine lv_aload_n hx hb d_R_init_117 rfl (lv_at hl 0 rfl) ?_
  refine lv_sipush (v := 130) hx hb d_R_init_118 (by decide) ?_
  refine R_newX (atype := .int) (N := 130) C0 w wd_93 (by decide) (by decide) (by decide) (Nat.le_of_ble_eq_true rfl) (Nat.le_of_ble_eq_true rfl) d_R_init_121 (fun q15 H w => ?_)
  refine W.cs (cells' := 15) (slots' := 590) rfl rfl ?_
  have w : Wd D A s [(h, .inr (7, [.int 0, .int 0, .ref q1, .ref q2, .ref q3, .ref q4, .ref q5, .ref q6, .ref q7, .ref q8, .ref q9, .int 0, .int 0, .ref q10, .ref q11, .ref q12, .ref q13, .int 0, .ref q14, .null, .null, .null, .null, .null, .null, .null, .null, .int 0, .null, .null, .null, .null, .int 0, .null, .int 0, .int 0, .null, .int 0, .int 0, .null, .null])), (q1, .inl (cI, 10, .inl (fun _ => 0))), (q6, .inl (cI, 10, .inl (fun _ => 0)))] H _ := w
  refine R_putF C0 w 0 rfl rfl inR tyR_ok nmR 19 (by decide) wd_847 rfl hin rfl rfl rfl (Nat.le_of_ble_eq_true rfl) d_R_init_123 (fun H locs w => ?_)
  have w : Wd D A s [(h, .inr (7, [.int 0, .int 0, .ref q1, .ref q2, .ref q3, .ref q4, .ref q5, .ref q6, .ref q7, .ref q8, .ref q9, .int 0, .int 0, .ref q10, .ref q11, .ref q12, .ref q13, .int 0, .ref q14, .ref q15, .null, .null, .null, .null, .null, .null, .null, .int 0, .null, .null, .null, .null, .int 0, .null, .int 0, .int 0, .null, .int 0, .int 0, .null, .null])), (q1, .inl (cI, 10, .inl (fun _ => 0))), (q6, .inl (cI, 10, .inl (fun _ => 0)))] H _ := w
  refine lv_aload_n hx hb d_R_init_126 rfl (lv_at hl 0 rfl) ?_
  refine lv_bipush (v := 60) hx hb d_R_init_127 (by decide) ?_
  refine R_newX (atype := .int) (N := 60) C0 w wd_93 (by decide) (by decide) (by decide) (Nat.le_of_ble_eq_true rfl) (Nat.le_of_ble_eq_true rfl) d_R_init_129 (fun q16 H w => ?_)
  refine W.cs (cells' := 16) (slots' := 650) rfl rfl ?_
  have w : Wd D A s [(h, .inr (7, [.int 0, .int 0, .ref q1, .ref q2, .ref q3, .ref q4, .ref q5, .ref q6, .ref q7, .ref q8, .ref q9, .int 0, .int 0, .ref q10, .ref q11, .ref q12, .ref q13, .int 0, .ref q14, .ref q15, .null, .null, .null, .null, .null, .null, .null, .int 0, .null, .null, .null, .null, .int 0, .null, .int 0, .int 0, .null, .int 0, .int 0, .null, .null])), (q1, .inl (cI, 10, .inl (fun _ => 0))), (q6, .inl (cI, 10, .inl (fun _ => 0)))] H _ := w
  refine R_putF C0 w 0 rfl rfl inR tyR_ok nmR 20 (by decide) wd_848 rfl hin rfl rfl rfl (Nat.le_of_ble_eq_true rfl) d_R_init_131 (fun H locs w => ?_)
  have w : Wd D A s [(h, .inr (7, [.int 0, .int 0, .ref q1, .ref q2, .ref q3, .ref q4, .ref q5, .ref q6, .ref q7, .ref q8, .ref q9, .int 0, .int 0, .ref q10, .ref q11, .ref q12, .ref q13, .int 0, .ref q14, .ref q15, .ref q16, .null, .null, .null, .null, .null, .null, .int 0, .null, .null, .null, .null, .int 0, .null, .int 0, .int 0, .null, .int 0, .int 0, .null, .null])), (q1, .inl (cI, 10, .inl (fun _ => 0))), (q6, .inl (cI, 10, .inl (fun _ => 0)))] H _ := w
  refine lv_aload_n hx hb d_R_init_134 rfl (lv_at hl 0 rfl) ?_
  refine lv_bipush (v := 60) hx hb d_R_init_135 (by decide) ?_
  refine R_newX (atype := .int) (N := 60) C0 w wd_93 (by decide) (by decide) (by decide) (Nat.le_of_ble_eq_true rfl) (Nat.le_of_ble_eq_true rfl) d_R_init_137 (fun q17 H w => ?_)
  refine W.cs (cells' := 17) (slots' := 710) rfl rfl ?_
  have w : Wd D A s [(h, .inr (7, [.int 0, .int 0, .ref q1, .ref q2, .ref q3, .ref q4, .ref q5, .ref q6, .ref q7, .ref q8, .ref q9, .int 0, .int 0, .ref q10, .ref q11, .ref q12, .ref q13, .int 0, .ref q14, .ref q15, .ref q16, .null, .null, .null, .null, .null, .null, .int 0, .null, .null, .null, .null, .int 0, .null, .int 0, .int 0, .null, .int 0, .int 0, .null, .null])), (q1, .inl (cI, 10, .inl (fun _ => 0))), (q6, .inl (cI, 10, .inl (fun _ => 0)))] H _ := w
  refine R_putF C0 w 0 rfl rfl inR tyR_ok nmR 21 (by decide) wd_849 rfl hin rfl rfl rfl (Nat.le_of_ble_eq_true rfl) d_R_init_139 (fun H locs w => ?_)
  have w : Wd D A s [(h, .inr (7, [.int 0, .int 0, .ref q1, .ref q2, .ref q3, .ref q4, .ref q5, .ref q6, .ref q7, .ref q8, .ref q9, .int 0, .int 0, .ref q10, .ref q11, .ref q12, .ref q13, .int 0, .ref q14, .ref q15, .ref q16, .ref q17, .null, .null, .null, .null, .null, .int 0, .null, .null, .null, .null, .int 0, .null, .int 0, .int 0, .null, .int 0, .int 0, .null, .null])), (q1, .inl (cI, 10, .inl (fun _ => 0))), (q6, .inl (cI, 10, .inl (fun _ => 0)))] H _ := w
  refine lv_aload_n hx hb d_R_init_142 rfl (lv_at hl 0 rfl) ?_
  refine lv_bipush (v := 60) hx hb d_R_init_143 (by decide) ?_
  refine R_newX (atype := .int) (N := 60) C0 w wd_93 (by decide) (by decide) (by decide) (Nat.le_of_ble_eq_true rfl) (Nat.le_of_ble_eq_true rfl) d_R_init_145 (fun q18 H w => ?_)
  refine W.cs (cells' := 18) (slots' := 770) rfl rfl ?_
  have w : Wd D A s [(h, .inr (7, [.int 0, .int 0, .ref q1, .ref q2, .ref q3, .ref q4, .ref q5, .ref q6, .ref q7, .ref q8, .ref q9, .int 0, .int 0, .ref q10, .ref q11, .ref q12, .ref q13, .int 0, .ref q14, .ref q15, .ref q16, .ref q17, .null, .null, .null, .null, .null, .int 0, .null, .null, .null, .null, .int 0, .null, .int 0, .int 0, .null, .int 0, .int 0, .null, .null])), (q1, .inl (cI, 10, .inl (fun _ => 0))), (q6, .inl (cI, 10, .inl (fun _ => 0)))] H _ := w
  refine R_putF C0 w 0 rfl rfl inR tyR_ok nmR 22 (by decide) wd_850 rfl hin rfl rfl rfl (Nat.le_of_ble_eq_true rfl) d_R_init_147 (fun H locs w => ?_)
  have w : Wd D A s [(h, .inr (7, [.int 0, .int 0, .ref q1, .ref q2, .ref q3, .ref q4, .ref q5, .ref q6, .ref q7, .ref q8, .ref q9, .int 0, .int 0, .ref q10, .ref q11, .ref q12, .ref q13, .int 0, .ref q14, .ref q15, .ref q16, .ref q17, .ref q18, .null, .null, .null, .null, .int 0, .null, .null, .null, .null, .int 0, .null, .int 0, .int 0, .null, .int 0, .int 0, .null, .null])), (q1, .inl (cI, 10, .inl (fun _ => 0))), (q6, .inl (cI, 10, .inl (fun _ => 0)))] H _ := w
  refine lv_aload_n hx hb d_R_init_150 rfl (lv_at hl 0 rfl) ?_
  refine lv_bipush (v := 60) hx hb d_R_init_151 (by decide) ?_
  refine R_newX (atype := .int) (N := 60) C0 w wd_93 (by decide) (by decide) (by decide) (Nat.le_of_ble_eq_true rfl) (Nat.le_of_ble_eq_true rfl) d_R_init_153 (fun q19 H w => ?_)
  refine W.cs (cells' := 19) (slots' := 830) rfl rfl ?_
  have w : Wd D A s [(h, .inr (7, [.int 0, .int 0, .ref q1, .ref q2, .ref q3, .ref q4, .ref q5, .ref q6, .ref q7, .ref q8, .ref q9, .int 0, .int 0, .ref q10, .ref q11, .ref q12, .ref q13, .int 0, .ref q14, .ref q15, .ref q16, .ref q17, .ref q18, .null, .null, .null, .null, .int 0, .null, .null, .null, .null, .int 0, .null, .int 0, .int 0, .null, .int 0, .int 0, .null, .null])), (q1, .inl (cI, 10, .inl (fun _ => 0))), (q6, .inl (cI, 10, .inl (fun _ => 0)))] H _ := w
  refine R_putF C0 w 0 rfl rfl inR tyR_ok nmR 23 (by decide) wd_851 rfl hin rfl rfl rfl (Nat.le_of_ble_eq_true rfl) d_R_init_155 (fun H locs w => ?_)
  have w : Wd D A s [(h, .inr (7, [.int 0, .int 0, .ref q1, .ref q2, .ref q3, .ref q4, .ref q5, .ref q6, .ref q7, .ref q8, .ref q9, .int 0, .int 0, .ref q10, .ref q11, .ref q12, .ref q13, .int 0, .ref q14, .ref q15, .ref q16, .ref q17, .ref q18, .ref q19, .null, .null, .null, .int 0, .null, .null, .null, .null, .int 0, .null, .int 0, .int 0, .null, .int 0, .int 0, .null, .null])), (q1, .inl (cI, 10, .inl (fun _ => 0))), (q6, .inl (cI, 10, .inl (fun _ => 0)))] H _ := w
  refine lv_aload_n hx hb d_R_init_158 rfl (lv_at hl 0 rfl) ?_
  refine lv_bipush (v := 10) hx hb d_R_init_159 (by decide) ?_
  refine R_newX (atype := .int) (N := 10) C0 w wd_93 (by decide) (by decide) (by decide) (Nat.le_of_ble_eq_true rfl) (Nat.le_of_ble_eq_true rfl) d_R_init_161 (fun q20 H w => ?_)
  refine W.cs (cells' := 20) (slots' := 840) rfl rfl ?_
  have w : Wd D A s [(h, .inr (7, [.int 0, .int 0, .ref q1, .ref q2, .ref q3, .ref q4, .ref q5, .ref q6, .ref q7, .ref q8, .ref q9, .int 0, .int 0, .ref q10, .ref q11, .ref q12, .ref q13, .int 0, .ref q14, .ref q15, .ref q16, .ref q17, .ref q18, .ref q19, .null, .null, .null, .int 0, .null, .null, .null, .null, .int 0, .null, .int 0, .int 0, .null, .int 0, .int 0, .null, .null])), (q1, .inl (cI, 10, .inl (fun _ => 0))), (q6, .inl (cI, 10, .inl (fun _ => 0)))] H _ := w
  refine R_putF C0 w 0 rfl rfl inR tyR_ok nmR 24 (by decide) wd_852 rfl hin rfl rfl rfl (Nat.le_of_ble_eq_true rfl) d_R_init_163 (fun H locs w => ?_)
  have w : Wd D A s [(h, .inr (7, [.int 0, .int 0, .ref q1, .ref q2, .ref q3, .ref q4, .ref q5, .ref q6, .ref q7, .ref q8, .ref q9, .int 0, .int 0, .ref q10, .ref q11, .ref q12, .ref q13, .int 0, .ref q14, .ref q15, .ref q16, .ref q17, .ref q18, .ref q19, .ref q20, .null, .null, .int 0, .null, .null, .null, .null, .int 0, .null, .int 0, .int 0, .null, .int 0, .int 0, .null, .null])), (q1, .inl (cI, 10, .inl (fun _ => 0))), (q6, .inl (cI, 10, .inl (fun _ => 0)))] H _ := w
  refine lv_aload_n hx hb d_R_init_166 rfl (lv_at hl 0 rfl) ?_
  refine lv_bipush (v := 60) hx hb d_R_init_167 (by decide) ?_
  refine R_newX (atype := .int) (N := 60) C0 w wd_93 (by decide) (by decide) (by decide) (Nat.le_of_ble_eq_true rfl) (Nat.le_of_ble_eq_true rfl) d_R_init_169 (fun q21 H w => ?_)
  refine W.cs (cells' := 21) (slots' := 900) rfl rfl ?_
  have w : Wd D A s [(h, .inr (7, [.int 0, .int 0, .ref q1, .ref q2, .ref q3, .ref q4, .ref q5, .ref q6, .ref q7, .ref q8, .ref q9, .int 0, .int 0, .ref q10, .ref q11, .ref q12, .ref q13, .int 0, .ref q14, .ref q15, .ref q16, .ref q17, .ref q18, .ref q19, .ref q20, .null, .null, .int 0, .null, .null, .null, .null, .int 0, .null, .int 0, .int 0, .null, .int 0, .int 0, .null, .null])), (q1, .inl (cI, 10, .inl (fun _ => 0))), (q6, .inl (cI, 10, .inl (fun _ => 0)))] H _ := w
  refine R_putF C0 w 0 rfl rfl inR tyR_ok nmR 25 (by decide) wd_853 rfl hin rfl rfl rfl (Nat.le_of_ble_eq_true rfl) d_R_init_171 (fun H locs w => ?_)
  have w : Wd D A s [(h, .inr (7, [.int 0, .int 0, .ref q1, .ref q2, .ref q3, .ref q4, .ref q5, .ref q6, .ref q7, .ref q8, .ref q9, .int 0, .int 0, .ref q10, .ref q11, .ref q12, .ref q13, .int 0, .ref q14, .ref q15, .ref q16, .ref q17, .ref q18, .ref q19, .ref q20, .ref q21, .null, .int 0, .null, .null, .null, .null, .int 0, .null, .int 0, .int 0, .null, .int 0, .int 0, .null, .null])), (q1, .inl (cI, 10, .inl (fun _ => 0))), (q6, .inl (cI, 10, .inl (fun _ => 0)))] H _ := w
  refine lv_aload_n hx hb d_R_init_174 rfl (lv_at hl 0 rfl) ?_
  refine lv_bipush (v := 12) hx hb d_R_init_175 (by decide) ?_
  refine R_newX (atype := .int) (N := 12) C0 w wd_93 (by decide) (by decide) (by decide) (Nat.le_of_ble_eq_true rfl) (Nat.le_of_ble_eq_true rfl) d_R_init_177 (fun q22 H w => ?_)
  refine W.cs (cells' := 22) (slots' := 912) rfl rfl ?_
  have w : Wd D A s [(h, .inr (7, [.int 0, .int 0, .ref q1, .ref q2, .ref q3, .ref q4, .ref q5, .ref q6, .ref q7, .ref q8, .ref q9, .int 0, .int 0, .ref q10, .ref q11, .ref q12, .ref q13, .int 0, .ref q14, .ref q15, .ref q16, .ref q17, .ref q18, .ref q19, .ref q20, .ref q21, .null, .int 0, .null, .null, .null, .null, .int 0, .null, .int 0, .int 0, .null, .int 0, .int 0, .null, .null])), (q1, .inl (cI, 10, .inl (fun _ => 0))), (q6, .inl (cI, 10, .inl (fun _ => 0)))] H _ := w
  refine R_putF C0 w 0 rfl rfl inR tyR_ok nmR 26 (by decide) wd_854 rfl hin rfl rfl rfl (Nat.le_of_ble_eq_true rfl) d_R_init_179 (fun H locs w => ?_)
  have w : Wd D A s [(h, .inr (7, [.int 0, .int 0, .ref q1, .ref q2, .ref q3, .ref q4, .ref q5, .ref q6, .ref q7, .ref q8, .ref q9, .int 0, .int 0, .ref q10, .ref q11, .ref q12, .ref q13, .int 0, .ref q14, .ref q15, .ref q16, .ref q17, .ref q18, .ref q19, .ref q20, .ref q21, .ref q22, .int 0, .null, .null, .null, .null, .int 0, .null, .int 0, .int 0, .null, .int 0, .int 0, .null, .null])), (q1, .inl (cI, 10, .inl (fun _ => 0))), (q6, .inl (cI, 10, .inl (fun _ => 0)))] H _ := w
  refine lv_aload_n hx hb d_R_init_182 rfl (lv_at hl 0 rfl) ?_
  refine lv_bipush (v := 10) hx hb d_R_init_183 (by decide) ?_
  refine R_newX (atype := .int) (N := 10) C0 w wd_93 (by decide) (by decide) (by decide) (Nat.le_of_ble_eq_true rfl) (Nat.le_of_ble_eq_true rfl) d_R_init_185 (fun q23 H w => ?_)
  refine W.cs (cells' := 23) (slots' := 922) rfl rfl ?_
  have w : Wd D A s [(h, .inr (7, [.int 0, .int 0, .ref q1, .ref q2, .ref q3, .ref q4, .ref q5, .ref q6, .ref q7, .ref q8, .ref q9, .int 0, .int 0, .ref q10, .ref q11, .ref q12, .ref q13, .int 0, .ref q14, .ref q15, .ref q16, .ref q17, .ref q18, .ref q19, .ref q20, .ref q21, .ref q22, .int 0, .null, .null, .null, .null, .int 0, .null, .int 0, .int 0, .null, .int 0, .int 0, .null, .null])), (q1, .inl (cI, 10, .inl (fun _ => 0))), (q6, .inl (cI, 10, .inl (fun _ => 0)))] H _ := w
  refine R_putF C0 w 0 rfl rfl inR tyR_ok nmR 28 (by decide) wd_856 rfl hin rfl rfl rfl (Nat.le_of_ble_eq_true rfl) d_R_init_187 (fun H locs w => ?_)
  have w : Wd D A s [(h, .inr (7, [.int 0, .int 0, .ref q1, .ref q2, .ref q3, .ref q4, .ref q5, .ref q6, .ref q7, .ref q8, .ref q9, .int 0, .int 0, .ref q10, .ref q11, .ref q12, .ref q13, .int 0, .ref q14, .ref q15, .ref q16, .ref q17, .ref q18, .ref q19, .ref q20, .ref q21, .ref q22, .int 0, .ref q23, .null, .null, .null, .int 0, .null, .int 0, .int 0, .null, .int 0, .int 0, .null, .null])), (q1, .inl (cI, 10, .inl (fun _ => 0))), (q6, .inl (cI, 10, .inl (fun _ => 0)))] H _ := w
  refine lv_aload_n hx hb d_R_init_190 rfl (lv_at hl 0 rfl) ?_
  refine lv_sipush (v := 130) hx hb d_R_init_191 (by decide) ?_
  refine R_newX (atype := .int) (N := 130) C0 w wd_93 (by decide) (by decide) (by decide) (Nat.le_of_ble_eq_true rfl) (Nat.le_of_ble_eq_true rfl) d_R_init_194 (fun q24 H w => ?_)
  refine W.cs (cells' := 24) (slots' := 1052) rfl rfl ?_
  have w : Wd D A s [(h, .inr (7, [.int 0, .int 0, .ref q1, .ref q2, .ref q3, .ref q4, .ref q5, .ref q6, .ref q7, .ref q8, .ref q9, .int 0, .int 0, .ref q10, .ref q11, .ref q12, .ref q13, .int 0, .ref q14, .ref q15, .ref q16, .ref q17, .ref q18, .ref q19, .ref q20, .ref q21, .ref q22, .int 0, .ref q23, .null, .null, .null, .int 0, .null, .int 0, .int 0, .null, .int 0, .int 0, .null, .null])), (q1, .inl (cI, 10, .inl (fun _ => 0))), (q6, .inl (cI, 10, .inl (fun _ => 0)))] H _ := w
  refine R_putF C0 w 0 rfl rfl inR tyR_ok nmR 29 (by decide) wd_857 rfl hin rfl rfl rfl (Nat.le_of_ble_eq_true rfl) d_R_init_196 (fun H locs w => ?_)
  have w : Wd D A s [(h, .inr (7, [.int 0, .int 0, .ref q1, .ref q2, .ref q3, .ref q4, .ref q5, .ref q6, .ref q7, .ref q8, .ref q9, .int 0, .int 0, .ref q10, .ref q11, .ref q12, .ref q13, .int 0, .ref q14, .ref q15, .ref q16, .ref q17, .ref q18, .ref q19, .ref q20, .ref q21, .ref q22, .int 0, .ref q23, .ref q24, .null, .null, .int 0, .null, .int 0, .int 0, .null, .int 0, .int 0, .null, .null])), (q1, .inl (cI, 10, .inl (fun _ => 0))), (q6, .inl (cI, 10, .inl (fun _ => 0)))] H _ := w
  refine lv_aload_n hx hb d_R_init_199 rfl (lv_at hl 0 rfl) ?_
  refine lv_sipush (v := 130) hx hb d_R_init_200 (by decide) ?_
  refine R_newX (atype := .int) (N := 130) C0 w wd_93 (by decide) (by decide) (by decide) (Nat.le_of_ble_eq_true rfl) (Nat.le_of_ble_eq_true rfl) d_R_init_203 (fun q25 H w => ?_)
  refine W.cs (cells' := 25) (slots' := 1182) rfl rfl ?_
  have w : Wd D A s [(h, .inr (7, [.int 0, .int 0, .ref q1, .ref q2, .ref q3, .ref q4, .ref q5, .ref q6, .ref q7, .ref q8, .ref q9, .int 0, .int 0, .ref q10, .ref q11, .ref q12, .ref q13, .int 0, .ref q14, .ref q15, .ref q16, .ref q17, .ref q18, .ref q19, .ref q20, .ref q21, .ref q22, .int 0, .ref q23, .ref q24, .null, .null, .int 0, .null, .int 0, .int 0, .null, .int 0, .int 0, .null, .null])), (q1, .inl (cI, 10, .inl (fun _ => 0))), (q6, .inl (cI, 10, .inl (fun _ => 0)))] H _ := w
  refine R_putF C0 w 0 rfl rfl inR tyR_ok nmR 30 (by decide) wd_858 rfl hin rfl rfl rfl (Nat.le_of_ble_eq_true rfl) d_R_init_205 (fun H locs w => ?_)
  have w : Wd D A s [(h, .inr (7, [.int 0, .int 0, .ref q1, .ref q2, .ref q3, .ref q4, .ref q5, .ref q6, .ref q7, .ref q8, .ref q9, .int 0, .int 0, .ref q10, .ref q11, .ref q12, .ref q13, .int 0, .ref q14, .ref q15, .ref q16, .ref q17, .ref q18, .ref q19, .ref q20, .ref q21, .ref q22, .int 0, .ref q23, .ref q24, .ref q25, .null, .int 0, .null, .int 0, .int 0, .null, .int 0, .int 0, .null, .null])), (q1, .inl (cI, 10, .inl (fun _ => 0))), (q6, .inl (cI, 10, .inl (fun _ => 0)))] H _ := w
  refine lv_aload_n hx hb d_R_init_208 rfl (lv_at hl 0 rfl) ?_
  refine lv_sipush (v := 130) hx hb d_R_init_209 (by decide) ?_
  refine R_newX (atype := .boolean) (N := 130) C0 w wd_283 (by decide) (by decide) (by decide) (Nat.le_of_ble_eq_true rfl) (Nat.le_of_ble_eq_true rfl) d_R_init_212 (fun q26 H w => ?_)
  refine W.cs (cells' := 26) (slots' := 1312) rfl rfl ?_
  have w : Wd D A s [(h, .inr (7, [.int 0, .int 0, .ref q1, .ref q2, .ref q3, .ref q4, .ref q5, .ref q6, .ref q7, .ref q8, .ref q9, .int 0, .int 0, .ref q10, .ref q11, .ref q12, .ref q13, .int 0, .ref q14, .ref q15, .ref q16, .ref q17, .ref q18, .ref q19, .ref q20, .ref q21, .ref q22, .int 0, .ref q23, .ref q24, .ref q25, .null, .int 0, .null, .int 0, .int 0, .null, .int 0, .int 0, .null, .null])), (q1, .inl (cI, 10, .inl (fun _ => 0))), (q6, .inl (cI, 10, .inl (fun _ => 0)))] H _ := w
  refine R_putF C0 w 0 rfl rfl inR tyR_ok nmR 31 (by decide) wd_859 rfl hin rfl rfl rfl (Nat.le_of_ble_eq_true rfl) d_R_init_214 (fun H locs w => ?_)
  have w : Wd D A s [(h, .inr (7, [.int 0, .int 0, .ref q1, .ref q2, .ref q3, .ref q4, .ref q5, .ref q6, .ref q7, .ref q8, .ref q9, .int 0, .int 0, .ref q10, .ref q11, .ref q12, .ref q13, .int 0, .ref q14, .ref q15, .ref q16, .ref q17, .ref q18, .ref q19, .ref q20, .ref q21, .ref q22, .int 0, .ref q23, .ref q24, .ref q25, .ref q26, .int 0, .null, .int 0, .int 0, .null, .int 0, .int 0, .null, .null])), (q1, .inl (cI, 10, .inl (fun _ => 0))), (q6, .inl (cI, 10, .inl (fun _ => 0)))] H _ := w
  refine lv_aload_n hx hb d_R_init_217 rfl (lv_at hl 0 rfl) ?_
  refine lv_bipush (v := 16) hx hb d_R_init_218 (by decide) ?_
  refine R_newI (N := 16) C0 w wd_93 (by decide) (by decide) (by decide) (Nat.le_of_ble_eq_true rfl) (Nat.le_of_ble_eq_true rfl) d_R_init_220 (fun q27 H w => ?_)
  refine W.cs (cells' := 27) (slots' := 1328) rfl rfl ?_
  have w : Wd D A s [(h, .inr (7, [.int 0, .int 0, .ref q1, .ref q2, .ref q3, .ref q4, .ref q5, .ref q6, .ref q7, .ref q8, .ref q9, .int 0, .int 0, .ref q10, .ref q11, .ref q12, .ref q13, .int 0, .ref q14, .ref q15, .ref q16, .ref q17, .ref q18, .ref q19, .ref q20, .ref q21, .ref q22, .int 0, .ref q23, .ref q24, .ref q25, .ref q26, .int 0, .null, .int 0, .int 0, .null, .int 0, .int 0, .null, .null])), (q1, .inl (cI, 10, .inl (fun _ => 0))), (q6, .inl (cI, 10, .inl (fun _ => 0))), (q27, .inl (cI, 16, .inl (fun _ => 0)))] H _ := w
  refine R_putF C0 w 0 rfl rfl inR tyR_ok nmR 33 (by decide) wd_861 rfl hin rfl rfl rfl (Nat.le_of_ble_eq_true rfl) d_R_init_222 (fun H locs w => ?_)
  have w : Wd D A s [(h, .inr (7, [.int 0, .int 0, .ref q1, .ref q2, .ref q3, .ref q4, .ref q5, .ref q6, .ref q7, .ref q8, .ref q9, .int 0, .int 0, .ref q10, .ref q11, .ref q12, .ref q13, .int 0, .ref q14, .ref q15, .ref q16, .ref q17, .ref q18, .ref q19, .ref q20, .ref q21, .ref q22, .int 0, .ref q23, .ref q24, .ref q25, .ref q26, .int 0, .ref q27, .int 0, .int 0, .null, .int 0, .int 0, .null, .null])), (q1, .inl (cI, 10, .inl (fun _ => 0))), (q6, .inl (cI, 10, .inl (fun _ => 0))), (q27, .inl (cI, 16, .inl (fun _ => 0)))] H _ := w
  refine lv_aload_n hx hb d_R_init_225 rfl (lv_at hl 0 rfl) ?_
  refine lv_bipush (v := 40) hx hb d_R_init_226 (by decide) ?_
  refine R_newX (atype := .int) (N := 40) C0 w wd_93 (by decide) (by decide) (by decide) (Nat.le_of_ble_eq_true rfl) (Nat.le_of_ble_eq_true rfl) d_R_init_228 (fun q28 H w => ?_)
  refine W.cs (cells' := 28) (slots' := 1368) rfl rfl ?_
  have w : Wd D A s [(h, .inr (7, [.int 0, .int 0, .ref q1, .ref q2, .ref q3, .ref q4, .ref q5, .ref q6, .ref q7, .ref q8, .ref q9, .int 0, .int 0, .ref q10, .ref q11, .ref q12, .ref q13, .int 0, .ref q14, .ref q15, .ref q16, .ref q17, .ref q18, .ref q19, .ref q20, .ref q21, .ref q22, .int 0, .ref q23, .ref q24, .ref q25, .ref q26, .int 0, .ref q27, .int 0, .int 0, .null, .int 0, .int 0, .null, .null])), (q1, .inl (cI, 10, .inl (fun _ => 0))), (q6, .inl (cI, 10, .inl (fun _ => 0))), (q27, .inl (cI, 16, .inl (fun _ => 0)))] H _ := w
  refine R_putF C0 w 0 rfl rfl inR tyR_ok nmR 36 (by decide) wd_864 rfl hin rfl rfl rfl (Nat.le_of_ble_eq_true rfl) d_R_init_230 (fun H locs w => ?_)
  have w : Wd D A s [(h, .inr (7, [.int 0, .int 0, .ref q1, .ref q2, .ref q3, .ref q4, .ref q5, .ref q6, .ref q7, .ref q8, .ref q9, .int 0, .int 0, .ref q10, .ref q11, .ref q12, .ref q13, .int 0, .ref q14, .ref q15, .ref q16, .ref q17, .ref q18, .ref q19, .ref q20, .ref q21, .ref q22, .int 0, .ref q23, .ref q24, .ref q25, .ref q26, .int 0, .ref q27, .int 0, .int 0, .ref q28, .int 0, .int 0, .null, .null])), (q1, .inl (cI, 10, .inl (fun _ => 0))), (q6, .inl (cI, 10, .inl (fun _ => 0))), (q27, .inl (cI, 16, .inl (fun _ => 0)))] H _ := w
  refine lv_aload_n hx hb d_R_init_233 rfl (lv_at hl 0 rfl) ?_
  refine lv_sipush (v := 130) hx hb d_R_init_234 (by decide) ?_
  refine R_newX (atype := .int) (N := 130) C0 w wd_93 (by decide) (by decide) (by decide) (Nat.le_of_ble_eq_true rfl) (Nat.le_of_ble_eq_true rfl) d_R_init_237 (fun q29 H w => ?_)
  refine W.cs (cells' := 29) (slots' := 1498) rfl rfl ?_
  have w : Wd D A s [(h, .inr (7, [.int 0, .int 0, .ref q1, .ref q2, .ref q3, .ref q4, .ref q5, .ref q6, .ref q7, .ref q8, .ref q9, .int 0, .int 0, .ref q10, .ref q11, .ref q12, .ref q13, .int 0, .ref q14, .ref q15, .ref q16, .ref q17, .ref q18, .ref q19, .ref q20, .ref q21, .ref q22, .int 0, .ref q23, .ref q24, .ref q25, .ref q26, .int 0, .ref q27, .int 0, .int 0, .ref q28, .int 0, .int 0, .null, .null])), (q1, .inl (cI, 10, .inl (fun _ => 0))), (q6, .inl (cI, 10, .inl (fun _ => 0))), (q27, .inl (cI, 16, .inl (fun _ => 0)))] H _ := w
  refine R_putF C0 w 0 rfl rfl inR tyR_ok nmR 39 (by decide) wd_867 rfl hin rfl rfl rfl (Nat.le_of_ble_eq_true rfl) d_R_init_239 (fun H locs w => ?_)
  have w : Wd D A s [(h, .inr (7, [.int 0, .int 0, .ref q1, .ref q2, .ref q3, .ref q4, .ref q5, .ref q6, .ref q7, .ref q8, .ref q9, .int 0, .int 0, .ref q10, .ref q11, .ref q12, .ref q13, .int 0, .ref q14, .ref q15, .ref q16, .ref q17, .ref q18, .ref q19, .ref q20, .ref q21, .ref q22, .int 0, .ref q23, .ref q24, .ref q25, .ref q26, .int 0, .ref q27, .int 0, .int 0, .ref q28, .int 0, .int 0, .ref q29, .null])), (q1, .inl (cI, 10, .inl (fun _ => 0))), (q6, .inl (cI, 10, .inl (fun _ => 0))), (q27, .inl (cI, 16, .inl (fun _ => 0)))] H _ := w
  refine lv_aload_n hx hb d_R_init_242 rfl (lv_at hl 0 rfl) ?_
  refine lv_bipush (v := 6) hx hb d_R_init_243 (by decide) ?_
  refine R_newX (atype := .int) (N := 6) C0 w wd_93 (by decide) (by decide) (by decide) (Nat.le_of_ble_eq_true rfl) (Nat.le_of_ble_eq_true rfl) d_R_init_245 (fun q30 H w => ?_)
  refine W.cs (cells' := 30) (slots' := 1504) rfl rfl ?_
  have w : Wd D A s [(h, .inr (7, [.int 0, .int 0, .ref q1, .ref q2, .ref q3, .ref q4, .ref q5, .ref q6, .ref q7, .ref q8, .ref q9, .int 0, .int 0, .ref q10, .ref q11, .ref q12, .ref q13, .int 0, .ref q14, .ref q15, .ref q16, .ref q17, .ref q18, .ref q19, .ref q20, .ref q21, .ref q22, .int 0, .ref q23, .ref q24, .ref q25, .ref q26, .int 0, .ref q27, .int 0, .int 0, .ref q28, .int 0, .int 0, .ref q29, .null])), (q1, .inl (cI, 10, .inl (fun _ => 0))), (q6, .inl (cI, 10, .inl (fun _ => 0))), (q27, .inl (cI, 16, .inl (fun _ => 0)))] H _ := w
  refine R_putF C0 w 0 rfl rfl inR tyR_ok nmR 40 (by decide) wd_868 rfl hin rfl rfl rfl (Nat.le_of_ble_eq_true rfl) d_R_init_247 (fun H locs w => ?_)
  have w : Wd D A s [(h, .inr (7, [.int 0, .int 0, .ref q1, .ref q2, .ref q3, .ref q4, .ref q5, .ref q6, .ref q7, .ref q8, .ref q9, .int 0, .int 0, .ref q10, .ref q11, .ref q12, .ref q13, .int 0, .ref q14, .ref q15, .ref q16, .ref q17, .ref q18, .ref q19, .ref q20, .ref q21, .ref q22, .int 0, .ref q23, .ref q24, .ref q25, .ref q26, .int 0, .ref q27, .int 0, .int 0, .ref q28, .int 0, .int 0, .ref q29, .ref q30])), (q1, .inl (cI, 10, .inl (fun _ => 0))), (q6, .inl (cI, 10, .inl (fun _ => 0))), (q27, .inl (cI, 16, .inl (fun _ => 0)))] H _ := w
  exact hret _ _ _ _ d_R_init_250 w.2.2.1 (fun t ht => ⟨fun k => [0, 0, q1, q2, q3, q4, q5, q6, q7, q8, q9, 0, 0, q10, q11, q12, q13, 0, q14, q15, q16, q17, q18, q19, q20, q21, q22, 0, q23, q24, q25, q26, 0, q27, 0, 0, q28, 0, 0, q29, q30].getD k 0, by rw [ht]; exact (w.sub [0, 1, 2, 3] rfl rfl).1, (w.sub [0, 1, 2, 3] rfl rfl).2.1⟩)
set_option maxHeartbeats 4000000 in
set_option maxRecDepth 100000 in
theorem c_N_init (l : Launch) (D : va_G) (cI cB cJ : ClassId) (h : Nat) : KV l D cI cB cJ y_N_init b_N_init 1 2 36 132 1917 [.ref h] [(h, .inr (0, [.null, .null, .null, .null, .null, .null, .int 0]))] (fun A t => ∃ qn qp qm : Nat → Nat, CE D (wN cI h qn qp qm) A t) := by
  refine KV.ofW (by decide) (Nat.le_of_ble_eq_true rfl) ?_
  intro p e s m args below meth c A Q ls C0 hin hl w hret
  have hin : meth.name = "<init>" := hin
  have hx := C0.1
  have hb := C0.2.1
  have hl : lv_has ls 1 [(0, .ref h)] := hl
  refine lv_aload_n hx hb d_N_init_0 rfl (lv_at hl 0 rfl) ?_
  refine W.objInit hx hb C0.2.2.2.1 (C0.2.2.2.2.1 _ wd_22) (C0.2.2.2.2.1 _ wd_23) (C0.2.2.2.2.1 _ wd_24) rfl (by rw [C0.2.2.1]; exact hl.1) rfl d_N_init_1 (Nat.le_of_ble_eq_true rfl) (Nat.le_of_ble_eq_true rfl) ?_
  refine W.eq (g2 := F0 m 4 ls []) rfl ?_
  refine lv_aload_n hx hb d_N_init_4 rfl (lv_at hl 0 rfl) ?_
  refine R_new C0 w (ci := 1) rfl inP tyP_ok wd_25 wd_26 wd_2 bornP (Nat.le_of_ble_eq_true rfl) (Nat.le_of_ble_eq_true rfl) d_N_init_5 (fun o1 H w => ?_)
  refine W.cs (cells' := 1) (slots' := 10) rfl rfl ?_
  have w : Wd D A s [(h, .inr (0, [.null, .null, .null, .null, .null, .null, .int 0])), (o1, .inr (1, [.int 0, .null, .null, .null, .null, .null, .null, .null, .null, .null]))] H _ := w
  refine lv_dup hx hb d_N_init_8 rfl ?_
  refine R_ivN C0 w (rest := [.ref o1, .ref h]) (wr := [(h, .inr (0, [.null, .null, .null, .null, .null, .null, .int 0]))]) [1] [0] (c_P_init l D cI cB cJ o1) rfl rfl rfl rfl (by decide) wd_29 C0.2.2.2.2.2.2.nest wd_28 wd_2 rfl (n9 := 0) (by decide +kernel) rfl ⟨(Nat.le_of_ble_eq_true rfl), (Nat.le_of_ble_eq_true rfl)⟩ hl.1 rfl (Nat.le_of_ble_eq_true rfl) d_N_init_9 (Nat.le_of_ble_eq_true rfl) (Nat.le_of_ble_eq_true rfl) (fun t9 H locs ht9 hB9 hj9 => ?_)
  obtain ⟨qp2, hE9⟩ := hB9
  have w := hj9 _ hE9
  refine W.cs (cells' := 50) (slots' := 340) rfl rfl ?_
  have w : Wd D A s [(h, .inr (0, [.null, .null, .null, .null, .null, .null, .int 0])), (o1, .inr (1, fP 0 qp2)), ((qp2 1), .inl (cI, 10, .inl (fun _ => 0))), ((qp2 6), .inl (cI, 10, .inl (fun _ => 0))), ((qp2 7), .inl (cI, 10, .inl (fun _ => 0))), ((qp2 8), .inl (cI, 10, .inl (fun _ => 0))), ((qp2 9), .inl (cI, 10, .inl (fun _ => 0)))] H _ := w
  refine R_putF C0 w 0 rfl rfl inN tyN_ok nmN 0 (by decide) wd_339 rfl hin rfl rfl rfl (Nat.le_of_ble_eq_true rfl) d_N_init_12 (fun H locs w => ?_)
  have w : Wd D A s [(h, .inr (0, [.ref o1, .null, .null, .null, .null, .null, .int 0])), (o1, .inr (1, fP 0 qp2)), ((qp2 1), .inl (cI, 10, .inl (fun _ => 0))), ((qp2 6), .inl (cI, 10, .inl (fun _ => 0))), ((qp2 7), .inl (cI, 10, .inl (fun _ => 0))), ((qp2 8), .inl (cI, 10, .inl (fun _ => 0))), ((qp2 9), .inl (cI, 10, .inl (fun _ => 0)))] H _ := w
  refine lv_aload_n hx hb d_N_init_15 rfl (lv_at hl 0 rfl) ?_
  refine R_new C0 w (ci := 2) rfl inS tyS_ok wd_94 wd_95 wd_3 bornS (Nat.le_of_ble_eq_true rfl) (Nat.le_of_ble_eq_true rfl) d_N_init_16 (fun o3 H w => ?_)
  refine W.cs (cells' := 51) (slots' := 349) rfl rfl ?_
  have w : Wd D A s [(h, .inr (0, [.ref o1, .null, .null, .null, .null, .null, .int 0])), (o1, .inr (1, fP 0 qp2)), ((qp2 1), .inl (cI, 10, .inl (fun _ => 0))), ((qp2 6), .inl (cI, 10, .inl (fun _ => 0))), ((qp2 7), .inl (cI, 10, .inl (fun _ => 0))), ((qp2 8), .inl (cI, 10, .inl (fun _ => 0))), ((qp2 9), .inl (cI, 10, .inl (fun _ => 0))), (o3, .inr (2, [.null, .int 0, .null, .null, .null, .null, .null, .int 0, .null]))] H _ := w
  refine lv_dup hx hb d_N_init_19 rfl ?_
  refine lv_aload_n hx hb d_N_init_20 rfl (lv_at hl 0 rfl) ?_
  refine R_get C0 w 0 rfl rfl inN 0 (by decide) wd_339 rfl d_N_init_21 ?_
  refine R_iv C0 w (rest := [.ref o3, .ref h]) (wr := [(h, .inr (0, [.ref o1, .null, .null, .null, .null, .null, .int 0])), (o1, .inr (1, fP 0 qp2)), ((qp2 1), .inl (cI, 10, .inl (fun _ => 0))), ((qp2 6), .inl (cI, 10, .inl (fun _ => 0))), ((qp2 7), .inl (cI, 10, .inl (fun _ => 0))), ((qp2 8), .inl (cI, 10, .inl (fun _ => 0))), ((qp2 9), .inl (cI, 10, .inl (fun _ => 0)))]) [7] [0, 1, 2, 3, 4, 5, 6] (c_S_init l D cI cB cJ o3 o1) rfl rfl rfl rfl (by decide) wd_98 wd_96 wd_97 wd_3 rfl (n9 := 1) (by decide +kernel) rfl ⟨(Nat.le_of_ble_eq_true rfl), (Nat.le_of_ble_eq_true rfl)⟩ hl.1 rfl (Nat.le_of_ble_eq_true rfl) d_N_init_24 (Nat.le_of_ble_eq_true rfl) (Nat.le_of_ble_eq_true rfl) (fun t9 H locs ht9 hB9 hj9 => ?_)
  have w := hj9 [] CE_nil
  refine W.cs (cells' := 57) (slots' := 409) rfl rfl ?_
  have w : Wd D A s [(h, .inr (0, [.ref o1, .null, .null, .null, .null, .null, .int 0])), (o1, .inr (1, fP 0 qp2)), ((qp2 1), .inl (cI, 10, .inl (fun _ => 0))), ((qp2 6), .inl (cI, 10, .inl (fun _ => 0))), ((qp2 7), .inl (cI, 10, .inl (fun _ => 0))), ((qp2 8), .inl (cI, 10, .inl (fun _ => 0))), ((qp2 9), .inl (cI, 10, .inl (fun _ => 0)))] H _ := w
  refine R_putF C0 w 0 rfl rfl inN tyN_ok nmN 1 (by decide) wd_340 rfl hin rfl rfl rfl (Nat.le_of_ble_eq_true rfl) d_N_init_27 (fun H locs w => ?_)
  have w : Wd D A s [(h, .inr (0, [.ref o1, .ref o3, .null, .null, .null, .null, .int 0])), (o1, .inr (1, fP 0 qp2)), ((qp2 1), .inl (cI, 10, .inl (fun _ => 0))), ((qp2 6), .inl (cI, 10, .inl (fun _ => 0))), ((qp2 7), .inl (cI, 10, .inl (fun _ => 0))), ((qp2 8), .inl (cI, 10, .inl (fun _ => 0))), ((qp2 9), .inl (cI, 10, .inl (fun _ => 0)))] H _ := w
  refine lv_aload_n hx hb d_N_init_30 rfl (lv_at hl 0 rfl) ?_
  refine R_new C0 w (ci := 3) rfl inG tyG_ok wd_137 wd_138 wd_4 bornG (Nat.le_of_ble_eq_true rfl) (Nat.le_of_ble_eq_true rfl) d_N_init_31 (fun o4 H w => ?_)
  refine W.cs (cells' := 58) (slots' := 423) rfl rfl ?_
  have w : Wd D A s [(h, .inr (0, [.ref o1, .ref o3, .null, .null, .null, .null, .int 0])), (o1, .inr (1, fP 0 qp2)), ((qp2 1), .inl (cI, 10, .inl (fun _ => 0))), ((qp2 6), .inl (cI, 10, .inl (fun _ => 0))), ((qp2 7), .inl (cI, 10, .inl (fun _ => 0))), ((qp2 8), .inl (cI, 10, .inl (fun _ => 0))), ((qp2 9), .inl (cI, 10, .inl (fun _ => 0))), (o4, .inr (3, [.null, .null, .int 0, .null, .null, .null, .null, .null, .null, .null, .null, .null, .null, .null]))] H _ := w
  refine lv_dup hx hb d_N_init_34 rfl ?_
  refine lv_aload_n hx hb d_N_init_35 rfl (lv_at hl 0 rfl) ?_
  refine R_get C0 w 0 rfl rfl inN 0 (by decide) wd_339 rfl d_N_init_36 ?_
  refine lv_aload_n hx hb d_N_init_39 rfl (lv_at hl 0 rfl) ?_
  refine R_get C0 w 0 rfl rfl inN 1 (by decide) wd_340 rfl d_N_init_40 ?_
  refine R_iv C0 w (rest := [.ref o4, .ref h]) (wr := [(h, .inr (0, [.ref o1, .ref o3, .null, .null, .null, .null, .int 0])), (o1, .inr (1, fP 0 qp2)), ((qp2 1), .inl (cI, 10, .inl (fun _ => 0))), ((qp2 6), .inl (cI, 10, .inl (fun _ => 0))), ((qp2 7), .inl (cI, 10, .inl (fun _ => 0))), ((qp2 8), .inl (cI, 10, .inl (fun _ => 0))), ((qp2 9), .inl (cI, 10, .inl (fun _ => 0)))]) [7] [0, 1, 2, 3, 4, 5, 6] (c_G_init l D cI cB cJ o4 o1 o3) rfl rfl rfl rfl (by decide) wd_141 wd_139 wd_140 wd_4 rfl (n9 := 2) (by decide +kernel) rfl ⟨(Nat.le_of_ble_eq_true rfl), (Nat.le_of_ble_eq_true rfl)⟩ hl.1 rfl (Nat.le_of_ble_eq_true rfl) d_N_init_43 (Nat.le_of_ble_eq_true rfl) (Nat.le_of_ble_eq_true rfl) (fun t9 H locs ht9 hB9 hj9 => ?_)
  have w := hj9 [] CE_nil
  refine W.cs (cells' := 119) (slots' := 1181) rfl rfl ?_
  have w : Wd D A s [(h, .inr (0, [.ref o1, .ref o3, .null, .null, .null, .null, .int 0])), (o1, .inr (1, fP 0 qp2)), ((qp2 1), .inl (cI, 10, .inl (fun _ => 0))), ((qp2 6), .inl (cI, 10, .inl (fun _ => 0))), ((qp2 7), .inl (cI, 10, .inl (fun _ => 0))), ((qp2 8), .inl (cI, 10, .inl (fun _ => 0))), ((qp2 9), .inl (cI, 10, .inl (fun _ => 0)))] H _ := w
  refine R_putF C0 w 0 rfl rfl inN tyN_ok nmN 2 (by decide) wd_341 rfl hin rfl rfl rfl (Nat.le_of_ble_eq_true rfl) d_N_init_46 (fun H locs w => ?_)
  have w : Wd D A s [(h, .inr (0, [.ref o1, .ref o3, .ref o4, .null, .null, .null, .int 0])), (o1, .inr (1, fP 0 qp2)), ((qp2 1), .inl (cI, 10, .inl (fun _ => 0))), ((qp2 6), .inl (cI, 10, .inl (fun _ => 0))), ((qp2 7), .inl (cI, 10, .inl (fun _ => 0))), ((qp2 8), .inl (cI, 10, .inl (fun _ => 0))), ((qp2 9), .inl (cI, 10, .inl (fun _ => 0)))] H _ := w
  refine lv_aload_n hx hb d_N_init_49 rfl (lv_at hl 0 rfl) ?_
  refine R_new C0 w (ci := 4) rfl inK tyK_ok wd_218 wd_219 wd_5 bornK (Nat.le_of_ble_eq_true rfl) (Nat.le_of_ble_eq_true rfl) d_N_init_50 (fun o5 H w => ?_)
  refine W.cs (cells' := 120) (slots' := 1189) rfl rfl ?_
  have w : Wd D A s [(h, .inr (0, [.ref o1, .ref o3, .ref o4, .null, .null, .null, .int 0])), (o1, .inr (1, fP 0 qp2)), ((qp2 1), .inl (cI, 10, .inl (fun _ => 0))), ((qp2 6), .inl (cI, 10, .inl (fun _ => 0))), ((qp2 7), .inl (cI, 10, .inl (fun _ => 0))), ((qp2 8), .inl (cI, 10, .inl (fun _ => 0))), ((qp2 9), .inl (cI, 10, .inl (fun _ => 0))), (o5, .inr (4, [.null, .null, .null, .int 0, .null, .null, .null, .int 0]))] H _ := w
  refine lv_dup hx hb d_N_init_53 rfl ?_
  refine lv_aload_n hx hb d_N_init_54 rfl (lv_at hl 0 rfl) ?_
  refine R_get C0 w 0 rfl rfl inN 0 (by decide) wd_339 rfl d_N_init_55 ?_
  refine lv_aload_n hx hb d_N_init_58 rfl (lv_at hl 0 rfl) ?_
  refine R_get C0 w 0 rfl rfl inN 1 (by decide) wd_340 rfl d_N_init_59 ?_
  refine lv_aload_n hx hb d_N_init_62 rfl (lv_at hl 0 rfl) ?_
  refine R_get C0 w 0 rfl rfl inN 2 (by decide) wd_341 rfl d_N_init_63 ?_
  refine R_iv C0 w (rest := [.ref o5, .ref h]) (wr := [(h, .inr (0, [.ref o1, .ref o3, .ref o4, .null, .null, .null, .int 0])), (o1, .inr (1, fP 0 qp2)), ((qp2 1), .inl (cI, 10, .inl (fun _ => 0))), ((qp2 6), .inl (cI, 10, .inl (fun _ => 0))), ((qp2 7), .inl (cI, 10, .inl (fun _ => 0))), ((qp2 8), .inl (cI, 10, .inl (fun _ => 0))), ((qp2 9), .inl (cI, 10, .inl (fun _ => 0)))]) [7] [0, 1, 2, 3, 4, 5, 6] (c_K_init l D cI cB cJ o5 o1 o3 o4) rfl rfl rfl rfl (by decide) wd_222 wd_220 wd_221 wd_5 rfl (n9 := 3) (by decide +kernel) rfl ⟨(Nat.le_of_ble_eq_true rfl), (Nat.le_of_ble_eq_true rfl)⟩ hl.1 rfl (Nat.le_of_ble_eq_true rfl) d_N_init_66 (Nat.le_of_ble_eq_true rfl) (Nat.le_of_ble_eq_true rfl) (fun t9 H locs ht9 hB9 hj9 => ?_)
  have w := hj9 [] CE_nil
  refine W.cs (cells' := 123) (slots' := 1451) rfl rfl ?_
  have w : Wd D A s [(h, .inr (0, [.ref o1, .ref o3, .ref o4, .null, .null, .null, .int 0])), (o1, .inr (1, fP 0 qp2)), ((qp2 1), .inl (cI, 10, .inl (fun _ => 0))), ((qp2 6), .inl (cI, 10, .inl (fun _ => 0))), ((qp2 7), .inl (cI, 10, .inl (fun _ => 0))), ((qp2 8), .inl (cI, 10, .inl (fun _ => 0))), ((qp2 9), .inl (cI, 10, .inl (fun _ => 0)))] H _ := w
  refine R_putF C0 w 0 rfl rfl inN tyN_ok nmN 3 (by decide) wd_342 rfl hin rfl rfl rfl (Nat.le_of_ble_eq_true rfl) d_N_init_69 (fun H locs w => ?_)
  have w : Wd D A s [(h, .inr (0, [.ref o1, .ref o3, .ref o4, .ref o5, .null, .null, .int 0])), (o1, .inr (1, fP 0 qp2)), ((qp2 1), .inl (cI, 10, .inl (fun _ => 0))), ((qp2 6), .inl (cI, 10, .inl (fun _ => 0))), ((qp2 7), .inl (cI, 10, .inl (fun _ => 0))), ((qp2 8), .inl (cI, 10, .inl (fun _ => 0))), ((qp2 9), .inl (cI, 10, .inl (fun _ => 0)))] H _ := w
  refine lv_aload_n hx hb d_N_init_72 rfl (lv_at hl 0 rfl) ?_
  refine R_new C0 w (ci := 5) rfl inD tyD_ok wd_256 wd_257 wd_6 bornD (Nat.le_of_ble_eq_true rfl) (Nat.le_of_ble_eq_true rfl) d_N_init_73 (fun o6 H w => ?_)
  refine W.cs (cells' := 124) (slots' := 1457) rfl rfl ?_
  have w : Wd D A s [(h, .inr (0, [.ref o1, .ref o3, .ref o4, .ref o5, .null, .null, .int 0])), (o1, .inr (1, fP 0 qp2)), ((qp2 1), .inl (cI, 10, .inl (fun _ => 0))), ((qp2 6), .inl (cI, 10, .inl (fun _ => 0))), ((qp2 7), .inl (cI, 10, .inl (fun _ => 0))), ((qp2 8), .inl (cI, 10, .inl (fun _ => 0))), ((qp2 9), .inl (cI, 10, .inl (fun _ => 0))), (o6, .inr (5, [.null, .null, .null, .null, .null, .int 0]))] H _ := w
  refine lv_dup hx hb d_N_init_76 rfl ?_
  refine lv_aload_n hx hb d_N_init_77 rfl (lv_at hl 0 rfl) ?_
  refine R_get C0 w 0 rfl rfl inN 0 (by decide) wd_339 rfl d_N_init_78 ?_
  refine lv_aload_n hx hb d_N_init_81 rfl (lv_at hl 0 rfl) ?_
  refine R_get C0 w 0 rfl rfl inN 2 (by decide) wd_341 rfl d_N_init_82 ?_
  refine lv_aload_n hx hb d_N_init_85 rfl (lv_at hl 0 rfl) ?_
  refine R_get C0 w 0 rfl rfl inN 3 (by decide) wd_342 rfl d_N_init_86 ?_
  refine R_iv C0 w (rest := [.ref o6, .ref h]) (wr := [(h, .inr (0, [.ref o1, .ref o3, .ref o4, .ref o5, .null, .null, .int 0])), (o1, .inr (1, fP 0 qp2)), ((qp2 1), .inl (cI, 10, .inl (fun _ => 0))), ((qp2 6), .inl (cI, 10, .inl (fun _ => 0))), ((qp2 7), .inl (cI, 10, .inl (fun _ => 0))), ((qp2 8), .inl (cI, 10, .inl (fun _ => 0))), ((qp2 9), .inl (cI, 10, .inl (fun _ => 0)))]) [7] [0, 1, 2, 3, 4, 5, 6] (c_D_init l D cI cB cJ o6 o1 o4 o5) rfl rfl rfl rfl (by decide) wd_260 wd_258 wd_259 wd_6 rfl (n9 := 3) (by decide +kernel) rfl ⟨(Nat.le_of_ble_eq_true rfl), (Nat.le_of_ble_eq_true rfl)⟩ hl.1 rfl (Nat.le_of_ble_eq_true rfl) d_N_init_89 (Nat.le_of_ble_eq_true rfl) (Nat.le_of_ble_eq_true rfl) (fun t9 H locs ht9 hB9 hj9 => ?_)
  have w := hj9 [] CE_nil
  refine W.cs (cells' := 126) (slots' := 1709) rfl rfl ?_
  have w : Wd D A s [(h, .inr (0, [.ref o1, .ref o3, .ref o4, .ref o5, .null, .null, .int 0])), (o1, .inr (1, fP 0 qp2)), ((qp2 1), .inl (cI, 10, .inl (fun _ => 0))), ((qp2 6), .inl (cI, 10, .inl (fun _ => 0))), ((qp2 7), .inl (cI, 10, .inl (fun _ => 0))), ((qp2 8), .inl (cI, 10, .inl (fun _ => 0))), ((qp2 9), .inl (cI, 10, .inl (fun _ => 0)))] H _ := w
  refine R_putF C0 w 0 rfl rfl inN tyN_ok nmN 4 (by decide) wd_343 rfl hin rfl rfl rfl (Nat.le_of_ble_eq_true rfl) d_N_init_92 (fun H locs w => ?_)
  have w : Wd D A s [(h, .inr (0, [.ref o1, .ref o3, .ref o4, .ref o5, .ref o6, .null, .int 0])), (o1, .inr (1, fP 0 qp2)), ((qp2 1), .inl (cI, 10, .inl (fun _ => 0))), ((qp2 6), .inl (cI, 10, .inl (fun _ => 0))), ((qp2 7), .inl (cI, 10, .inl (fun _ => 0))), ((qp2 8), .inl (cI, 10, .inl (fun _ => 0))), ((qp2 9), .inl (cI, 10, .inl (fun _ => 0)))] H _ := w
  refine lv_aload_n hx hb d_N_init_95 rfl (lv_at hl 0 rfl) ?_
  refine R_new C0 w (ci := 6) rfl inA tyA_ok wd_284 wd_285 wd_7 bornA (Nat.le_of_ble_eq_true rfl) (Nat.le_of_ble_eq_true rfl) d_N_init_96 (fun o7 H w => ?_)
  refine W.cs (cells' := 127) (slots' := 1723) rfl rfl ?_
  have w : Wd D A s [(h, .inr (0, [.ref o1, .ref o3, .ref o4, .ref o5, .ref o6, .null, .int 0])), (o1, .inr (1, fP 0 qp2)), ((qp2 1), .inl (cI, 10, .inl (fun _ => 0))), ((qp2 6), .inl (cI, 10, .inl (fun _ => 0))), ((qp2 7), .inl (cI, 10, .inl (fun _ => 0))), ((qp2 8), .inl (cI, 10, .inl (fun _ => 0))), ((qp2 9), .inl (cI, 10, .inl (fun _ => 0))), (o7, .inr (6, [.null, .null, .null, .null, .int 0, .null, .null, .null, .null, .int 0, .null, .int 0, .int 0, .int 0]))] H _ := w
  refine lv_dup hx hb d_N_init_99 rfl ?_
  refine lv_aload_n hx hb d_N_init_100 rfl (lv_at hl 0 rfl) ?_
  refine R_get C0 w 0 rfl rfl inN 0 (by decide) wd_339 rfl d_N_init_101 ?_
  refine lv_aload_n hx hb d_N_init_104 rfl (lv_at hl 0 rfl) ?_
  refine R_get C0 w 0 rfl rfl inN 2 (by decide) wd_341 rfl d_N_init_105 ?_
  refine lv_aload_n hx hb d_N_init_108 rfl (lv_at hl 0 rfl) ?_
  refine R_get C0 w 0 rfl rfl inN 3 (by decide) wd_342 rfl d_N_init_109 ?_
  refine lv_aload_n hx hb d_N_init_112 rfl (lv_at hl 0 rfl) ?_
  refine R_get C0 w 0 rfl rfl inN 4 (by decide) wd_343 rfl d_N_init_113 ?_
  refine R_iv C0 w (rest := [.ref o7, .ref h]) (wr := [(h, .inr (0, [.ref o1, .ref o3, .ref o4, .ref o5, .ref o6, .null, .int 0])), (o1, .inr (1, fP 0 qp2)), ((qp2 1), .inl (cI, 10, .inl (fun _ => 0))), ((qp2 6), .inl (cI, 10, .inl (fun _ => 0))), ((qp2 7), .inl (cI, 10, .inl (fun _ => 0))), ((qp2 8), .inl (cI, 10, .inl (fun _ => 0))), ((qp2 9), .inl (cI, 10, .inl (fun _ => 0)))]) [7] [0, 1, 2, 3, 4, 5, 6] (c_A_init l D cI cB cJ o7 o1 o4 o5 o6) rfl rfl rfl rfl (by decide) wd_288 wd_286 wd_287 wd_7 rfl (n9 := 4) (by decide +kernel) rfl ⟨(Nat.le_of_ble_eq_true rfl), (Nat.le_of_ble_eq_true rfl)⟩ hl.1 rfl (Nat.le_of_ble_eq_true rfl) d_N_init_116 (Nat.le_of_ble_eq_true rfl) (Nat.le_of_ble_eq_true rfl) (fun t9 H locs ht9 hB9 hj9 => ?_)
  obtain ⟨qm8, hE9⟩ := hB9
  have w := hj9 _ hE9
  refine W.cs (cells' := 132) (slots' := 1917) rfl rfl ?_
  have w : Wd D A s [(h, .inr (0, [.ref o1, .ref o3, .ref o4, .ref o5, .ref o6, .null, .int 0])), (o1, .inr (1, fP 0 qp2)), ((qp2 1), .inl (cI, 10, .inl (fun _ => 0))), ((qp2 6), .inl (cI, 10, .inl (fun _ => 0))), ((qp2 7), .inl (cI, 10, .inl (fun _ => 0))), ((qp2 8), .inl (cI, 10, .inl (fun _ => 0))), ((qp2 9), .inl (cI, 10, .inl (fun _ => 0))), (o7, .inr (6, fA 0 qm8)), ((qm8 5), .inl (cI, 16, .inl (fun _ => 0)))] H _ := w
  refine R_putF C0 w 0 rfl rfl inN tyN_ok nmN 5 (by decide) wd_344 rfl hin rfl rfl rfl (Nat.le_of_ble_eq_true rfl) d_N_init_119 (fun H locs w => ?_)
  have w : Wd D A s [(h, .inr (0, [.ref o1, .ref o3, .ref o4, .ref o5, .ref o6, .ref o7, .int 0])), (o1, .inr (1, fP 0 qp2)), ((qp2 1), .inl (cI, 10, .inl (fun _ => 0))), ((qp2 6), .inl (cI, 10, .inl (fun _ => 0))), ((qp2 7), .inl (cI, 10, .inl (fun _ => 0))), ((qp2 8), .inl (cI, 10, .inl (fun _ => 0))), ((qp2 9), .inl (cI, 10, .inl (fun _ => 0))), (o7, .inr (6, fA 0 qm8)), ((qm8 5), .inl (cI, 16, .inl (fun _ => 0)))] H _ := w
  refine lv_aload_n hx hb d_N_init_122 rfl (lv_at hl 0 rfl) ?_
  refine lv_iconst (v := 0) hx hb d_N_init_123 (by decide) ?_
  refine R_put C0 w 0 rfl rfl inN tyN_ok nmN 6 (by decide) wd_345 rfl nz0 fz0 (Nat.le_of_ble_eq_true rfl) d_N_init_124 (fun H locs w => ?_)
  have w : Wd D A s [(h, .inr (0, [.ref o1, .ref o3, .ref o4, .ref o5, .ref o6, .ref o7, .int 0])), (o1, .inr (1, fP 0 qp2)), ((qp2 1), .inl (cI, 10, .inl (fun _ => 0))), ((qp2 6), .inl (cI, 10, .inl (fun _ => 0))), ((qp2 7), .inl (cI, 10, .inl (fun _ => 0))), ((qp2 8), .inl (cI, 10, .inl (fun _ => 0))), ((qp2 9), .inl (cI, 10, .inl (fun _ => 0))), (o7, .inr (6, fA 0 qm8)), ((qm8 5), .inl (cI, 16, .inl (fun _ => 0)))] H _ := w
  exact hret _ _ _ _ d_N_init_127 w.2.2.1 (fun t ht => ⟨fun k => [o1, o3, o4, o5, o6, o7, 0].getD k 0, qp2, qm8, by rw [ht]; exact (w.sub [0, 1, 7, 2, 3, 4, 5, 6, 8] rfl rfl).1, (w.sub [0, 1, 7, 2, 3, 4, 5, 6, 8] rfl rfl).2.1⟩)
end
section
set_option maxHeartbeats 4000000 in
set_option maxRecDepth 100000 in
theorem c_has (l : Launch) (D : va_G) (cI cB cJ : ClassId) (h : Nat) (q : Nat → Nat) (b : Int32) : KR l D cI cB cJ y_P_has b_P_has 2 (some .boolean) 0 0 [.ref h, .int b] [(h, .inr (1, fP 0 q))] 0 := by
  refine KR.ofW (by decide) (Nat.le_of_ble_eq_true rfl) rfl rfl ?_
  intro p e s m args below meth c A Q ls C0 hl w hret
  have hx := C0.1
  have hb := C0.2.1
  have hl : lv_has ls 2 [(0, .ref h), (1, .int b)] := hl
  refine lv_iload_n hx hb d_P_has_0 rfl (lv_at hl 1 rfl) ?_
  refine lv_if_lt (tgt := 16) hx hb d_P_has_1 (by decide) (fun hc1 => ?_) (fun hc1 => ?_)
  · refine lv_iconst (v := 0) hx hb d_P_has_16 (by decide) ?_
    exact hret _ _ d_P_has_17
  · refine lv_iload_n hx hb d_P_has_4 rfl (lv_at hl 1 rfl) ?_
    refine lv_aload_n hx hb d_P_has_5 rfl (lv_at hl 0 rfl) ?_
    refine R_get C0 w 0 rfl rfl inP 0 (by decide) wd_34 rfl d_P_has_6 ?_
    refine lv_icmp_ge (tgt := 16) hx hb d_P_has_9 (by decide) (fun hc9 => ?_) (fun hc => absurd (Int32.not_lt.mp hc1) hc)
    refine lv_iconst (v := 0) hx hb d_P_has_16 (by decide) ?_
    exact hret _ _ d_P_has_17
set_option maxHeartbeats 4000000 in
set_option maxRecDepth 100000 in
theorem c_setEnd (l : Launch) (D : va_G) (cI cB cJ : ClassId) (h : Nat) (q : Nat → Nat) : KV l D cI cB cJ y_P_setEnd b_P_setEnd 6 0 0 0 0 [.ref h, .int 0, .int 0, .int 0, .int 0, .int 0] [(h, .inr (1, fP 0 q)), ((q 6), .inl (cI, 10, .inl (fun _ => 0))), ((q 7), .inl (cI, 10, .inl (fun _ => 0))), ((q 8), .inl (cI, 10, .inl (fun _ => 0))), ((q 9), .inl (cI, 10, .inl (fun _ => 0)))] (fun A t => CE D [(h, .inr (1, fP 0 q))] A t) := by
  refine KV.ofW (by decide) (Nat.le_of_ble_eq_true rfl) ?_
  intro p e s m args below meth c A Q ls C0 hin hl w hret
  have hin : meth.name = "setEnd" := hin
  have hx := C0.1
  have hb := C0.2.1
  have hl : lv_has ls 6 [(0, .ref h), (1, .int 0), (2, .int 0), (3, .int 0), (4, .int 0), (5, .int 0)] := hl
  refine lv_aload_n hx hb d_P_setEnd_0 rfl (lv_at hl 0 rfl) ?_
  refine R_get C0 w 0 rfl rfl inP 6 (by decide) wd_60 rfl d_P_setEnd_1 ?_
  refine lv_iload_n hx hb d_P_setEnd_4 rfl (lv_at hl 1 rfl) ?_
  refine lv_iload_n hx hb d_P_setEnd_5 rfl (lv_at hl 2 rfl) ?_
  refine R_ast C0 w 1 rfl (vin (by decide)) d_P_setEnd_6 (fun H locs w => ?_)
  have w : Wd D A s [(h, .inr (1, fP 0 q)), ((q 6), .inl (cI, 10, .inl (upd (fun _ => 0) (0 : Int32).toNatClampNeg 0))), ((q 7), .inl (cI, 10, .inl (fun _ => 0))), ((q 8), .inl (cI, 10, .inl (fun _ => 0))), ((q 9), .inl (cI, 10, .inl (fun _ => 0)))] H _ := w
  refine lv_aload_n hx hb d_P_setEnd_7 rfl (lv_at hl 0 rfl) ?_
  refine R_get C0 w 0 rfl rfl inP 7 (by decide) wd_63 rfl d_P_setEnd_8 ?_
  refine lv_iload_n hx hb d_P_setEnd_11 rfl (lv_at hl 1 rfl) ?_
  refine lv_iload_n hx hb d_P_setEnd_12 rfl (lv_at hl 3 rfl) ?_
  refine R_ast C0 w 2 rfl (vin (by decide)) d_P_setEnd_13 (fun H locs w => ?_)
  have w : Wd D A s [(h, .inr (1, fP 0 q)), ((q 6), .inl (cI, 10, .inl (upd (fun _ => 0) (0 : Int32).toNatClampNeg 0))), ((q 7), .inl (cI, 10, .inl (upd (fun _ => 0) (0 : Int32).toNatClampNeg 0))), ((q 8), .inl (cI, 10, .inl (fun _ => 0))), ((q 9), .inl (cI, 10, .inl (fun _ => 0)))] H _ := w
  refine lv_aload_n hx hb d_P_setEnd_14 rfl (lv_at hl 0 rfl) ?_
  refine R_get C0 w 0 rfl rfl inP 8 (by decide) wd_66 rfl d_P_setEnd_15 ?_
  refine lv_iload_n hx hb d_P_setEnd_18 rfl (lv_at hl 1 rfl) ?_
  refine lv_iload hx hb d_P_setEnd_19 (lv_at hl 4 rfl) ?_
  refine R_ast C0 w 3 rfl (vin (by decide)) d_P_setEnd_21 (fun H locs w => ?_)
  have w : Wd D A s [(h, .inr (1, fP 0 q)), ((q 6), .inl (cI, 10, .inl (upd (fun _ => 0) (0 : Int32).toNatClampNeg 0))), ((q 7), .inl (cI, 10, .inl (upd (fun _ => 0) (0 : Int32).toNatClampNeg 0))), ((q 8), .inl (cI, 10, .inl (upd (fun _ => 0) (0 : Int32).toNatClampNeg 0))), ((q 9), .inl (cI, 10, .inl (fun _ => 0)))] H _ := w
  refine lv_aload_n hx hb d_P_setEnd_22 rfl (lv_at hl 0 rfl) ?_
  refine R_get C0 w 0 rfl rfl inP 9 (by decide) wd_69 rfl d_P_setEnd_23 ?_
  refine lv_iload_n hx hb d_P_setEnd_26 rfl (lv_at hl 1 rfl) ?_
  refine lv_iload hx hb d_P_setEnd_27 (lv_at hl 5 rfl) ?_
  refine R_ast C0 w 4 rfl (vin (by decide)) d_P_setEnd_29 (fun H locs w => ?_)
  have w : Wd D A s [(h, .inr (1, fP 0 q)), ((q 6), .inl (cI, 10, .inl (upd (fun _ => 0) (0 : Int32).toNatClampNeg 0))), ((q 7), .inl (cI, 10, .inl (upd (fun _ => 0) (0 : Int32).toNatClampNeg 0))), ((q 8), .inl (cI, 10, .inl (upd (fun _ => 0) (0 : Int32).toNatClampNeg 0))), ((q 9), .inl (cI, 10, .inl (upd (fun _ => 0) (0 : Int32).toNatClampNeg 0)))] H _ := w
  exact hret _ _ _ _ d_P_setEnd_30 w.2.2.1 (fun t ht => ⟨by rw [ht]; exact (w.sub [0] rfl rfl).1, (w.sub [0] rfl rfl).2.1⟩)
set_option maxHeartbeats 4000000 in
set_option maxRecDepth 100000 in
theorem c_addBlock (l : Launch) (D : va_G) (cI cB cJ : ClassId) (h : Nat) (q : Nat → Nat) : KI l D cI cB cJ y_P_addBlock b_P_addBlock 2 (some .int) 1 25 [.ref h] [(h, .inr (1, fP 0 q)), ((q 1), .inl (cI, 10, .inl (fun _ => 0))), ((q 6), .inl (cI, 10, .inl (fun _ => 0))), ((q 7), .inl (cI, 10, .inl (fun _ => 0))), ((q 8), .inl (cI, 10, .inl (fun _ => 0))), ((q 9), .inl (cI, 10, .inl (fun _ => 0)))] 0 [] := by
  refine KI.ofW (by decide) (Nat.le_of_ble_eq_true rfl) rfl rfl ?_
  intro p e s m args below meth c A Q ls C0 hl w hret
  have hx := C0.1
  have hb := C0.2.1
  have hl : lv_has ls 2 [(0, .ref h)] := hl
  refine lv_aload_n hx hb d_P_addBlock_0 rfl (lv_at hl 0 rfl) ?_
  refine R_get C0 w 0 rfl rfl inP 0 (by decide) wd_34 rfl d_P_addBlock_1 ?_
  refine lv_istore_n hx hb d_P_addBlock_4 rfl hl (by decide) rfl (fun ls hl => ?_)
  have hl : lv_has ls 2 [(1, .int 0), (0, .ref h)] := hl
  refine lv_aload_n hx hb d_P_addBlock_5 rfl (lv_at hl 1 rfl) ?_
  refine R_get C0 w 0 rfl rfl inP 1 (by decide) wd_39 rfl d_P_addBlock_6 ?_
  refine lv_iload_n hx hb d_P_addBlock_9 rfl (lv_at hl 0 rfl) ?_
  refine lv_iconst (v := 0) hx hb d_P_addBlock_10 (by decide) ?_
  refine R_ast C0 w 1 rfl (vin (by decide)) d_P_addBlock_11 (fun H locs w => ?_)
  have w : Wd D A s [(h, .inr (1, fP 0 q)), ((q 1), .inl (cI, 10, .inl (upd (fun _ => 0) (0 : Int32).toNatClampNeg 0))), ((q 6), .inl (cI, 10, .inl (fun _ => 0))), ((q 7), .inl (cI, 10, .inl (fun _ => 0))), ((q 8), .inl (cI, 10, .inl (fun _ => 0))), ((q 9), .inl (cI, 10, .inl (fun _ => 0)))] H _ := w
  refine lv_aload_n hx hb d_P_addBlock_12 rfl (lv_at hl 1 rfl) ?_
  refine lv_iload_n hx hb d_P_addBlock_13 rfl (lv_at hl 0 rfl) ?_
  refine lv_iconst (v := 0) hx hb d_P_addBlock_14 (by decide) ?_
  refine lv_iconst (v := 0) hx hb d_P_addBlock_15 (by decide) ?_
  refine lv_iconst (v := 0) hx hb d_P_addBlock_16 (by decide) ?_
  refine lv_iconst (v := 0) hx hb d_P_addBlock_17 (by decide) ?_
  refine R_vv C0 w (rest := []) (wr := [((q 1), .inl (cI, 10, .inl (upd (fun _ => 0) (0 : Int32).toNatClampNeg 0)))]) (w1 := [(h, .inr (1, fP 0 q))]) 0 rfl rfl [0, 2, 3, 4, 5] [1] (c_setEnd l D cI cB cJ h q) rfl rfl rfl rfl (by decide) wd_468 wd_465 wd_466 wd_467 wd_2 (n9 := 5) (by decide +kernel) rfl ⟨(Nat.le_of_ble_eq_true rfl), (Nat.le_of_ble_eq_true rfl)⟩ hl.1 rfl (Nat.le_of_ble_eq_true rfl) d_P_addBlock_18 (Nat.le_of_ble_eq_true rfl) (Nat.le_of_ble_eq_true rfl) (fun H locs w => ?_)
  have w : Wd D A s [((q 1), .inl (cI, 10, .inl (upd (fun _ => 0) (0 : Int32).toNatClampNeg 0))), (h, .inr (1, fP 0 q))] H _ := w
  refine lv_aload_n hx hb d_P_addBlock_21 rfl (lv_at hl 1 rfl) ?_
  refine lv_dup hx hb d_P_addBlock_22 rfl ?_
  refine R_get C0 w 1 rfl rfl inP 0 (by decide) wd_34 rfl d_P_addBlock_23 ?_
  refine lv_iconst (v := 1) hx hb d_P_addBlock_26 (by decide) ?_
  refine lv_iadd hx hb d_P_addBlock_27 ?_
  refine lv_cst (x := 0 + 1) (y := 1) (by decide) ?_
  refine R_put C0 w 1 rfl rfl inP tyP_ok nmP 0 (by decide) wd_34 rfl rfl rfl (Nat.le_of_ble_eq_true rfl) d_P_addBlock_28 (fun H locs w => ?_)
  have w : Wd D A s [((q 1), .inl (cI, 10, .inl (upd (fun _ => 0) (0 : Int32).toNatClampNeg 0))), (h, .inr (1, fP 1 q))] H _ := w
  refine lv_iload_n hx hb d_P_addBlock_31 rfl (lv_at hl 0 rfl) ?_
  exact hret _ _ _ _ d_P_addBlock_32 (w.sub [] rfl rfl)
set_option maxHeartbeats 4000000 in
set_option maxRecDepth 100000 in
theorem c_N_block (l : Launch) (D : va_G) (cI cB cJ : ClassId) (h : Nat) (qn : Nat → Nat) (qp : Nat → Nat) : KI l D cI cB cJ y_N_block b_N_block 1 (some .int) 2 46 [.ref h] [(h, .inr (0, fN 0 qn)), ((qn 0), .inr (1, fP 0 qp)), ((qp 1), .inl (cI, 10, .inl (fun _ => 0))), ((qp 6), .inl (cI, 10, .inl (fun _ => 0))), ((qp 7), .inl (cI, 10, .inl (fun _ => 0))), ((qp 8), .inl (cI, 10, .inl (fun _ => 0))), ((qp 9), .inl (cI, 10, .inl (fun _ => 0)))] 0 [] := by
  refine KI.ofW (by decide) (Nat.le_of_ble_eq_true rfl) rfl rfl ?_
  intro p e s m args below meth c A Q ls C0 hl w hret
  have hx := C0.1
  have hb := C0.2.1
  have hl : lv_has ls 1 [(0, .ref h)] := hl
  refine lv_aload_n hx hb d_N_block_0 rfl (lv_at hl 0 rfl) ?_
  refine R_get C0 w 0 rfl rfl inN 0 (by decide) wd_339 rfl d_N_block_1 ?_
  refine R_get C0 w 1 rfl rfl inP 0 (by decide) wd_33 rfl d_N_block_4 ?_
  refine lv_bipush (v := 10) hx hb d_N_block_7 (by decide) ?_
  refine lv_icmp_lt (tgt := 22) hx hb d_N_block_9 (by decide) (fun hc9 => ?_) (fun hc => absurd (by decide) hc)
  refine lv_aload_n hx hb d_N_block_22 rfl (lv_at hl 0 rfl) ?_
  refine lv_iconst (v := 0) hx hb d_N_block_23 (by decide) ?_
  refine R_put C0 w 0 rfl rfl inN tyN_ok nmN 6 (by decide) wd_345 rfl nz0 fz0 (Nat.le_of_ble_eq_true rfl) d_N_block_24 (fun H locs w => ?_)
  have w : Wd D A s [(h, .inr (0, fN 0 qn)), ((qn 0), .inr (1, fP 0 qp)), ((qp 1), .inl (cI, 10, .inl (fun _ => 0))), ((qp 6), .inl (cI, 10, .inl (fun _ => 0))), ((qp 7), .inl (cI, 10, .inl (fun _ => 0))), ((qp 8), .inl (cI, 10, .inl (fun _ => 0))), ((qp 9), .inl (cI, 10, .inl (fun _ => 0)))] H _ := w
  refine lv_aload_n hx hb d_N_block_27 rfl (lv_at hl 0 rfl) ?_
  refine R_get C0 w 0 rfl rfl inN 0 (by decide) wd_339 rfl d_N_block_28 ?_
  refine R_vi C0 w (rest := []) (wr := [(h, .inr (0, fN 0 qn))]) (w1 := []) 1 rfl rfl [1, 2, 3, 4, 5, 6] [0] (c_addBlock l D cI cB cJ (qn 0) qp) rfl rfl rfl rfl (by decide) wd_464 wd_461 wd_462 wd_463 wd_2 (n9 := 0) (by decide +kernel) rfl ⟨(Nat.le_of_ble_eq_true rfl), (Nat.le_of_ble_eq_true rfl)⟩ hl.1 rfl (Nat.le_of_ble_eq_true rfl) d_N_block_31 (Nat.le_of_ble_eq_true rfl) (Nat.le_of_ble_eq_true rfl) (fun H locs w => ?_)
  have w : Wd D A s [(h, .inr (0, fN 0 qn))] H _ := w
  exact hret _ _ _ _ d_N_block_34 (w.sub [] rfl rfl)
set_option maxHeartbeats 4000000 in
set_option maxRecDepth 100000 in
theorem c_N_put (l : Launch) (D : va_G) (cI cB cJ : ClassId) (h : Nat) (qn : Nat → Nat) (qp : Nat → Nat) (b : Int32) (k : Int32) (d : Int32) (x : Int32) (y : Int32) (htl : l.stackTraces = false) : KX l D cI cB cJ y_N_put b_N_put 6 (some .int) 6 82 [.ref h, .int b, .int k, .int d, .int x, .int y] [(h, .inr (0, fN 0 qn)), ((qn 0), .inr (1, fP 0 qp))] "java/lang/IllegalArgumentException" := by
  refine KX.ofB (by decide) (Nat.le_of_ble_eq_true rfl) ?_
  intro p e s m args below meth c A ls C0 hemp hlk hl w
  have hx := C0.1
  have hb := C0.2.1
  have hl : lv_has ls 6 [(0, .ref h), (1, .int b), (2, .int k), (3, .int d), (4, .int x), (5, .int y)] := hl
  refine lv_aload_n hx hb d_N_put_0 rfl (lv_at hl 0 rfl) ?_
  refine R_get C0 w 0 rfl rfl inN 0 (by decide) wd_339 rfl d_N_put_1 ?_
  refine lv_iload_n hx hb d_N_put_4 rfl (lv_at hl 1 rfl) ?_
  refine R_ri C0 w (rest := []) 1 rfl rfl [1] (c_has l D cI cB cJ (qn 0) qp b) rfl rfl wd_480 wd_477 wd_478 wd_479 wd_2 (n9 := 1) (by decide +kernel) rfl ⟨(Nat.le_of_ble_eq_true rfl), (Nat.le_of_ble_eq_true rfl)⟩ hl.1 rfl (Nat.le_of_ble_eq_true rfl) d_N_put_5 (Nat.le_of_ble_eq_true rfl) (Nat.le_of_ble_eq_true rfl) ?_
  refine lv_if_eq (tgt := 23) hx hb d_N_put_8 (by decide) (fun hc8 => ?_) (fun hc => absurd (by decide) hc)
  exact R_throw C0 htl (ix := ix_IllegalArgumentException) (rx := rx_IllegalArgumentException) (names := up_IllegalArgumentException) (tx := "no such block, kind or variable") xa_IllegalArgumentException xb_IllegalArgumentException xc_IllegalArgumentException xd_IllegalArgumentException (by decide) (by decide) rfl at_IllegalArgumentException wd_496 wd_13 wd_497 (by decide) hl.1 d_N_put_23 d_N_put_26 d_N_put_27 d_N_put_29 d_N_put_32 hemp hlk (Nat.le_of_ble_eq_true rfl) (Nat.le_of_ble_eq_true rfl) (Nat.le_of_ble_eq_true rfl) (Nat.le_of_ble_eq_true rfl)
set_option maxHeartbeats 4000000 in
set_option maxRecDepth 100000 in
theorem c_N_go (l : Launch) (D : va_G) (cI cB cJ : ClassId) (h : Nat) (qn : Nat → Nat) (qp : Nat → Nat) (b : Int32) (t : Int32) (htl : l.stackTraces = false) : KX l D cI cB cJ y_N_go b_N_go 3 none 6 82 [.ref h, .int b, .int t] [(h, .inr (0, fN 0 qn)), ((qn 0), .inr (1, fP 0 qp))] "java/lang/IllegalArgumentException" := by
  refine KX.ofB (by decide) (Nat.le_of_ble_eq_true rfl) ?_
  intro p e s m args below meth c A ls C0 hemp hlk hl w
  have hx := C0.1
  have hb := C0.2.1
  have hl : lv_has ls 3 [(0, .ref h), (1, .int b), (2, .int t)] := hl
  refine lv_aload_n hx hb d_N_go_0 rfl (lv_at hl 0 rfl) ?_
  refine R_get C0 w 0 rfl rfl inN 0 (by decide) wd_339 rfl d_N_go_1 ?_
  refine lv_iload_n hx hb d_N_go_4 rfl (lv_at hl 1 rfl) ?_
  refine R_ri C0 w (rest := []) 1 rfl rfl [1] (c_has l D cI cB cJ (qn 0) qp b) rfl rfl wd_480 wd_477 wd_478 wd_479 wd_2 (n9 := 1) (by decide +kernel) rfl ⟨(Nat.le_of_ble_eq_true rfl), (Nat.le_of_ble_eq_true rfl)⟩ hl.1 rfl (Nat.le_of_ble_eq_true rfl) d_N_go_5 (Nat.le_of_ble_eq_true rfl) (Nat.le_of_ble_eq_true rfl) ?_
  refine lv_if_eq (tgt := 22) hx hb d_N_go_8 (by decide) (fun hc8 => ?_) (fun hc => absurd (by decide) hc)
  exact R_throw C0 htl (ix := ix_IllegalArgumentException) (rx := rx_IllegalArgumentException) (names := up_IllegalArgumentException) (tx := "no such block, or none to go to") xa_IllegalArgumentException xb_IllegalArgumentException xc_IllegalArgumentException xd_IllegalArgumentException (by decide) (by decide) rfl at_IllegalArgumentException wd_496 wd_13 wd_497 (by decide) hl.1 d_N_go_22 d_N_go_25 d_N_go_26 d_N_go_28 d_N_go_31 hemp hlk (Nat.le_of_ble_eq_true rfl) (Nat.le_of_ble_eq_true rfl) (Nat.le_of_ble_eq_true rfl) (Nat.le_of_ble_eq_true rfl)
set_option maxHeartbeats 4000000 in
set_option maxRecDepth 100000 in
theorem c_N_fork (l : Launch) (D : va_G) (cI cB cJ : ClassId) (h : Nat) (qn : Nat → Nat) (qp : Nat → Nat) (b : Int32) (x : Int32) (t : Int32) (u : Int32) (htl : l.stackTraces = false) : KX l D cI cB cJ y_N_fork b_N_fork 5 none 6 82 [.ref h, .int b, .int x, .int t, .int u] [(h, .inr (0, fN 0 qn)), ((qn 0), .inr (1, fP 0 qp))] "java/lang/IllegalArgumentException" := by
  refine KX.ofB (by decide) (Nat.le_of_ble_eq_true rfl) ?_
  intro p e s m args below meth c A ls C0 hemp hlk hl w
  have hx := C0.1
  have hb := C0.2.1
  have hl : lv_has ls 5 [(0, .ref h), (1, .int b), (2, .int x), (3, .int t), (4, .int u)] := hl
  refine lv_aload_n hx hb d_N_fork_0 rfl (lv_at hl 0 rfl) ?_
  refine R_get C0 w 0 rfl rfl inN 0 (by decide) wd_339 rfl d_N_fork_1 ?_
  refine lv_iload_n hx hb d_N_fork_4 rfl (lv_at hl 1 rfl) ?_
  refine R_ri C0 w (rest := []) 1 rfl rfl [1] (c_has l D cI cB cJ (qn 0) qp b) rfl rfl wd_480 wd_477 wd_478 wd_479 wd_2 (n9 := 1) (by decide +kernel) rfl ⟨(Nat.le_of_ble_eq_true rfl), (Nat.le_of_ble_eq_true rfl)⟩ hl.1 rfl (Nat.le_of_ble_eq_true rfl) d_N_fork_5 (Nat.le_of_ble_eq_true rfl) (Nat.le_of_ble_eq_true rfl) ?_
  refine lv_if_eq (tgt := 41) hx hb d_N_fork_8 (by decide) (fun hc8 => ?_) (fun hc => absurd (by decide) hc)
  exact R_throw C0 htl (ix := ix_IllegalArgumentException) (rx := rx_IllegalArgumentException) (names := up_IllegalArgumentException) (tx := "no such block or variable, or none to go to") xa_IllegalArgumentException xb_IllegalArgumentException xc_IllegalArgumentException xd_IllegalArgumentException (by decide) (by decide) rfl at_IllegalArgumentException wd_496 wd_13 wd_497 (by decide) hl.1 d_N_fork_41 d_N_fork_44 d_N_fork_45 d_N_fork_47 d_N_fork_50 hemp hlk (Nat.le_of_ble_eq_true rfl) (Nat.le_of_ble_eq_true rfl) (Nat.le_of_ble_eq_true rfl) (Nat.le_of_ble_eq_true rfl)
set_option maxHeartbeats 4000000 in
set_option maxRecDepth 100000 in
theorem c_N_stop (l : Launch) (D : va_G) (cI cB cJ : ClassId) (h : Nat) (qn : Nat → Nat) (qp : Nat → Nat) (b : Int32) (htl : l.stackTraces = false) : KX l D cI cB cJ y_N_stop b_N_stop 2 none 6 82 [.ref h, .int b] [(h, .inr (0, fN 0 qn)), ((qn 0), .inr (1, fP 0 qp))] "java/lang/IllegalArgumentException" := by
  refine KX.ofB (by decide) (Nat.le_of_ble_eq_true rfl) ?_
  intro p e s m args below meth c A ls C0 hemp hlk hl w
  have hx := C0.1
  have hb := C0.2.1
  have hl : lv_has ls 2 [(0, .ref h), (1, .int b)] := hl
  refine lv_aload_n hx hb d_N_stop_0 rfl (lv_at hl 0 rfl) ?_
  refine R_get C0 w 0 rfl rfl inN 0 (by decide) wd_339 rfl d_N_stop_1 ?_
  refine lv_iload_n hx hb d_N_stop_4 rfl (lv_at hl 1 rfl) ?_
  refine R_ri C0 w (rest := []) 1 rfl rfl [1] (c_has l D cI cB cJ (qn 0) qp b) rfl rfl wd_480 wd_477 wd_478 wd_479 wd_2 (n9 := 1) (by decide +kernel) rfl ⟨(Nat.le_of_ble_eq_true rfl), (Nat.le_of_ble_eq_true rfl)⟩ hl.1 rfl (Nat.le_of_ble_eq_true rfl) d_N_stop_5 (Nat.le_of_ble_eq_true rfl) (Nat.le_of_ble_eq_true rfl) ?_
  refine lv_if_ne (tgt := 21) hx hb d_N_stop_8 (by decide) (fun hc => absurd (by decide) hc) (fun hc8 => ?_)
  exact R_throw C0 htl (ix := ix_IllegalArgumentException) (rx := rx_IllegalArgumentException) (names := up_IllegalArgumentException) (tx := "no such block") xa_IllegalArgumentException xb_IllegalArgumentException xc_IllegalArgumentException xd_IllegalArgumentException (by decide) (by decide) rfl at_IllegalArgumentException wd_496 wd_13 wd_497 (by decide) hl.1 d_N_stop_11 d_N_stop_14 d_N_stop_15 d_N_stop_17 d_N_stop_20 hemp hlk (Nat.le_of_ble_eq_true rfl) (Nat.le_of_ble_eq_true rfl) (Nat.le_of_ble_eq_true rfl) (Nat.le_of_ble_eq_true rfl)
set_option maxHeartbeats 4000000 in
set_option maxRecDepth 100000 in
theorem c_N_build (l : Launch) (D : va_G) (cI cB cJ : ClassId) (h : Nat) (qn : Nat → Nat) (qp : Nat → Nat) (htl : l.stackTraces = false) : KX l D cI cB cJ y_N_build b_N_build 1 (some .int) 6 82 [.ref h] [(h, .inr (0, fN 0 qn)), ((qn 0), .inr (1, fP 0 qp))] "java/lang/IllegalStateException" := by
  refine KX.ofB (by decide) (Nat.le_of_ble_eq_true rfl) ?_
  intro p e s m args below meth c A ls C0 hemp hlk hl w
  have hx := C0.1
  have hb := C0.2.1
  have hl : lv_has ls 1 [(0, .ref h)] := hl
  refine lv_aload_n hx hb d_N_build_0 rfl (lv_at hl 0 rfl) ?_
  refine R_get C0 w 0 rfl rfl inN 0 (by decide) wd_339 rfl d_N_build_1 ?_
  refine R_get C0 w 1 rfl rfl inP 0 (by decide) wd_33 rfl d_N_build_4 ?_
  refine lv_if_ne (tgt := 20) hx hb d_N_build_7 (by decide) (fun hc => absurd (by decide) hc) (fun hc7 => ?_)
  exact R_throw C0 htl (ix := ix_IllegalStateException) (rx := rx_IllegalStateException) (names := up_IllegalStateException) (tx := "there is no block") xa_IllegalStateException xb_IllegalStateException xc_IllegalStateException xd_IllegalStateException (by decide) (by decide) rfl at_IllegalStateException wd_393 wd_12 wd_394 (by decide) hl.1 d_N_build_10 d_N_build_13 d_N_build_14 d_N_build_16 d_N_build_19 hemp hlk (Nat.le_of_ble_eq_true rfl) (Nat.le_of_ble_eq_true rfl) (Nat.le_of_ble_eq_true rfl) (Nat.le_of_ble_eq_true rfl)
set_option maxHeartbeats 4000000 in
set_option maxRecDepth 100000 in
theorem c_N_look (l : Launch) (D : va_G) (cI cB cJ : ClassId) (h : Nat) (qn : Nat → Nat) (qp : Nat → Nat) (b : Int32) (k : Int32) (htl : l.stackTraces = false) : KX l D cI cB cJ y_N_look b_N_look 3 (some .int) 6 82 [.ref h, .int b, .int k] [(h, .inr (0, fN 0 qn)), ((qn 0), .inr (1, fP 0 qp))] "java/util/NoSuchElementException" := by
  refine KX.ofB (by decide) (Nat.le_of_ble_eq_true rfl) ?_
  intro p e s m args below meth c A ls C0 hemp hlk hl w
  have hx := C0.1
  have hb := C0.2.1
  have hl : lv_has ls 3 [(0, .ref h), (1, .int b), (2, .int k)] := hl
  refine lv_aload_n hx hb d_N_look_0 rfl (lv_at hl 0 rfl) ?_
  refine R_get C0 w 0 rfl rfl inN 0 (by decide) wd_339 rfl d_N_look_1 ?_
  refine lv_iload_n hx hb d_N_look_4 rfl (lv_at hl 1 rfl) ?_
  refine R_ri C0 w (rest := []) 1 rfl rfl [1] (c_has l D cI cB cJ (qn 0) qp b) rfl rfl wd_480 wd_477 wd_478 wd_479 wd_2 (n9 := 1) (by decide +kernel) rfl ⟨(Nat.le_of_ble_eq_true rfl), (Nat.le_of_ble_eq_true rfl)⟩ hl.1 rfl (Nat.le_of_ble_eq_true rfl) d_N_look_5 (Nat.le_of_ble_eq_true rfl) (Nat.le_of_ble_eq_true rfl) ?_
  refine lv_if_eq (tgt := 20) hx hb d_N_look_8 (by decide) (fun hc8 => ?_) (fun hc => absurd (by decide) hc)
  exact R_throw C0 htl (ix := ix_NoSuchElementException) (rx := rx_NoSuchElementException) (names := up_NoSuchElementException) (tx := "no such block or what") xa_NoSuchElementException xb_NoSuchElementException xc_NoSuchElementException xd_NoSuchElementException (by decide) (by decide) rfl at_NoSuchElementException wd_696 wd_15 wd_697 (by decide) hl.1 d_N_look_20 d_N_look_23 d_N_look_24 d_N_look_26 d_N_look_29 hemp hlk (Nat.le_of_ble_eq_true rfl) (Nat.le_of_ble_eq_true rfl) (Nat.le_of_ble_eq_true rfl) (Nat.le_of_ble_eq_true rfl)
set_option maxHeartbeats 4000000 in
set_option maxRecDepth 100000 in
theorem c_N_phi (l : Launch) (D : va_G) (cI cB cJ : ClassId) (h : Nat) (qn : Nat → Nat) (b : Int32) (k : Int32) (x : Int32) (htl : l.stackTraces = false) : KX l D cI cB cJ y_N_phi b_N_phi 5 (some .int) 6 82 [.ref h, .int b, .int k, .int x] [(h, .inr (0, fN 0 qn))] "java/lang/IllegalStateException" := by
  refine KX.ofB (by decide) (Nat.le_of_ble_eq_true rfl) ?_
  intro p e s m args below meth c A ls C0 hemp hlk hl w
  have hx := C0.1
  have hb := C0.2.1
  have hl : lv_has ls 5 [(0, .ref h), (1, .int b), (2, .int k), (3, .int x)] := hl
  refine lv_aload_n hx hb d_N_phi_0 rfl (lv_at hl 0 rfl) ?_
  refine R_get C0 w 0 rfl rfl inN 6 (by decide) wd_345 rfl d_N_phi_1 ?_
  refine lv_if_ne (tgt := 17) hx hb d_N_phi_4 (by decide) (fun hc => absurd (by decide) hc) (fun hc4 => ?_)
  exact R_throw C0 htl (ix := ix_IllegalStateException) (rx := rx_IllegalStateException) (names := up_IllegalStateException) (tx := "it is not built") xa_IllegalStateException xb_IllegalStateException xc_IllegalStateException xd_IllegalStateException (by decide) (by decide) rfl at_IllegalStateException wd_393 wd_12 wd_394 (by decide) hl.1 d_N_phi_7 d_N_phi_10 d_N_phi_11 d_N_phi_13 d_N_phi_16 hemp hlk (Nat.le_of_ble_eq_true rfl) (Nat.le_of_ble_eq_true rfl) (Nat.le_of_ble_eq_true rfl) (Nat.le_of_ble_eq_true rfl)
set_option maxHeartbeats 4000000 in
set_option maxRecDepth 100000 in
theorem c_N_uses (l : Launch) (D : va_G) (cI cB cJ : ClassId) (h : Nat) (qn : Nat → Nat) (b : Int32) (k : Int32) (x : Int32) (htl : l.stackTraces = false) : KX l D cI cB cJ y_N_uses b_N_uses 4 (some .int) 6 82 [.ref h, .int b, .int k, .int x] [(h, .inr (0, fN 0 qn))] "java/lang/IllegalStateException" := by
  refine KX.ofB (by decide) (Nat.le_of_ble_eq_true rfl) ?_
  intro p e s m args below meth c A ls C0 hemp hlk hl w
  have hx := C0.1
  have hb := C0.2.1
  have hl : lv_has ls 4 [(0, .ref h), (1, .int b), (2, .int k), (3, .int x)] := hl
  refine lv_aload_n hx hb d_N_uses_0 rfl (lv_at hl 0 rfl) ?_
  refine R_get C0 w 0 rfl rfl inN 6 (by decide) wd_345 rfl d_N_uses_1 ?_
  refine lv_if_ne (tgt := 17) hx hb d_N_uses_4 (by decide) (fun hc => absurd (by decide) hc) (fun hc4 => ?_)
  exact R_throw C0 htl (ix := ix_IllegalStateException) (rx := rx_IllegalStateException) (names := up_IllegalStateException) (tx := "it is not built") xa_IllegalStateException xb_IllegalStateException xc_IllegalStateException xd_IllegalStateException (by decide) (by decide) rfl at_IllegalStateException wd_393 wd_12 wd_394 (by decide) hl.1 d_N_uses_7 d_N_uses_10 d_N_uses_11 d_N_uses_13 d_N_uses_16 hemp hlk (Nat.le_of_ble_eq_true rfl) (Nat.le_of_ble_eq_true rfl) (Nat.le_of_ble_eq_true rfl) (Nat.le_of_ble_eq_true rfl)
set_option maxHeartbeats 4000000 in
set_option maxRecDepth 100000 in
theorem c_N_name (l : Launch) (D : va_G) (cI cB cJ : ClassId) (h : Nat) (qn : Nat → Nat) (b : Int32) (k : Int32) (htl : l.stackTraces = false) : KX l D cI cB cJ y_N_name b_N_name 3 (some .int) 6 82 [.ref h, .int b, .int k] [(h, .inr (0, fN 0 qn))] "java/lang/IllegalStateException" := by
  refine KX.ofB (by decide) (Nat.le_of_ble_eq_true rfl) ?_
  intro p e s m args below meth c A ls C0 hemp hlk hl w
  have hx := C0.1
  have hb := C0.2.1
  have hl : lv_has ls 3 [(0, .ref h), (1, .int b), (2, .int k)] := hl
  refine lv_aload_n hx hb d_N_name_0 rfl (lv_at hl 0 rfl) ?_
  refine R_get C0 w 0 rfl rfl inN 6 (by decide) wd_345 rfl d_N_name_1 ?_
  refine lv_if_ne (tgt := 17) hx hb d_N_name_4 (by decide) (fun hc => absurd (by decide) hc) (fun hc4 => ?_)
  exact R_throw C0 htl (ix := ix_IllegalStateException) (rx := rx_IllegalStateException) (names := up_IllegalStateException) (tx := "it is not built") xa_IllegalStateException xb_IllegalStateException xc_IllegalStateException xd_IllegalStateException (by decide) (by decide) rfl at_IllegalStateException wd_393 wd_12 wd_394 (by decide) hl.1 d_N_name_7 d_N_name_10 d_N_name_11 d_N_name_13 d_N_name_16 hemp hlk (Nat.le_of_ble_eq_true rfl) (Nat.le_of_ble_eq_true rfl) (Nat.le_of_ble_eq_true rfl) (Nat.le_of_ble_eq_true rfl)
set_option maxHeartbeats 4000000 in
set_option maxRecDepth 100000 in
theorem c_N_runA (l : Launch) (D : va_G) (cI cB cJ : ClassId) (h : Nat) (qn : Nat → Nat) (b : Int32) (k : Int32) (htl : l.stackTraces = false) (hs : k < 0) : KX l D cI cB cJ y_N_run b_N_run 3 (some .int) 6 82 [.ref h, .int b, .int k] [(h, .inr (0, fN 0 qn))] "java/lang/IllegalArgumentException" := by
  refine KX.ofB (by decide) (Nat.le_of_ble_eq_true rfl) ?_
  intro p e s m args below meth c A ls C0 hemp hlk hl w
  have hx := C0.1
  have hb := C0.2.1
  have hl : lv_has ls 3 [(0, .ref h), (1, .int b), (2, .int k)] := hl
  refine lv_iload_n hx hb d_N_run_0 rfl (lv_at hl 2 rfl) ?_
  refine lv_if_lt (tgt := 11) hx hb d_N_run_1 (by decide) (fun hc1 => ?_) (fun hc => absurd hs hc)
  exact R_throw C0 htl (ix := ix_IllegalArgumentException) (rx := rx_IllegalArgumentException) (names := up_IllegalArgumentException) (tx := "steps are 0 to 200") xa_IllegalArgumentException xb_IllegalArgumentException xc_IllegalArgumentException xd_IllegalArgumentException (by decide) (by decide) rfl at_IllegalArgumentException wd_496 wd_13 wd_497 (by decide) hl.1 d_N_run_11 d_N_run_14 d_N_run_15 d_N_run_17 d_N_run_20 hemp hlk (Nat.le_of_ble_eq_true rfl) (Nat.le_of_ble_eq_true rfl) (Nat.le_of_ble_eq_true rfl) (Nat.le_of_ble_eq_true rfl)
set_option maxHeartbeats 4000000 in
set_option maxRecDepth 100000 in
theorem c_N_runB (l : Launch) (D : va_G) (cI cB cJ : ClassId) (h : Nat) (qn : Nat → Nat) (b : Int32) (k : Int32) (htl : l.stackTraces = false) (hs : ¬ k < 0) (ht : ¬ k ≤ 200) : KX l D cI cB cJ y_N_run b_N_run 3 (some .int) 6 82 [.ref h, .int b, .int k] [(h, .inr (0, fN 0 qn))] "java/lang/IllegalArgumentException" := by
  refine KX.ofB (by decide) (Nat.le_of_ble_eq_true rfl) ?_
  intro p e s m args below meth c A ls C0 hemp hlk hl w
  have hx := C0.1
  have hb := C0.2.1
  have hl : lv_has ls 3 [(0, .ref h), (1, .int b), (2, .int k)] := hl
  refine lv_iload_n hx hb d_N_run_0 rfl (lv_at hl 2 rfl) ?_
  refine lv_if_lt (tgt := 11) hx hb d_N_run_1 (by decide) (fun hc => absurd hc hs) (fun hc1 => ?_)
  refine lv_iload_n hx hb d_N_run_4 rfl (lv_at hl 2 rfl) ?_
  refine lv_sipush (v := 200) hx hb d_N_run_5 (by decide) ?_
  refine lv_icmp_le (tgt := 21) hx hb d_N_run_8 (by decide) (fun hc => absurd hc ht) (fun hc8 => ?_)
  exact R_throw C0 htl (ix := ix_IllegalArgumentException) (rx := rx_IllegalArgumentException) (names := up_IllegalArgumentException) (tx := "steps are 0 to 200") xa_IllegalArgumentException xb_IllegalArgumentException xc_IllegalArgumentException xd_IllegalArgumentException (by decide) (by decide) rfl at_IllegalArgumentException wd_496 wd_13 wd_497 (by decide) hl.1 d_N_run_11 d_N_run_14 d_N_run_15 d_N_run_17 d_N_run_20 hemp hlk (Nat.le_of_ble_eq_true rfl) (Nat.le_of_ble_eq_true rfl) (Nat.le_of_ble_eq_true rfl) (Nat.le_of_ble_eq_true rfl)
set_option maxHeartbeats 4000000 in
set_option maxRecDepth 100000 in
theorem c_N_runC (l : Launch) (D : va_G) (cI cB cJ : ClassId) (h : Nat) (qn : Nat → Nat) (b : Int32) (k : Int32) (htl : l.stackTraces = false) (hs : ¬ k < 0) (ht : k ≤ 200) : KX l D cI cB cJ y_N_run b_N_run 3 (some .int) 6 82 [.ref h, .int b, .int k] [(h, .inr (0, fN 0 qn))] "java/lang/IllegalStateException" := by
  refine KX.ofB (by decide) (Nat.le_of_ble_eq_true rfl) ?_
  intro p e s m args below meth c A ls C0 hemp hlk hl w
  have hx := C0.1
  have hb := C0.2.1
  have hl : lv_has ls 3 [(0, .ref h), (1, .int b), (2, .int k)] := hl
  refine lv_iload_n hx hb d_N_run_0 rfl (lv_at hl 2 rfl) ?_
  refine lv_if_lt (tgt := 11) hx hb d_N_run_1 (by decide) (fun hc => absurd hc hs) (fun hc1 => ?_)
  refine lv_iload_n hx hb d_N_run_4 rfl (lv_at hl 2 rfl) ?_
  refine lv_sipush (v := 200) hx hb d_N_run_5 (by decide) ?_
  refine lv_icmp_le (tgt := 21) hx hb d_N_run_8 (by decide) (fun hc8 => ?_) (fun hc => absurd ht hc)
  refine lv_aload_n hx hb d_N_run_21 rfl (lv_at hl 0 rfl) ?_
  refine R_get C0 w 0 rfl rfl inN 6 (by decide) wd_345 rfl d_N_run_22 ?_
  refine lv_if_ne (tgt := 38) hx hb d_N_run_25 (by decide) (fun hc => absurd (by decide) hc) (fun hc25 => ?_)
  exact R_throw C0 htl (ix := ix_IllegalStateException) (rx := rx_IllegalStateException) (names := up_IllegalStateException) (tx := "it is not built") xa_IllegalStateException xb_IllegalStateException xc_IllegalStateException xd_IllegalStateException (by decide) (by decide) rfl at_IllegalStateException wd_393 wd_12 wd_394 (by decide) hl.1 d_N_run_28 d_N_run_31 d_N_run_32 d_N_run_34 d_N_run_37 hemp hlk (Nat.le_of_ble_eq_true rfl) (Nat.le_of_ble_eq_true rfl) (Nat.le_of_ble_eq_true rfl) (Nat.le_of_ble_eq_true rfl)
set_option maxHeartbeats 4000000 in
set_option maxRecDepth 100000 in
theorem c_N_heard (l : Launch) (D : va_G) (cI cB cJ : ClassId) (h : Nat) (qn : Nat → Nat) (qm : Nat → Nat) (k : Int32) (htl : l.stackTraces = false) : KX l D cI cB cJ y_N_heard b_N_heard 2 (some .int) 6 82 [.ref h, .int k] [(h, .inr (0, fN 0 qn)), ((qn 5), .inr (6, fA 0 qm))] "java/util/NoSuchElementException" := by
  refine KX.ofB (by decide) (Nat.le_of_ble_eq_true rfl) ?_
  intro p e s m args below meth c A ls C0 hemp hlk hl w
  have hx := C0.1
  have hb := C0.2.1
  have hl : lv_has ls 2 [(0, .ref h), (1, .int k)] := hl
  refine lv_iload_n hx hb d_N_heard_0 rfl (lv_at hl 1 rfl) ?_
  refine lv_if_lt (tgt := 21) hx hb d_N_heard_1 (by decide) (fun hc1 => ?_) (fun hc1 => ?_)
  · exact R_throw C0 htl (ix := ix_NoSuchElementException) (rx := rx_NoSuchElementException) (names := up_NoSuchElementException) (tx := "not kept") xa_NoSuchElementException xb_NoSuchElementException xc_NoSuchElementException xd_NoSuchElementException (by decide) (by decide) rfl at_NoSuchElementException wd_696 wd_15 wd_697 (by decide) hl.1 d_N_heard_21 d_N_heard_24 d_N_heard_25 d_N_heard_27 d_N_heard_30 hemp hlk (Nat.le_of_ble_eq_true rfl) (Nat.le_of_ble_eq_true rfl) (Nat.le_of_ble_eq_true rfl) (Nat.le_of_ble_eq_true rfl)
  · refine lv_iload_n hx hb d_N_heard_4 rfl (lv_at hl 1 rfl) ?_
    refine lv_bipush (v := 40) hx hb d_N_heard_5 (by decide) ?_
    refine lv_icmp_ge (tgt := 21) hx hb d_N_heard_7 (by decide) (fun hc7 => ?_) (fun hc7 => ?_)
    · exact R_throw C0 htl (ix := ix_NoSuchElementException) (rx := rx_NoSuchElementException) (names := up_NoSuchElementException) (tx := "not kept") xa_NoSuchElementException xb_NoSuchElementException xc_NoSuchElementException xd_NoSuchElementException (by decide) (by decide) rfl at_NoSuchElementException wd_696 wd_15 wd_697 (by decide) hl.1 d_N_heard_21 d_N_heard_24 d_N_heard_25 d_N_heard_27 d_N_heard_30 hemp hlk (Nat.le_of_ble_eq_true rfl) (Nat.le_of_ble_eq_true rfl) (Nat.le_of_ble_eq_true rfl) (Nat.le_of_ble_eq_true rfl)
    · refine lv_iload_n hx hb d_N_heard_10 rfl (lv_at hl 1 rfl) ?_
      refine lv_aload_n hx hb d_N_heard_11 rfl (lv_at hl 0 rfl) ?_
      refine R_get C0 w 0 rfl rfl inN 5 (by decide) wd_344 rfl d_N_heard_12 ?_
      refine R_get C0 w 1 rfl rfl inA 9 (by decide) wd_301 rfl d_N_heard_15 ?_
      refine lv_icmp_lt (tgt := 31) hx hb d_N_heard_18 (by decide) (fun hc => absurd hc (fun h9 => hc1 h9)) (fun hc18 => ?_)
      exact R_throw C0 htl (ix := ix_NoSuchElementException) (rx := rx_NoSuchElementException) (names := up_NoSuchElementException) (tx := "not kept") xa_NoSuchElementException xb_NoSuchElementException xc_NoSuchElementException xd_NoSuchElementException (by decide) (by decide) rfl at_NoSuchElementException wd_696 wd_15 wd_697 (by decide) hl.1 d_N_heard_21 d_N_heard_24 d_N_heard_25 d_N_heard_27 d_N_heard_30 hemp hlk (Nat.le_of_ble_eq_true rfl) (Nat.le_of_ble_eq_true rfl) (Nat.le_of_ble_eq_true rfl) (Nat.le_of_ble_eq_true rfl)
set_option maxHeartbeats 4000000 in
set_option maxRecDepth 100000 in
theorem c_N_clear (l : Launch) (D : va_G) (cI cB cJ : ClassId) (h : Nat) (qn : Nat → Nat) (qp : Nat → Nat) : KV l D cI cB cJ y_N_clear b_N_clear 1 0 0 0 0 [.ref h] [(h, .inr (0, fN 0 qn)), ((qn 0), .inr (1, fP 0 qp))] (fun A t => CE D [] A t) := by
  refine KV.ofW (by decide) (Nat.le_of_ble_eq_true rfl) ?_
  intro p e s m args below meth c A Q ls C0 hin hl w hret
  have hin : meth.name = "clear" := hin
  have hx := C0.1
  have hb := C0.2.1
  have hl : lv_has ls 1 [(0, .ref h)] := hl
  refine lv_aload_n hx hb d_N_clear_0 rfl (lv_at hl 0 rfl) ?_
  refine lv_iconst (v := 0) hx hb d_N_clear_1 (by decide) ?_
  refine R_put C0 w 0 rfl rfl inN tyN_ok nmN 6 (by decide) wd_345 rfl nz0 fz0 (Nat.le_of_ble_eq_true rfl) d_N_clear_2 (fun H locs w => ?_)
  have w : Wd D A s [(h, .inr (0, fN 0 qn)), ((qn 0), .inr (1, fP 0 qp))] H _ := w
  refine lv_aload_n hx hb d_N_clear_5 rfl (lv_at hl 0 rfl) ?_
  refine R_get C0 w 0 rfl rfl inN 0 (by decide) wd_339 rfl d_N_clear_6 ?_
  refine lv_iconst (v := 0) hx hb d_N_clear_9 (by decide) ?_
  refine R_put C0 w 1 rfl rfl inP tyP_ok nmP 0 (by decide) wd_33 rfl rfl rfl (Nat.le_of_ble_eq_true rfl) d_N_clear_10 (fun H locs w => ?_)
  have w : Wd D A s [(h, .inr (0, fN 0 qn)), ((qn 0), .inr (1, fP 0 qp))] H _ := w
  exact hret _ _ _ _ d_N_clear_13 w.2.2.1 (fun t ht => ⟨by rw [ht]; exact (w.sub [] rfl rfl).1, (w.sub [] rfl rfl).2.1⟩)
set_option maxHeartbeats 4000000 in
set_option maxRecDepth 100000 in
theorem c_N_take (l : Launch) (D : va_G) (cI cB cJ : ClassId) (h : Nat) (qn : Nat → Nat) (qm : Nat → Nat) : KV l D cI cB cJ y_N_take b_N_take 1 0 0 0 0 [.ref h] [(h, .inr (0, fN 0 qn)), ((qn 5), .inr (6, fA 0 qm))] (fun A t => CE D [] A t) := by
  refine KV.ofW (by decide) (Nat.le_of_ble_eq_true rfl) ?_
  intro p e s m args below meth c A Q ls C0 hin hl w hret
  have hin : meth.name = "take" := hin
  have hx := C0.1
  have hb := C0.2.1
  have hl : lv_has ls 1 [(0, .ref h)] := hl
  refine lv_aload_n hx hb d_N_take_0 rfl (lv_at hl 0 rfl) ?_
  refine R_get C0 w 0 rfl rfl inN 5 (by decide) wd_344 rfl d_N_take_1 ?_
  refine lv_iconst (v := 0) hx hb d_N_take_4 (by decide) ?_
  refine R_put C0 w 1 rfl rfl inA tyA_ok nmA 4 (by decide) wd_295 rfl rfl rfl (Nat.le_of_ble_eq_true rfl) d_N_take_5 (fun H locs w => ?_)
  have w : Wd D A s [(h, .inr (0, fN 0 qn)), ((qn 5), .inr (6, fA 0 qm))] H _ := w
  exact hret _ _ _ _ d_N_take_8 w.2.2.1 (fun t ht => ⟨by rw [ht]; exact (w.sub [] rfl rfl).1, (w.sub [] rfl rfl).2.1⟩)
set_option maxHeartbeats 4000000 in
set_option maxRecDepth 100000 in
theorem c_addInput (l : Launch) (D : va_G) (cI cB cJ : ClassId) (h : Nat) (q : Nat → Nat) (v : Int32) : KI l D cI cB cJ y_A_addInput b_A_addInput 2 (some .boolean) 0 0 [.ref h, .int v] [(h, .inr (6, fA 0 q)), ((q 5), .inl (cI, 16, .inl (fun _ => 0)))] 1 [] := by
  refine KI.ofW (by decide) (Nat.le_of_ble_eq_true rfl) rfl rfl ?_
  intro p e s m args below meth c A Q ls C0 hl w hret
  have hx := C0.1
  have hb := C0.2.1
  have hl : lv_has ls 2 [(0, .ref h), (1, .int v)] := hl
  refine lv_aload_n hx hb d_A_addInput_0 rfl (lv_at hl 0 rfl) ?_
  refine R_get C0 w 0 rfl rfl inA 4 (by decide) wd_294 rfl d_A_addInput_1 ?_
  refine lv_bipush (v := 16) hx hb d_A_addInput_4 (by decide) ?_
  refine lv_icmp_lt (tgt := 11) hx hb d_A_addInput_6 (by decide) (fun hc6 => ?_) (fun hc => absurd (by decide) hc)
  refine lv_aload_n hx hb d_A_addInput_11 rfl (lv_at hl 0 rfl) ?_
  refine R_get C0 w 0 rfl rfl inA 5 (by decide) wd_296 rfl d_A_addInput_12 ?_
  refine lv_aload_n hx hb d_A_addInput_15 rfl (lv_at hl 0 rfl) ?_
  refine R_get C0 w 0 rfl rfl inA 4 (by decide) wd_294 rfl d_A_addInput_16 ?_
  refine lv_iload_n hx hb d_A_addInput_19 rfl (lv_at hl 1 rfl) ?_
  refine R_ast C0 w 1 rfl (vin (by decide)) d_A_addInput_20 (fun H locs w => ?_)
  have w : Wd D A s [(h, .inr (6, fA 0 q)), ((q 5), .inl (cI, 16, .inl (upd (fun _ => 0) (0 : Int32).toNatClampNeg v)))] H _ := w
  refine lv_aload_n hx hb d_A_addInput_21 rfl (lv_at hl 0 rfl) ?_
  refine lv_dup hx hb d_A_addInput_22 rfl ?_
  refine R_get C0 w 0 rfl rfl inA 4 (by decide) wd_294 rfl d_A_addInput_23 ?_
  refine lv_iconst (v := 1) hx hb d_A_addInput_26 (by decide) ?_
  refine lv_iadd hx hb d_A_addInput_27 ?_
  refine lv_cst (x := 0 + 1) (y := 1) (by decide) ?_
  refine R_put C0 w 0 rfl rfl inA tyA_ok nmA 4 (by decide) wd_294 rfl rfl rfl (Nat.le_of_ble_eq_true rfl) d_A_addInput_28 (fun H locs w => ?_)
  have w : Wd D A s [(h, .inr (6, fA 1 q)), ((q 5), .inl (cI, 16, .inl (upd (fun _ => 0) (0 : Int32).toNatClampNeg v)))] H _ := w
  refine lv_iconst (v := 1) hx hb d_A_addInput_31 (by decide) ?_
  exact hret _ _ _ _ d_A_addInput_32 (w.sub [] rfl rfl)
set_option maxHeartbeats 4000000 in
set_option maxRecDepth 100000 in
theorem c_N_give (l : Launch) (D : va_G) (cI cB cJ : ClassId) (h : Nat) (qn : Nat → Nat) (qm : Nat → Nat) (v : Int32) : KI l D cI cB cJ y_N_give b_N_give 2 (some .boolean) 1 21 [.ref h, .int v] [(h, .inr (0, fN 0 qn)), ((qn 5), .inr (6, fA 0 qm)), ((qm 5), .inl (cI, 16, .inl (fun _ => 0)))] 1 [] := by
  refine KI.ofW (by decide) (Nat.le_of_ble_eq_true rfl) rfl rfl ?_
  intro p e s m args below meth c A Q ls C0 hl w hret
  have hx := C0.1
  have hb := C0.2.1
  have hl : lv_has ls 2 [(0, .ref h), (1, .int v)] := hl
  refine lv_aload_n hx hb d_N_give_0 rfl (lv_at hl 0 rfl) ?_
  refine R_get C0 w 0 rfl rfl inN 5 (by decide) wd_344 rfl d_N_give_1 ?_
  refine lv_iload_n hx hb d_N_give_4 rfl (lv_at hl 1 rfl) ?_
  refine R_vi C0 w (rest := []) (wr := [(h, .inr (0, fN 0 qn))]) (w1 := []) 1 rfl rfl [1, 2] [0] (c_addInput l D cI cB cJ (qn 5) qm v) rfl rfl rfl rfl (by decide) wd_372 wd_369 wd_370 wd_371 wd_7 (n9 := 1) (by decide +kernel) rfl ⟨(Nat.le_of_ble_eq_true rfl), (Nat.le_of_ble_eq_true rfl)⟩ hl.1 rfl (Nat.le_of_ble_eq_true rfl) d_N_give_5 (Nat.le_of_ble_eq_true rfl) (Nat.le_of_ble_eq_true rfl) (fun H locs w => ?_)
  have w : Wd D A s [(h, .inr (0, fN 0 qn))] H _ := w
  exact hret _ _ _ _ d_N_give_8 (w.sub [] rfl rfl)
set_option maxHeartbeats 4000000 in
set_option maxRecDepth 100000 in
theorem c_N_told (l : Launch) (D : va_G) (cI cB cJ : ClassId) (h : Nat) (qn : Nat → Nat) (qm : Nat → Nat) : KR l D cI cB cJ y_N_told b_N_told 1 (some .int) 0 0 [.ref h] [(h, .inr (0, fN 0 qn)), ((qn 5), .inr (6, fA 0 qm))] 0 := by
  refine KR.ofW (by decide) (Nat.le_of_ble_eq_true rfl) rfl rfl ?_
  intro p e s m args below meth c A Q ls C0 hl w hret
  have hx := C0.1
  have hb := C0.2.1
  have hl : lv_has ls 1 [(0, .ref h)] := hl
  refine lv_aload_n hx hb d_N_told_0 rfl (lv_at hl 0 rfl) ?_
  refine R_get C0 w 0 rfl rfl inN 5 (by decide) wd_344 rfl d_N_told_1 ?_
  refine R_get C0 w 1 rfl rfl inA 9 (by decide) wd_301 rfl d_N_told_4 ?_
  exact hret _ _ d_N_told_7
set_option maxHeartbeats 4000000 in
set_option maxRecDepth 100000 in
theorem c_N_spent0 (l : Launch) (D : va_G) (cI cB cJ : ClassId) (h : Nat) (qn : Nat → Nat) (qm : Nat → Nat) : KR l D cI cB cJ y_N_spent b_N_spent 2 (some .int) 0 0 [.ref h, .int 0] [(h, .inr (0, fN 0 qn)), ((qn 5), .inr (6, fA 0 qm))] 0 := by
  refine KR.ofW (by decide) (Nat.le_of_ble_eq_true rfl) rfl rfl ?_
  intro p e s m args below meth c A Q ls C0 hl w hret
  have hx := C0.1
  have hb := C0.2.1
  have hl : lv_has ls 2 [(0, .ref h), (1, .int 0)] := hl
  refine lv_iload_n hx hb d_N_spent_0 rfl (lv_at hl 1 rfl) ?_
  refine lv_tableIn (off := 27) (tgt := 28) hx hb d_N_spent_1 (by decide) (by decide) (by decide) (by decide) ?_
  refine lv_aload_n hx hb d_N_spent_28 rfl (lv_at hl 0 rfl) ?_
  refine R_get C0 w 0 rfl rfl inN 5 (by decide) wd_344 rfl d_N_spent_29 ?_
  refine R_get C0 w 1 rfl rfl inA 11 (by decide) wd_305 rfl d_N_spent_32 ?_
  exact hret _ _ d_N_spent_35
set_option maxHeartbeats 4000000 in
set_option maxRecDepth 100000 in
theorem c_N_spent1 (l : Launch) (D : va_G) (cI cB cJ : ClassId) (h : Nat) (qn : Nat → Nat) (qm : Nat → Nat) : KR l D cI cB cJ y_N_spent b_N_spent 2 (some .int) 0 0 [.ref h, .int 1] [(h, .inr (0, fN 0 qn)), ((qn 5), .inr (6, fA 0 qm))] 0 := by
  refine KR.ofW (by decide) (Nat.le_of_ble_eq_true rfl) rfl rfl ?_
  intro p e s m args below meth c A Q ls C0 hl w hret
  have hx := C0.1
  have hb := C0.2.1
  have hl : lv_has ls 2 [(0, .ref h), (1, .int 1)] := hl
  refine lv_iload_n hx hb d_N_spent_0 rfl (lv_at hl 1 rfl) ?_
  refine lv_tableIn (off := 35) (tgt := 36) hx hb d_N_spent_1 (by decide) (by decide) (by decide) (by decide) ?_
  refine lv_aload_n hx hb d_N_spent_36 rfl (lv_at hl 0 rfl) ?_
  refine R_get C0 w 0 rfl rfl inN 5 (by decide) wd_344 rfl d_N_spent_37 ?_
  refine R_get C0 w 1 rfl rfl inA 12 (by decide) wd_307 rfl d_N_spent_40 ?_
  exact hret _ _ d_N_spent_43
set_option maxHeartbeats 4000000 in
set_option maxRecDepth 100000 in
theorem c_N_spent2 (l : Launch) (D : va_G) (cI cB cJ : ClassId) (h : Nat) (qn : Nat → Nat) (qm : Nat → Nat) : KR l D cI cB cJ y_N_spent b_N_spent 2 (some .int) 0 0 [.ref h, .int 2] [(h, .inr (0, fN 0 qn)), ((qn 5), .inr (6, fA 0 qm))] 0 := by
  refine KR.ofW (by decide) (Nat.le_of_ble_eq_true rfl) rfl rfl ?_
  intro p e s m args below meth c A Q ls C0 hl w hret
  have hx := C0.1
  have hb := C0.2.1
  have hl : lv_has ls 2 [(0, .ref h), (1, .int 2)] := hl
  refine lv_iload_n hx hb d_N_spent_0 rfl (lv_at hl 1 rfl) ?_
  refine lv_tableIn (off := 43) (tgt := 44) hx hb d_N_spent_1 (by decide) (by decide) (by decide) (by decide) ?_
  refine lv_aload_n hx hb d_N_spent_44 rfl (lv_at hl 0 rfl) ?_
  refine R_get C0 w 0 rfl rfl inN 5 (by decide) wd_344 rfl d_N_spent_45 ?_
  refine R_get C0 w 1 rfl rfl inA 13 (by decide) wd_309 rfl d_N_spent_48 ?_
  exact hret _ _ d_N_spent_51
set_option maxHeartbeats 4000000 in
set_option maxRecDepth 100000 in
theorem c_N_spentD (l : Launch) (D : va_G) (cI cB cJ : ClassId) (h : Nat) (qn : Nat → Nat) (qm : Nat → Nat) (k : Int32) (h0 : ¬ k = 0) (h1 : ¬ k = 1) (h2 : ¬ k = 2) : KR l D cI cB cJ y_N_spent b_N_spent 2 (some .int) 0 0 [.ref h, .int k] [(h, .inr (0, fN 0 qn)), ((qn 5), .inr (6, fA 0 qm))] (-1) := by
  refine KR.ofW (by decide) (Nat.le_of_ble_eq_true rfl) rfl rfl ?_
  intro p e s m args below meth c A Q ls C0 hl w hret
  have hx := C0.1
  have hb := C0.2.1
  have hl : lv_has ls 2 [(0, .ref h), (1, .int k)] := hl
  refine lv_iload_n hx hb d_N_spent_0 rfl (lv_at hl 1 rfl) ?_
  refine lv_tableOut (tgt := 52) hx hb d_N_spent_1 (sp_out h0 h1 h2) (by decide) ?_
  refine lv_iconst (v := (-1)) hx hb d_N_spent_52 (by decide) ?_
  exact hret _ _ d_N_spent_53
end
section
set_option maxHeartbeats 4000000 in
set_option maxRecDepth 100000 in
theorem c_failsT (l : Launch) (D : va_G) (cI cB cJ : ClassId) (h : Nat) (q : Nat → Nat) (k : Int32) : KI l D cI cB cJ y_R_fails b_R_fails 3 (some .boolean) 0 0 [.ref h, .int 1, .int k] [(h, .inr (7, fR 0 0 0 0 q))] 1 [(h, .inr (7, fR k 0 0 0 q))] := by
  refine KI.ofW (by decide) (Nat.le_of_ble_eq_true rfl) rfl rfl ?_
  intro p e s m args below meth c A Q ls C0 hl w hret
  have hx := C0.1
  have hb := C0.2.1
  have hl : lv_has ls 3 [(0, .ref h), (1, .int 1), (2, .int k)] := hl
  refine lv_aload_n hx hb d_R_fails_0 rfl (lv_at hl 0 rfl) ?_
  refine lv_iload_n hx hb d_R_fails_1 rfl (lv_at hl 1 rfl) ?_
  refine lv_if_eq (tgt := 9) hx hb d_R_fails_2 (by decide) (fun hc => absurd hc (by decide)) (fun hc2 => ?_)
  refine lv_iload_n hx hb d_R_fails_5 rfl (lv_at hl 2 rfl) ?_
  refine lv_goto (tgt := 10) hx hb d_R_fails_6 (by decide) ?_
  refine R_put C0 w 0 rfl rfl inR tyR_ok nmR 0 (by decide) wd_828 rfl rfl rfl (Nat.le_of_ble_eq_true rfl) d_R_fails_10 (fun H locs w => ?_)
  have w : Wd D A s [(h, .inr (7, fR k 0 0 0 q))] H _ := w
  refine lv_iload_n hx hb d_R_fails_13 rfl (lv_at hl 1 rfl) ?_
  exact hret _ _ _ _ d_R_fails_14 (w.sub [0] rfl rfl)
set_option maxHeartbeats 4000000 in
set_option maxRecDepth 100000 in
theorem c_failsF (l : Launch) (D : va_G) (cI cB cJ : ClassId) (h : Nat) (q : Nat → Nat) (k : Int32) : KI l D cI cB cJ y_R_fails b_R_fails 3 (some .boolean) 0 0 [.ref h, .int 0, .int k] [(h, .inr (7, fR 0 0 0 0 q))] 0 [(h, .inr (7, fR 0 0 0 0 q))] := by
  refine KI.ofW (by decide) (Nat.le_of_ble_eq_true rfl) rfl rfl ?_
  intro p e s m args below meth c A Q ls C0 hl w hret
  have hx := C0.1
  have hb := C0.2.1
  have hl : lv_has ls 3 [(0, .ref h), (1, .int 0), (2, .int k)] := hl
  refine lv_aload_n hx hb d_R_fails_0 rfl (lv_at hl 0 rfl) ?_
  refine lv_iload_n hx hb d_R_fails_1 rfl (lv_at hl 1 rfl) ?_
  refine lv_if_eq (tgt := 9) hx hb d_R_fails_2 (by decide) (fun hc2 => ?_) (fun hc => absurd (by decide) hc)
  refine lv_iconst (v := 0) hx hb d_R_fails_9 (by decide) ?_
  refine R_put C0 w 0 rfl rfl inR tyR_ok nmR 0 (by decide) wd_828 rfl rfl rfl (Nat.le_of_ble_eq_true rfl) d_R_fails_10 (fun H locs w => ?_)
  have w : Wd D A s [(h, .inr (7, fR 0 0 0 0 q))] H _ := w
  refine lv_iload_n hx hb d_R_fails_13 rfl (lv_at hl 1 rfl) ?_
  exact hret _ _ _ _ d_R_fails_14 (w.sub [0] rfl rfl)
set_option maxHeartbeats 4000000 in
set_option maxRecDepth 100000 in
theorem c_noBlock (l : Launch) (D : va_G) (cI cB cJ : ClassId) (h : Nat) (q : Nat → Nat) (b : Int32) : KR l D cI cB cJ y_R_noBlock b_R_noBlock 2 (some .boolean) 0 0 [.ref h, .int b] [(h, .inr (7, fR 0 0 0 0 q))] 1 := by
  refine KR.ofW (by decide) (Nat.le_of_ble_eq_true rfl) rfl rfl ?_
  intro p e s m args below meth c A Q ls C0 hl w hret
  have hx := C0.1
  have hb := C0.2.1
  have hl : lv_has ls 2 [(0, .ref h), (1, .int b)] := hl
  refine lv_iload_n hx hb d_R_noBlock_0 rfl (lv_at hl 1 rfl) ?_
  refine lv_if_lt (tgt := 12) hx hb d_R_noBlock_1 (by decide) (fun hc1 => ?_) (fun hc1 => ?_)
  · refine lv_iconst (v := 1) hx hb d_R_noBlock_12 (by decide) ?_
    refine lv_goto (tgt := 17) hx hb d_R_noBlock_13 (by decide) ?_
    exact hret _ _ d_R_noBlock_17
  · refine lv_iload_n hx hb d_R_noBlock_4 rfl (lv_at hl 1 rfl) ?_
    refine lv_aload_n hx hb d_R_noBlock_5 rfl (lv_at hl 0 rfl) ?_
    refine R_get C0 w 0 rfl rfl inR 1 (by decide) wd_829 rfl d_R_noBlock_6 ?_
    refine lv_icmp_lt (tgt := 16) hx hb d_R_noBlock_9 (by decide) (fun hc => absurd hc (fun h9 => hc1 h9)) (fun hc9 => ?_)
    refine lv_iconst (v := 1) hx hb d_R_noBlock_12 (by decide) ?_
    refine lv_goto (tgt := 17) hx hb d_R_noBlock_13 (by decide) ?_
    exact hret _ _ d_R_noBlock_17
set_option maxHeartbeats 4000000 in
set_option maxRecDepth 100000 in
theorem c_thrown (l : Launch) (D : va_G) (cI cB cJ : ClassId) (h : Nat) (q : Nat → Nat) (v0 : Int32) (v1 : Int32) (v2 : Int32) (v3 : Int32) : KR l D cI cB cJ y_R_thrown b_R_thrown 1 (some .int) 0 0 [.ref h] [(h, .inr (7, fR v0 v1 v2 v3 q))] v0 := by
  refine KR.ofW (by decide) (Nat.le_of_ble_eq_true rfl) rfl rfl ?_
  intro p e s m args below meth c A Q ls C0 hl w hret
  have hx := C0.1
  have hb := C0.2.1
  have hl : lv_has ls 1 [(0, .ref h)] := hl
  refine lv_aload_n hx hb d_R_thrown_0 rfl (lv_at hl 0 rfl) ?_
  refine R_get C0 w 0 rfl rfl inR 0 (by decide) wd_828 rfl d_R_thrown_1 ?_
  exact hret _ _ d_R_thrown_4
set_option maxHeartbeats 4000000 in
set_option maxRecDepth 100000 in
theorem c_R_block (l : Launch) (D : va_G) (cI cB cJ : ClassId) (h : Nat) (q : Nat → Nat) : KI l D cI cB cJ y_R_block b_R_block 1 (some .int) 1 22 [.ref h] [(h, .inr (7, fR 0 0 0 0 q)), ((q 2), .inl (cI, 10, .inl (fun _ => 0))), ((q 7), .inl (cI, 10, .inl (fun _ => 0)))] 0 [(h, .inr (7, fR 0 1 0 0 q))] := by
  refine KI.ofW (by decide) (Nat.le_of_ble_eq_true rfl) rfl rfl ?_
  intro p e s m args below meth c A Q ls C0 hl w hret
  have hx := C0.1
  have hb := C0.2.1
  have hl : lv_has ls 1 [(0, .ref h)] := hl
  refine lv_aload_n hx hb d_R_block_0 rfl (lv_at hl 0 rfl) ?_
  refine lv_aload_n hx hb d_R_block_1 rfl (lv_at hl 0 rfl) ?_
  refine R_get C0 w 0 rfl rfl inR 1 (by decide) wd_829 rfl d_R_block_2 ?_
  refine lv_bipush (v := 10) hx hb d_R_block_5 (by decide) ?_
  refine lv_icmp_ne (tgt := 14) hx hb d_R_block_7 (by decide) (fun hc7 => ?_) (fun hc => absurd hc (by decide))
  refine lv_iconst (v := 0) hx hb d_R_block_14 (by decide) ?_
  refine lv_iconst (v := 1) hx hb d_R_block_15 (by decide) ?_
  refine R_vi C0 w (rest := []) (wr := [((q 2), .inl (cI, 10, .inl (fun _ => 0))), ((q 7), .inl (cI, 10, .inl (fun _ => 0)))]) (w1 := [(h, .inr (7, fR 0 0 0 0 q))]) 0 rfl rfl [0] [1, 2] (c_failsF l D cI cB cJ h q 1) rfl rfl rfl rfl (by decide) wd_963 wd_960 wd_962 ws_34 wd_8 (n9 := 2) (by decide +kernel) rfl ⟨(Nat.le_of_ble_eq_true rfl), (Nat.le_of_ble_eq_true rfl)⟩ hl.1 rfl (Nat.le_of_ble_eq_true rfl) d_R_block_16 (Nat.le_of_ble_eq_true rfl) (Nat.le_of_ble_eq_true rfl) (fun H locs w => ?_)
  have w : Wd D A s [((q 2), .inl (cI, 10, .inl (fun _ => 0))), ((q 7), .inl (cI, 10, .inl (fun _ => 0))), (h, .inr (7, fR 0 0 0 0 q))] H _ := w
  refine lv_if_eq (tgt := 24) hx hb d_R_block_19 (by decide) (fun hc19 => ?_) (fun hc => absurd (by decide) hc)
  refine lv_aload_n hx hb d_R_block_24 rfl (lv_at hl 0 rfl) ?_
  refine R_get C0 w 2 rfl rfl inR 2 (by decide) wd_830 rfl d_R_block_25 ?_
  refine lv_aload_n hx hb d_R_block_28 rfl (lv_at hl 0 rfl) ?_
  refine R_get C0 w 2 rfl rfl inR 1 (by decide) wd_829 rfl d_R_block_29 ?_
  refine lv_iconst (v := 0) hx hb d_R_block_32 (by decide) ?_
  refine R_ast C0 w 0 rfl (vin (by decide)) d_R_block_33 (fun H locs w => ?_)
  have w : Wd D A s [((q 2), .inl (cI, 10, .inl (upd (fun _ => 0) (0 : Int32).toNatClampNeg 0))), ((q 7), .inl (cI, 10, .inl (fun _ => 0))), (h, .inr (7, fR 0 0 0 0 q))] H _ := w
  refine lv_aload_n hx hb d_R_block_34 rfl (lv_at hl 0 rfl) ?_
  refine R_get C0 w 2 rfl rfl inR 7 (by decide) wd_835 rfl d_R_block_35 ?_
  refine lv_aload_n hx hb d_R_block_38 rfl (lv_at hl 0 rfl) ?_
  refine R_get C0 w 2 rfl rfl inR 1 (by decide) wd_829 rfl d_R_block_39 ?_
  refine lv_iconst (v := 0) hx hb d_R_block_42 (by decide) ?_
  refine R_ast C0 w 1 rfl (vin (by decide)) d_R_block_43 (fun H locs w => ?_)
  have w : Wd D A s [((q 2), .inl (cI, 10, .inl (upd (fun _ => 0) (0 : Int32).toNatClampNeg 0))), ((q 7), .inl (cI, 10, .inl (upd (fun _ => 0) (0 : Int32).toNatClampNeg 0))), (h, .inr (7, fR 0 0 0 0 q))] H _ := w
  refine lv_aload_n hx hb d_R_block_44 rfl (lv_at hl 0 rfl) ?_
  refine lv_dup hx hb d_R_block_45 rfl ?_
  refine R_get C0 w 2 rfl rfl inR 1 (by decide) wd_829 rfl d_R_block_46 ?_
  refine lv_iconst (v := 1) hx hb d_R_block_49 (by decide) ?_
  refine lv_iadd hx hb d_R_block_50 ?_
  refine lv_cst (x := 0 + 1) (y := 1) (by decide) ?_
  refine R_put C0 w 2 rfl rfl inR tyR_ok nmR 1 (by decide) wd_829 rfl rfl rfl (Nat.le_of_ble_eq_true rfl) d_R_block_51 (fun H locs w => ?_)
  have w : Wd D A s [((q 2), .inl (cI, 10, .inl (upd (fun _ => 0) (0 : Int32).toNatClampNeg 0))), ((q 7), .inl (cI, 10, .inl (upd (fun _ => 0) (0 : Int32).toNatClampNeg 0))), (h, .inr (7, fR 0 1 0 0 q))] H _ := w
  refine lv_aload_n hx hb d_R_block_54 rfl (lv_at hl 0 rfl) ?_
  refine lv_iconst (v := 0) hx hb d_R_block_55 (by decide) ?_
  refine R_put C0 w 2 rfl rfl inR tyR_ok nmR 11 (by decide) wd_839 rfl nz0 fz0 (Nat.le_of_ble_eq_true rfl) d_R_block_56 (fun H locs w => ?_)
  have w : Wd D A s [((q 2), .inl (cI, 10, .inl (upd (fun _ => 0) (0 : Int32).toNatClampNeg 0))), ((q 7), .inl (cI, 10, .inl (upd (fun _ => 0) (0 : Int32).toNatClampNeg 0))), (h, .inr (7, fR 0 1 0 0 q))] H _ := w
  refine lv_aload_n hx hb d_R_block_59 rfl (lv_at hl 0 rfl) ?_
  refine R_get C0 w 2 rfl rfl inR 1 (by decide) wd_829 rfl d_R_block_60 ?_
  refine lv_iconst (v := 1) hx hb d_R_block_63 (by decide) ?_
  refine lv_isub hx hb d_R_block_64 ?_
  refine lv_cst (x := 1 - 1) (y := 0) (by decide) ?_
  exact hret _ _ _ _ d_R_block_65 (w.sub [2] rfl rfl)
set_option maxHeartbeats 4000000 in
set_option maxRecDepth 100000 in
theorem c_R_put (l : Launch) (D : va_G) (cI cB cJ : ClassId) (h : Nat) (q : Nat → Nat) (b : Int32) (k : Int32) (d : Int32) (x : Int32) (y : Int32) : KI l D cI cB cJ y_R_put b_R_put 8 (some .int) 1 22 [.ref h, .int b, .int k, .int d, .int x, .int y] [(h, .inr (7, fR 0 0 0 0 q))] 0 [(h, .inr (7, fR 1 0 0 0 q))] := by
  refine KI.ofW (by decide) (Nat.le_of_ble_eq_true rfl) rfl rfl ?_
  intro p e s m args below meth c A Q ls C0 hl w hret
  have hx := C0.1
  have hb := C0.2.1
  have hl : lv_has ls 8 [(0, .ref h), (1, .int b), (2, .int k), (3, .int d), (4, .int x), (5, .int y)] := hl
  refine lv_aload_n hx hb d_R_put_0 rfl (lv_at hl 0 rfl) ?_
  refine lv_iload_n hx hb d_R_put_1 rfl (lv_at hl 1 rfl) ?_
  refine R_ri C0 w (rest := []) 0 rfl rfl [0] (c_noBlock l D cI cB cJ h q b) rfl rfl wd_971 wd_968 wd_970 ws_35 wd_8 (n9 := 1) (by decide +kernel) rfl ⟨(Nat.le_of_ble_eq_true rfl), (Nat.le_of_ble_eq_true rfl)⟩ hl.1 rfl (Nat.le_of_ble_eq_true rfl) d_R_put_2 (Nat.le_of_ble_eq_true rfl) (Nat.le_of_ble_eq_true rfl) ?_
  refine lv_if_ne (tgt := 62) hx hb d_R_put_5 (by decide) (fun hc5 => ?_) (fun hc => absurd hc (by decide))
  refine lv_iconst (v := 1) hx hb d_R_put_62 (by decide) ?_
  refine lv_goto (tgt := 67) hx hb d_R_put_63 (by decide) ?_
  refine lv_istore hx hb d_R_put_67 hl (by decide) rfl (fun ls hl => ?_)
  have hl : lv_has ls 8 [(6, .int 1), (0, .ref h), (1, .int b), (2, .int k), (3, .int d), (4, .int x), (5, .int y)] := hl
  refine lv_aload_n hx hb d_R_put_69 rfl (lv_at hl 1 rfl) ?_
  refine lv_iload hx hb d_R_put_70 (lv_at hl 0 rfl) ?_
  refine lv_iconst (v := 1) hx hb d_R_put_72 (by decide) ?_
  refine R_vi C0 w (rest := []) (wr := []) (w1 := [(h, .inr (7, fR 1 0 0 0 q))]) 0 rfl rfl [0] [] (c_failsT l D cI cB cJ h q 1) rfl rfl rfl rfl (by decide) wd_963 wd_960 wd_962 ws_34 wd_8 (n9 := 2) (by decide +kernel) rfl ⟨(Nat.le_of_ble_eq_true rfl), (Nat.le_of_ble_eq_true rfl)⟩ hl.1 rfl (Nat.le_of_ble_eq_true rfl) d_R_put_73 (Nat.le_of_ble_eq_true rfl) (Nat.le_of_ble_eq_true rfl) (fun H locs w => ?_)
  have w : Wd D A s [(h, .inr (7, fR 1 0 0 0 q))] H _ := w
  refine lv_if_ne (tgt := 103) hx hb d_R_put_76 (by decide) (fun hc76 => ?_) (fun hc => absurd hc (by decide))
  refine lv_iconst (v := 0) hx hb d_R_put_103 (by decide) ?_
  exact hret _ _ _ _ d_R_put_104 (w.sub [0] rfl rfl)
set_option maxHeartbeats 4000000 in
set_option maxRecDepth 100000 in
theorem c_R_go (l : Launch) (D : va_G) (cI cB cJ : ClassId) (h : Nat) (q : Nat → Nat) (b : Int32) (t : Int32) : KV l D cI cB cJ y_R_go b_R_go 3 1 22 0 0 [.ref h, .int b, .int t] [(h, .inr (7, fR 0 0 0 0 q))] (fun A t => CE D [(h, .inr (7, fR 1 0 0 0 q))] A t) := by
  refine KV.ofW (by decide) (Nat.le_of_ble_eq_true rfl) ?_
  intro p e s m args below meth c A Q ls C0 hin hl w hret
  have hin : meth.name = "go" := hin
  have hx := C0.1
  have hb := C0.2.1
  have hl : lv_has ls 3 [(0, .ref h), (1, .int b), (2, .int t)] := hl
  refine lv_aload_n hx hb d_R_go_0 rfl (lv_at hl 0 rfl) ?_
  refine lv_aload_n hx hb d_R_go_1 rfl (lv_at hl 0 rfl) ?_
  refine lv_iload_n hx hb d_R_go_2 rfl (lv_at hl 1 rfl) ?_
  refine R_ri C0 w (rest := [.ref h]) 0 rfl rfl [0] (c_noBlock l D cI cB cJ h q b) rfl rfl wd_971 wd_968 wd_970 ws_35 wd_8 (n9 := 1) (by decide +kernel) rfl ⟨(Nat.le_of_ble_eq_true rfl), (Nat.le_of_ble_eq_true rfl)⟩ hl.1 rfl (Nat.le_of_ble_eq_true rfl) d_R_go_3 (Nat.le_of_ble_eq_true rfl) (Nat.le_of_ble_eq_true rfl) ?_
  refine lv_if_ne (tgt := 17) hx hb d_R_go_6 (by decide) (fun hc6 => ?_) (fun hc => absurd hc (by decide))
  refine lv_iconst (v := 1) hx hb d_R_go_17 (by decide) ?_
  refine lv_goto (tgt := 22) hx hb d_R_go_18 (by decide) ?_
  refine lv_iconst (v := 1) hx hb d_R_go_22 (by decide) ?_
  refine R_vi C0 w (rest := []) (wr := []) (w1 := [(h, .inr (7, fR 1 0 0 0 q))]) 0 rfl rfl [0] [] (c_failsT l D cI cB cJ h q 1) rfl rfl rfl rfl (by decide) wd_963 wd_960 wd_962 ws_34 wd_8 (n9 := 2) (by decide +kernel) rfl ⟨(Nat.le_of_ble_eq_true rfl), (Nat.le_of_ble_eq_true rfl)⟩ hl.1 rfl (Nat.le_of_ble_eq_true rfl) d_R_go_23 (Nat.le_of_ble_eq_true rfl) (Nat.le_of_ble_eq_true rfl) (fun H locs w => ?_)
  have w : Wd D A s [(h, .inr (7, fR 1 0 0 0 q))] H _ := w
  refine lv_if_eq (tgt := 30) hx hb d_R_go_26 (by decide) (fun hc => absurd hc (by decide)) (fun hc26 => ?_)
  exact hret _ _ _ _ d_R_go_29 w.2.2.1 (fun t ht => ⟨by rw [ht]; exact (w.sub [0] rfl rfl).1, (w.sub [0] rfl rfl).2.1⟩)
set_option maxHeartbeats 4000000 in
set_option maxRecDepth 100000 in
theorem c_R_fork (l : Launch) (D : va_G) (cI cB cJ : ClassId) (h : Nat) (q : Nat → Nat) (b : Int32) (x : Int32) (t : Int32) (u : Int32) : KV l D cI cB cJ y_R_fork b_R_fork 5 1 22 0 0 [.ref h, .int b, .int x, .int t, .int u] [(h, .inr (7, fR 0 0 0 0 q))] (fun A t => CE D [(h, .inr (7, fR 1 0 0 0 q))] A t) := by
  refine KV.ofW (by decide) (Nat.le_of_ble_eq_true rfl) ?_
  intro p e s m args below meth c A Q ls C0 hin hl w hret
  have hin : meth.name = "fork" := hin
  have hx := C0.1
  have hb := C0.2.1
  have hl : lv_has ls 5 [(0, .ref h), (1, .int b), (2, .int x), (3, .int t), (4, .int u)] := hl
  refine lv_aload_n hx hb d_R_fork_0 rfl (lv_at hl 0 rfl) ?_
  refine lv_aload_n hx hb d_R_fork_1 rfl (lv_at hl 0 rfl) ?_
  refine lv_iload_n hx hb d_R_fork_2 rfl (lv_at hl 1 rfl) ?_
  refine R_ri C0 w (rest := [.ref h]) 0 rfl rfl [0] (c_noBlock l D cI cB cJ h q b) rfl rfl wd_971 wd_968 wd_970 ws_35 wd_8 (n9 := 1) (by decide +kernel) rfl ⟨(Nat.le_of_ble_eq_true rfl), (Nat.le_of_ble_eq_true rfl)⟩ hl.1 rfl (Nat.le_of_ble_eq_true rfl) d_R_fork_3 (Nat.le_of_ble_eq_true rfl) (Nat.le_of_ble_eq_true rfl) ?_
  refine lv_if_ne (tgt := 33) hx hb d_R_fork_6 (by decide) (fun hc6 => ?_) (fun hc => absurd hc (by decide))
  refine lv_iconst (v := 1) hx hb d_R_fork_33 (by decide) ?_
  refine lv_goto (tgt := 38) hx hb d_R_fork_34 (by decide) ?_
  refine lv_iconst (v := 1) hx hb d_R_fork_38 (by decide) ?_
  refine R_vi C0 w (rest := []) (wr := []) (w1 := [(h, .inr (7, fR 1 0 0 0 q))]) 0 rfl rfl [0] [] (c_failsT l D cI cB cJ h q 1) rfl rfl rfl rfl (by decide) wd_963 wd_960 wd_962 ws_34 wd_8 (n9 := 2) (by decide +kernel) rfl ⟨(Nat.le_of_ble_eq_true rfl), (Nat.le_of_ble_eq_true rfl)⟩ hl.1 rfl (Nat.le_of_ble_eq_true rfl) d_R_fork_39 (Nat.le_of_ble_eq_true rfl) (Nat.le_of_ble_eq_true rfl) (fun H locs w => ?_)
  have w : Wd D A s [(h, .inr (7, fR 1 0 0 0 q))] H _ := w
  refine lv_if_eq (tgt := 46) hx hb d_R_fork_42 (by decide) (fun hc => absurd hc (by decide)) (fun hc42 => ?_)
  exact hret _ _ _ _ d_R_fork_45 w.2.2.1 (fun t ht => ⟨by rw [ht]; exact (w.sub [0] rfl rfl).1, (w.sub [0] rfl rfl).2.1⟩)
set_option maxHeartbeats 4000000 in
set_option maxRecDepth 100000 in
theorem c_R_stop (l : Launch) (D : va_G) (cI cB cJ : ClassId) (h : Nat) (q : Nat → Nat) (b : Int32) : KV l D cI cB cJ y_R_stop b_R_stop 2 1 22 0 0 [.ref h, .int b] [(h, .inr (7, fR 0 0 0 0 q))] (fun A t => CE D [(h, .inr (7, fR 1 0 0 0 q))] A t) := by
  refine KV.ofW (by decide) (Nat.le_of_ble_eq_true rfl) ?_
  intro p e s m args below meth c A Q ls C0 hin hl w hret
  have hin : meth.name = "stop" := hin
  have hx := C0.1
  have hb := C0.2.1
  have hl : lv_has ls 2 [(0, .ref h), (1, .int b)] := hl
  refine lv_aload_n hx hb d_R_stop_0 rfl (lv_at hl 0 rfl) ?_
  refine lv_aload_n hx hb d_R_stop_1 rfl (lv_at hl 0 rfl) ?_
  refine lv_iload_n hx hb d_R_stop_2 rfl (lv_at hl 1 rfl) ?_
  refine R_ri C0 w (rest := [.ref h]) 0 rfl rfl [0] (c_noBlock l D cI cB cJ h q b) rfl rfl wd_971 wd_968 wd_970 ws_35 wd_8 (n9 := 1) (by decide +kernel) rfl ⟨(Nat.le_of_ble_eq_true rfl), (Nat.le_of_ble_eq_true rfl)⟩ hl.1 rfl (Nat.le_of_ble_eq_true rfl) d_R_stop_3 (Nat.le_of_ble_eq_true rfl) (Nat.le_of_ble_eq_true rfl) ?_
  refine lv_iconst (v := 1) hx hb d_R_stop_6 (by decide) ?_
  refine R_vi C0 w (rest := []) (wr := []) (w1 := [(h, .inr (7, fR 1 0 0 0 q))]) 0 rfl rfl [0] [] (c_failsT l D cI cB cJ h q 1) rfl rfl rfl rfl (by decide) wd_963 wd_960 wd_962 ws_34 wd_8 (n9 := 2) (by decide +kernel) rfl ⟨(Nat.le_of_ble_eq_true rfl), (Nat.le_of_ble_eq_true rfl)⟩ hl.1 rfl (Nat.le_of_ble_eq_true rfl) d_R_stop_7 (Nat.le_of_ble_eq_true rfl) (Nat.le_of_ble_eq_true rfl) (fun H locs w => ?_)
  have w : Wd D A s [(h, .inr (7, fR 1 0 0 0 q))] H _ := w
  refine lv_if_eq (tgt := 14) hx hb d_R_stop_10 (by decide) (fun hc => absurd hc (by decide)) (fun hc10 => ?_)
  exact hret _ _ _ _ d_R_stop_13 w.2.2.1 (fun t ht => ⟨by rw [ht]; exact (w.sub [0] rfl rfl).1, (w.sub [0] rfl rfl).2.1⟩)
set_option maxHeartbeats 4000000 in
set_option maxRecDepth 100000 in
theorem c_R_clear (l : Launch) (D : va_G) (cI cB cJ : ClassId) (h : Nat) (q : Nat → Nat) : KV l D cI cB cJ y_R_clear b_R_clear 1 0 0 0 0 [.ref h] [(h, .inr (7, fR 0 0 0 0 q))] (fun A t => CE D [(h, .inr (7, fR 0 0 0 0 q))] A t) := by
  refine KV.ofW (by decide) (Nat.le_of_ble_eq_true rfl) ?_
  intro p e s m args below meth c A Q ls C0 hin hl w hret
  have hin : meth.name = "clear" := hin
  have hx := C0.1
  have hb := C0.2.1
  have hl : lv_has ls 1 [(0, .ref h)] := hl
  refine lv_aload_n hx hb d_R_clear_0 rfl (lv_at hl 0 rfl) ?_
  refine lv_iconst (v := 0) hx hb d_R_clear_1 (by decide) ?_
  refine R_put C0 w 0 rfl rfl inR tyR_ok nmR 0 (by decide) wd_828 rfl rfl rfl (Nat.le_of_ble_eq_true rfl) d_R_clear_2 (fun H locs w => ?_)
  have w : Wd D A s [(h, .inr (7, fR 0 0 0 0 q))] H _ := w
  refine lv_aload_n hx hb d_R_clear_5 rfl (lv_at hl 0 rfl) ?_
  refine lv_iconst (v := 0) hx hb d_R_clear_6 (by decide) ?_
  refine R_put C0 w 0 rfl rfl inR tyR_ok nmR 1 (by decide) wd_829 rfl rfl rfl (Nat.le_of_ble_eq_true rfl) d_R_clear_7 (fun H locs w => ?_)
  have w : Wd D A s [(h, .inr (7, fR 0 0 0 0 q))] H _ := w
  refine lv_aload_n hx hb d_R_clear_10 rfl (lv_at hl 0 rfl) ?_
  refine lv_iconst (v := 0) hx hb d_R_clear_11 (by decide) ?_
  refine R_put C0 w 0 rfl rfl inR tyR_ok nmR 11 (by decide) wd_839 rfl nz0 fz0 (Nat.le_of_ble_eq_true rfl) d_R_clear_12 (fun H locs w => ?_)
  have w : Wd D A s [(h, .inr (7, fR 0 0 0 0 q))] H _ := w
  exact hret _ _ _ _ d_R_clear_15 w.2.2.1 (fun t ht => ⟨by rw [ht]; exact (w.sub [0] rfl rfl).1, (w.sub [0] rfl rfl).2.1⟩)
set_option maxHeartbeats 4000000 in
set_option maxRecDepth 100000 in
theorem c_R_build (l : Launch) (D : va_G) (cI cB cJ : ClassId) (h : Nat) (q : Nat → Nat) : KI l D cI cB cJ y_R_build b_R_build 1 (some .int) 1 22 [.ref h] [(h, .inr (7, fR 0 0 0 0 q))] 0 [(h, .inr (7, fR 1 0 0 0 q))] := by
  refine KI.ofW (by decide) (Nat.le_of_ble_eq_true rfl) rfl rfl ?_
  intro p e s m args below meth c A Q ls C0 hl w hret
  have hx := C0.1
  have hb := C0.2.1
  have hl : lv_has ls 1 [(0, .ref h)] := hl
  refine lv_aload_n hx hb d_R_build_0 rfl (lv_at hl 0 rfl) ?_
  refine lv_aload_n hx hb d_R_build_1 rfl (lv_at hl 0 rfl) ?_
  refine R_get C0 w 0 rfl rfl inR 1 (by decide) wd_829 rfl d_R_build_2 ?_
  refine lv_if_ne (tgt := 12) hx hb d_R_build_5 (by decide) (fun hc => absurd (by decide) hc) (fun hc5 => ?_)
  refine lv_iconst (v := 1) hx hb d_R_build_8 (by decide) ?_
  refine lv_goto (tgt := 13) hx hb d_R_build_9 (by decide) ?_
  refine lv_iconst (v := 1) hx hb d_R_build_13 (by decide) ?_
  refine R_vi C0 w (rest := []) (wr := []) (w1 := [(h, .inr (7, fR 1 0 0 0 q))]) 0 rfl rfl [0] [] (c_failsT l D cI cB cJ h q 1) rfl rfl rfl rfl (by decide) wd_963 wd_960 wd_962 ws_34 wd_8 (n9 := 2) (by decide +kernel) rfl ⟨(Nat.le_of_ble_eq_true rfl), (Nat.le_of_ble_eq_true rfl)⟩ hl.1 rfl (Nat.le_of_ble_eq_true rfl) d_R_build_14 (Nat.le_of_ble_eq_true rfl) (Nat.le_of_ble_eq_true rfl) (fun H locs w => ?_)
  have w : Wd D A s [(h, .inr (7, fR 1 0 0 0 q))] H _ := w
  refine lv_if_eq (tgt := 22) hx hb d_R_build_17 (by decide) (fun hc => absurd hc (by decide)) (fun hc17 => ?_)
  refine lv_iconst (v := 0) hx hb d_R_build_20 (by decide) ?_
  exact hret _ _ _ _ d_R_build_21 (w.sub [0] rfl rfl)
set_option maxHeartbeats 4000000 in
set_option maxRecDepth 100000 in
theorem c_R_look (l : Launch) (D : va_G) (cI cB cJ : ClassId) (h : Nat) (q : Nat → Nat) (b : Int32) (k : Int32) : KI l D cI cB cJ y_R_look b_R_look 4 (some .int) 1 22 [.ref h, .int b, .int k] [(h, .inr (7, fR 0 0 0 0 q))] 0 [(h, .inr (7, fR 1 0 0 0 q))] := by
  refine KI.ofW (by decide) (Nat.le_of_ble_eq_true rfl) rfl rfl ?_
  intro p e s m args below meth c A Q ls C0 hl w hret
  have hx := C0.1
  have hb := C0.2.1
  have hl : lv_has ls 4 [(0, .ref h), (1, .int b), (2, .int k)] := hl
  refine lv_aload_n hx hb d_R_look_0 rfl (lv_at hl 0 rfl) ?_
  refine lv_aload_n hx hb d_R_look_1 rfl (lv_at hl 0 rfl) ?_
  refine lv_iload_n hx hb d_R_look_2 rfl (lv_at hl 1 rfl) ?_
  refine R_ri C0 w (rest := [.ref h]) 0 rfl rfl [0] (c_noBlock l D cI cB cJ h q b) rfl rfl wd_971 wd_968 wd_970 ws_35 wd_8 (n9 := 1) (by decide +kernel) rfl ⟨(Nat.le_of_ble_eq_true rfl), (Nat.le_of_ble_eq_true rfl)⟩ hl.1 rfl (Nat.le_of_ble_eq_true rfl) d_R_look_3 (Nat.le_of_ble_eq_true rfl) (Nat.le_of_ble_eq_true rfl) ?_
  refine lv_if_ne (tgt := 18) hx hb d_R_look_6 (by decide) (fun hc6 => ?_) (fun hc => absurd hc (by decide))
  refine lv_iconst (v := 1) hx hb d_R_look_18 (by decide) ?_
  refine lv_goto (tgt := 23) hx hb d_R_look_19 (by decide) ?_
  refine lv_iconst (v := 1) hx hb d_R_look_23 (by decide) ?_
  refine R_vi C0 w (rest := []) (wr := []) (w1 := [(h, .inr (7, fR 1 0 0 0 q))]) 0 rfl rfl [0] [] (c_failsT l D cI cB cJ h q 1) rfl rfl rfl rfl (by decide) wd_963 wd_960 wd_962 ws_34 wd_8 (n9 := 2) (by decide +kernel) rfl ⟨(Nat.le_of_ble_eq_true rfl), (Nat.le_of_ble_eq_true rfl)⟩ hl.1 rfl (Nat.le_of_ble_eq_true rfl) d_R_look_24 (Nat.le_of_ble_eq_true rfl) (Nat.le_of_ble_eq_true rfl) (fun H locs w => ?_)
  have w : Wd D A s [(h, .inr (7, fR 1 0 0 0 q))] H _ := w
  refine lv_if_ne (tgt := 50) hx hb d_R_look_27 (by decide) (fun hc27 => ?_) (fun hc => absurd hc (by decide))
  refine lv_iconst (v := 0) hx hb d_R_look_50 (by decide) ?_
  exact hret _ _ _ _ d_R_look_51 (w.sub [0] rfl rfl)
set_option maxHeartbeats 4000000 in
set_option maxRecDepth 100000 in
theorem c_R_phi (l : Launch) (D : va_G) (cI cB cJ : ClassId) (h : Nat) (q : Nat → Nat) (b : Int32) (k : Int32) (x : Int32) : KI l D cI cB cJ y_R_phi b_R_phi 6 (some .int) 1 22 [.ref h, .int b, .int k, .int x] [(h, .inr (7, fR 0 0 0 0 q))] 0 [(h, .inr (7, fR 2 0 0 0 q))] := by
  refine KI.ofW (by decide) (Nat.le_of_ble_eq_true rfl) rfl rfl ?_
  intro p e s m args below meth c A Q ls C0 hl w hret
  have hx := C0.1
  have hb := C0.2.1
  have hl : lv_has ls 6 [(0, .ref h), (1, .int b), (2, .int k), (3, .int x)] := hl
  refine lv_aload_n hx hb d_R_phi_0 rfl (lv_at hl 0 rfl) ?_
  refine lv_aload_n hx hb d_R_phi_1 rfl (lv_at hl 0 rfl) ?_
  refine R_get C0 w 0 rfl rfl inR 11 (by decide) wd_839 rfl d_R_phi_2 ?_
  refine lv_if_ne (tgt := 12) hx hb d_R_phi_5 (by decide) (fun hc => absurd (by decide) hc) (fun hc5 => ?_)
  refine lv_iconst (v := 1) hx hb d_R_phi_8 (by decide) ?_
  refine lv_goto (tgt := 13) hx hb d_R_phi_9 (by decide) ?_
  refine lv_iconst (v := 2) hx hb d_R_phi_13 (by decide) ?_
  refine R_vi C0 w (rest := []) (wr := []) (w1 := [(h, .inr (7, fR 2 0 0 0 q))]) 0 rfl rfl [0] [] (c_failsT l D cI cB cJ h q 2) rfl rfl rfl rfl (by decide) wd_963 wd_960 wd_962 ws_34 wd_8 (n9 := 2) (by decide +kernel) rfl ⟨(Nat.le_of_ble_eq_true rfl), (Nat.le_of_ble_eq_true rfl)⟩ hl.1 rfl (Nat.le_of_ble_eq_true rfl) d_R_phi_14 (Nat.le_of_ble_eq_true rfl) (Nat.le_of_ble_eq_true rfl) (fun H locs w => ?_)
  have w : Wd D A s [(h, .inr (7, fR 2 0 0 0 q))] H _ := w
  refine lv_if_eq (tgt := 22) hx hb d_R_phi_17 (by decide) (fun hc => absurd hc (by decide)) (fun hc17 => ?_)
  refine lv_iconst (v := 0) hx hb d_R_phi_20 (by decide) ?_
  exact hret _ _ _ _ d_R_phi_21 (w.sub [0] rfl rfl)
set_option maxHeartbeats 4000000 in
set_option maxRecDepth 100000 in
theorem c_R_uses (l : Launch) (D : va_G) (cI cB cJ : ClassId) (h : Nat) (q : Nat → Nat) (b : Int32) (k : Int32) (x : Int32) : KI l D cI cB cJ y_R_uses b_R_uses 6 (some .int) 1 22 [.ref h, .int b, .int k, .int x] [(h, .inr (7, fR 0 0 0 0 q))] 0 [(h, .inr (7, fR 2 0 0 0 q))] := by
  refine KI.ofW (by decide) (Nat.le_of_ble_eq_true rfl) rfl rfl ?_
  intro p e s m args below meth c A Q ls C0 hl w hret
  have hx := C0.1
  have hb := C0.2.1
  have hl : lv_has ls 6 [(0, .ref h), (1, .int b), (2, .int k), (3, .int x)] := hl
  refine lv_aload_n hx hb d_R_uses_0 rfl (lv_at hl 0 rfl) ?_
  refine lv_aload_n hx hb d_R_uses_1 rfl (lv_at hl 0 rfl) ?_
  refine R_get C0 w 0 rfl rfl inR 11 (by decide) wd_839 rfl d_R_uses_2 ?_
  refine lv_if_ne (tgt := 12) hx hb d_R_uses_5 (by decide) (fun hc => absurd (by decide) hc) (fun hc5 => ?_)
  refine lv_iconst (v := 1) hx hb d_R_uses_8 (by decide) ?_
  refine lv_goto (tgt := 13) hx hb d_R_uses_9 (by decide) ?_
  refine lv_iconst (v := 2) hx hb d_R_uses_13 (by decide) ?_
  refine R_vi C0 w (rest := []) (wr := []) (w1 := [(h, .inr (7, fR 2 0 0 0 q))]) 0 rfl rfl [0] [] (c_failsT l D cI cB cJ h q 2) rfl rfl rfl rfl (by decide) wd_963 wd_960 wd_962 ws_34 wd_8 (n9 := 2) (by decide +kernel) rfl ⟨(Nat.le_of_ble_eq_true rfl), (Nat.le_of_ble_eq_true rfl)⟩ hl.1 rfl (Nat.le_of_ble_eq_true rfl) d_R_uses_14 (Nat.le_of_ble_eq_true rfl) (Nat.le_of_ble_eq_true rfl) (fun H locs w => ?_)
  have w : Wd D A s [(h, .inr (7, fR 2 0 0 0 q))] H _ := w
  refine lv_if_eq (tgt := 22) hx hb d_R_uses_17 (by decide) (fun hc => absurd hc (by decide)) (fun hc17 => ?_)
  refine lv_iconst (v := 0) hx hb d_R_uses_20 (by decide) ?_
  exact hret _ _ _ _ d_R_uses_21 (w.sub [0] rfl rfl)
set_option maxHeartbeats 4000000 in
set_option maxRecDepth 100000 in
theorem c_R_name (l : Launch) (D : va_G) (cI cB cJ : ClassId) (h : Nat) (q : Nat → Nat) (b : Int32) (k : Int32) : KI l D cI cB cJ y_R_name b_R_name 3 (some .int) 1 22 [.ref h, .int b, .int k] [(h, .inr (7, fR 0 0 0 0 q))] 0 [(h, .inr (7, fR 2 0 0 0 q))] := by
  refine KI.ofW (by decide) (Nat.le_of_ble_eq_true rfl) rfl rfl ?_
  intro p e s m args below meth c A Q ls C0 hl w hret
  have hx := C0.1
  have hb := C0.2.1
  have hl : lv_has ls 3 [(0, .ref h), (1, .int b), (2, .int k)] := hl
  refine lv_aload_n hx hb d_R_name_0 rfl (lv_at hl 0 rfl) ?_
  refine lv_aload_n hx hb d_R_name_1 rfl (lv_at hl 0 rfl) ?_
  refine R_get C0 w 0 rfl rfl inR 11 (by decide) wd_839 rfl d_R_name_2 ?_
  refine lv_if_ne (tgt := 12) hx hb d_R_name_5 (by decide) (fun hc => absurd (by decide) hc) (fun hc5 => ?_)
  refine lv_iconst (v := 1) hx hb d_R_name_8 (by decide) ?_
  refine lv_goto (tgt := 13) hx hb d_R_name_9 (by decide) ?_
  refine lv_iconst (v := 2) hx hb d_R_name_13 (by decide) ?_
  refine R_vi C0 w (rest := []) (wr := []) (w1 := [(h, .inr (7, fR 2 0 0 0 q))]) 0 rfl rfl [0] [] (c_failsT l D cI cB cJ h q 2) rfl rfl rfl rfl (by decide) wd_963 wd_960 wd_962 ws_34 wd_8 (n9 := 2) (by decide +kernel) rfl ⟨(Nat.le_of_ble_eq_true rfl), (Nat.le_of_ble_eq_true rfl)⟩ hl.1 rfl (Nat.le_of_ble_eq_true rfl) d_R_name_14 (Nat.le_of_ble_eq_true rfl) (Nat.le_of_ble_eq_true rfl) (fun H locs w => ?_)
  have w : Wd D A s [(h, .inr (7, fR 2 0 0 0 q))] H _ := w
  refine lv_if_eq (tgt := 22) hx hb d_R_name_17 (by decide) (fun hc => absurd hc (by decide)) (fun hc17 => ?_)
  refine lv_iconst (v := 0) hx hb d_R_name_20 (by decide) ?_
  exact hret _ _ _ _ d_R_name_21 (w.sub [0] rfl rfl)
set_option maxHeartbeats 4000000 in
set_option maxRecDepth 100000 in
theorem c_R_give (l : Launch) (D : va_G) (cI cB cJ : ClassId) (h : Nat) (q : Nat → Nat) (v : Int32) : KI l D cI cB cJ y_R_give b_R_give 2 (some .boolean) 0 0 [.ref h, .int v] [(h, .inr (7, fR 0 0 0 0 q)), ((q 33), .inl (cI, 16, .inl (fun _ => 0)))] 1 [(h, .inr (7, fR 0 0 0 1 q))] := by
  refine KI.ofW (by decide) (Nat.le_of_ble_eq_true rfl) rfl rfl ?_
  intro p e s m args below meth c A Q ls C0 hl w hret
  have hx := C0.1
  have hb := C0.2.1
  have hl : lv_has ls 2 [(0, .ref h), (1, .int v)] := hl
  refine lv_aload_n hx hb d_R_give_0 rfl (lv_at hl 0 rfl) ?_
  refine lv_iconst (v := 0) hx hb d_R_give_1 (by decide) ?_
  refine R_put C0 w 0 rfl rfl inR tyR_ok nmR 0 (by decide) wd_828 rfl rfl rfl (Nat.le_of_ble_eq_true rfl) d_R_give_2 (fun H locs w => ?_)
  have w : Wd D A s [(h, .inr (7, fR 0 0 0 0 q)), ((q 33), .inl (cI, 16, .inl (fun _ => 0)))] H _ := w
  refine lv_aload_n hx hb d_R_give_5 rfl (lv_at hl 0 rfl) ?_
  refine R_get C0 w 0 rfl rfl inR 32 (by decide) wd_860 rfl d_R_give_6 ?_
  refine lv_bipush (v := 16) hx hb d_R_give_9 (by decide) ?_
  refine lv_icmp_ne (tgt := 16) hx hb d_R_give_11 (by decide) (fun hc11 => ?_) (fun hc => absurd hc (by decide))
  refine lv_aload_n hx hb d_R_give_16 rfl (lv_at hl 0 rfl) ?_
  refine R_get C0 w 0 rfl rfl inR 33 (by decide) wd_861 rfl d_R_give_17 ?_
  refine lv_aload_n hx hb d_R_give_20 rfl (lv_at hl 0 rfl) ?_
  refine R_get C0 w 0 rfl rfl inR 32 (by decide) wd_860 rfl d_R_give_21 ?_
  refine lv_iload_n hx hb d_R_give_24 rfl (lv_at hl 1 rfl) ?_
  refine R_ast C0 w 1 rfl (vin (by decide)) d_R_give_25 (fun H locs w => ?_)
  have w : Wd D A s [(h, .inr (7, fR 0 0 0 0 q)), ((q 33), .inl (cI, 16, .inl (upd (fun _ => 0) (0 : Int32).toNatClampNeg v)))] H _ := w
  refine lv_aload_n hx hb d_R_give_26 rfl (lv_at hl 0 rfl) ?_
  refine lv_dup hx hb d_R_give_27 rfl ?_
  refine R_get C0 w 0 rfl rfl inR 32 (by decide) wd_860 rfl d_R_give_28 ?_
  refine lv_iconst (v := 1) hx hb d_R_give_31 (by decide) ?_
  refine lv_iadd hx hb d_R_give_32 ?_
  refine lv_cst (x := 0 + 1) (y := 1) (by decide) ?_
  refine R_put C0 w 0 rfl rfl inR tyR_ok nmR 32 (by decide) wd_860 rfl rfl rfl (Nat.le_of_ble_eq_true rfl) d_R_give_33 (fun H locs w => ?_)
  have w : Wd D A s [(h, .inr (7, fR 0 0 0 1 q)), ((q 33), .inl (cI, 16, .inl (upd (fun _ => 0) (0 : Int32).toNatClampNeg v)))] H _ := w
  refine lv_iconst (v := 1) hx hb d_R_give_36 (by decide) ?_
  exact hret _ _ _ _ d_R_give_37 (w.sub [0] rfl rfl)
set_option maxHeartbeats 4000000 in
set_option maxRecDepth 100000 in
theorem c_R_take (l : Launch) (D : va_G) (cI cB cJ : ClassId) (h : Nat) (q : Nat → Nat) : KV l D cI cB cJ y_R_take b_R_take 1 0 0 0 0 [.ref h] [(h, .inr (7, fR 0 0 0 0 q))] (fun A t => CE D [(h, .inr (7, fR 0 0 0 0 q))] A t) := by
  refine KV.ofW (by decide) (Nat.le_of_ble_eq_true rfl) ?_
  intro p e s m args below meth c A Q ls C0 hin hl w hret
  have hin : meth.name = "take" := hin
  have hx := C0.1
  have hb := C0.2.1
  have hl : lv_has ls 1 [(0, .ref h)] := hl
  refine lv_aload_n hx hb d_R_take_0 rfl (lv_at hl 0 rfl) ?_
  refine lv_iconst (v := 0) hx hb d_R_take_1 (by decide) ?_
  refine R_put C0 w 0 rfl rfl inR tyR_ok nmR 0 (by decide) wd_828 rfl rfl rfl (Nat.le_of_ble_eq_true rfl) d_R_take_2 (fun H locs w => ?_)
  have w : Wd D A s [(h, .inr (7, fR 0 0 0 0 q))] H _ := w
  refine lv_aload_n hx hb d_R_take_5 rfl (lv_at hl 0 rfl) ?_
  refine lv_iconst (v := 0) hx hb d_R_take_6 (by decide) ?_
  refine R_put C0 w 0 rfl rfl inR tyR_ok nmR 32 (by decide) wd_860 rfl rfl rfl (Nat.le_of_ble_eq_true rfl) d_R_take_7 (fun H locs w => ?_)
  have w : Wd D A s [(h, .inr (7, fR 0 0 0 0 q))] H _ := w
  exact hret _ _ _ _ d_R_take_10 w.2.2.1 (fun t ht => ⟨by rw [ht]; exact (w.sub [0] rfl rfl).1, (w.sub [0] rfl rfl).2.1⟩)
set_option maxHeartbeats 4000000 in
set_option maxRecDepth 100000 in
theorem c_R_runA (l : Launch) (D : va_G) (cI cB cJ : ClassId) (h : Nat) (q : Nat → Nat) (b : Int32) (k : Int32) (hs : k < 0) : KI l D cI cB cJ y_R_run b_R_run 5 (some .int) 1 22 [.ref h, .int b, .int k] [(h, .inr (7, fR 0 0 0 0 q))] 0 [(h, .inr (7, fR 1 0 0 0 q))] := by
  refine KI.ofW (by decide) (Nat.le_of_ble_eq_true rfl) rfl rfl ?_
  intro p e s m args below meth c A Q ls C0 hl w hret
  have hx := C0.1
  have hb := C0.2.1
  have hl : lv_has ls 5 [(0, .ref h), (1, .int b), (2, .int k)] := hl
  refine lv_aload_n hx hb d_R_run_0 rfl (lv_at hl 0 rfl) ?_
  refine lv_iload_n hx hb d_R_run_1 rfl (lv_at hl 2 rfl) ?_
  refine lv_if_lt (tgt := 12) hx hb d_R_run_2 (by decide) (fun hc2 => ?_) (fun hc => absurd hs hc)
  refine lv_iconst (v := 1) hx hb d_R_run_12 (by decide) ?_
  refine lv_goto (tgt := 17) hx hb d_R_run_13 (by decide) ?_
  refine lv_iconst (v := 1) hx hb d_R_run_17 (by decide) ?_
  refine R_vi C0 w (rest := []) (wr := []) (w1 := [(h, .inr (7, fR 1 0 0 0 q))]) 0 rfl rfl [0] [] (c_failsT l D cI cB cJ h q 1) rfl rfl rfl rfl (by decide) wd_963 wd_960 wd_962 ws_34 wd_8 (n9 := 2) (by decide +kernel) rfl ⟨(Nat.le_of_ble_eq_true rfl), (Nat.le_of_ble_eq_true rfl)⟩ hl.1 rfl (Nat.le_of_ble_eq_true rfl) d_R_run_18 (Nat.le_of_ble_eq_true rfl) (Nat.le_of_ble_eq_true rfl) (fun H locs w => ?_)
  have w : Wd D A s [(h, .inr (7, fR 1 0 0 0 q))] H _ := w
  refine lv_if_ne (tgt := 44) hx hb d_R_run_21 (by decide) (fun hc21 => ?_) (fun hc => absurd hc (by decide))
  refine lv_iconst (v := 0) hx hb d_R_run_44 (by decide) ?_
  exact hret _ _ _ _ d_R_run_45 (w.sub [0] rfl rfl)
set_option maxHeartbeats 4000000 in
set_option maxRecDepth 100000 in
theorem c_R_runB (l : Launch) (D : va_G) (cI cB cJ : ClassId) (h : Nat) (q : Nat → Nat) (b : Int32) (k : Int32) (hs : ¬ k < 0) (ht : ¬ k ≤ 200) : KI l D cI cB cJ y_R_run b_R_run 5 (some .int) 1 22 [.ref h, .int b, .int k] [(h, .inr (7, fR 0 0 0 0 q))] 0 [(h, .inr (7, fR 1 0 0 0 q))] := by
  refine KI.ofW (by decide) (Nat.le_of_ble_eq_true rfl) rfl rfl ?_
  intro p e s m args below meth c A Q ls C0 hl w hret
  have hx := C0.1
  have hb := C0.2.1
  have hl : lv_has ls 5 [(0, .ref h), (1, .int b), (2, .int k)] := hl
  refine lv_aload_n hx hb d_R_run_0 rfl (lv_at hl 0 rfl) ?_
  refine lv_iload_n hx hb d_R_run_1 rfl (lv_at hl 2 rfl) ?_
  refine lv_if_lt (tgt := 12) hx hb d_R_run_2 (by decide) (fun hc => absurd hc hs) (fun hc2 => ?_)
  refine lv_iload_n hx hb d_R_run_5 rfl (lv_at hl 2 rfl) ?_
  refine lv_sipush (v := 200) hx hb d_R_run_6 (by decide) ?_
  refine lv_icmp_le (tgt := 16) hx hb d_R_run_9 (by decide) (fun hc => absurd hc ht) (fun hc9 => ?_)
  refine lv_iconst (v := 1) hx hb d_R_run_12 (by decide) ?_
  refine lv_goto (tgt := 17) hx hb d_R_run_13 (by decide) ?_
  refine lv_iconst (v := 1) hx hb d_R_run_17 (by decide) ?_
  refine R_vi C0 w (rest := []) (wr := []) (w1 := [(h, .inr (7, fR 1 0 0 0 q))]) 0 rfl rfl [0] [] (c_failsT l D cI cB cJ h q 1) rfl rfl rfl rfl (by decide) wd_963 wd_960 wd_962 ws_34 wd_8 (n9 := 2) (by decide +kernel) rfl ⟨(Nat.le_of_ble_eq_true rfl), (Nat.le_of_ble_eq_true rfl)⟩ hl.1 rfl (Nat.le_of_ble_eq_true rfl) d_R_run_18 (Nat.le_of_ble_eq_true rfl) (Nat.le_of_ble_eq_true rfl) (fun H locs w => ?_)
  have w : Wd D A s [(h, .inr (7, fR 1 0 0 0 q))] H _ := w
  refine lv_if_ne (tgt := 44) hx hb d_R_run_21 (by decide) (fun hc21 => ?_) (fun hc => absurd hc (by decide))
  refine lv_iconst (v := 0) hx hb d_R_run_44 (by decide) ?_
  exact hret _ _ _ _ d_R_run_45 (w.sub [0] rfl rfl)
set_option maxHeartbeats 4000000 in
set_option maxRecDepth 100000 in
theorem c_R_runC (l : Launch) (D : va_G) (cI cB cJ : ClassId) (h : Nat) (q : Nat → Nat) (b : Int32) (k : Int32) (hs : ¬ k < 0) (ht : k ≤ 200) : KI l D cI cB cJ y_R_run b_R_run 5 (some .int) 1 22 [.ref h, .int b, .int k] [(h, .inr (7, fR 0 0 0 0 q))] 0 [(h, .inr (7, fR 2 0 0 0 q))] := by
  refine KI.ofW (by decide) (Nat.le_of_ble_eq_true rfl) rfl rfl ?_
  intro p e s m args below meth c A Q ls C0 hl w hret
  have hx := C0.1
  have hb := C0.2.1
  have hl : lv_has ls 5 [(0, .ref h), (1, .int b), (2, .int k)] := hl
  refine lv_aload_n hx hb d_R_run_0 rfl (lv_at hl 0 rfl) ?_
  refine lv_iload_n hx hb d_R_run_1 rfl (lv_at hl 2 rfl) ?_
  refine lv_if_lt (tgt := 12) hx hb d_R_run_2 (by decide) (fun hc => absurd hc hs) (fun hc2 => ?_)
  refine lv_iload_n hx hb d_R_run_5 rfl (lv_at hl 2 rfl) ?_
  refine lv_sipush (v := 200) hx hb d_R_run_6 (by decide) ?_
  refine lv_icmp_le (tgt := 16) hx hb d_R_run_9 (by decide) (fun hc9 => ?_) (fun hc => absurd ht hc)
  refine lv_iconst (v := 0) hx hb d_R_run_16 (by decide) ?_
  refine lv_iconst (v := 1) hx hb d_R_run_17 (by decide) ?_
  refine R_vi C0 w (rest := []) (wr := []) (w1 := [(h, .inr (7, fR 0 0 0 0 q))]) 0 rfl rfl [0] [] (c_failsF l D cI cB cJ h q 1) rfl rfl rfl rfl (by decide) wd_963 wd_960 wd_962 ws_34 wd_8 (n9 := 2) (by decide +kernel) rfl ⟨(Nat.le_of_ble_eq_true rfl), (Nat.le_of_ble_eq_true rfl)⟩ hl.1 rfl (Nat.le_of_ble_eq_true rfl) d_R_run_18 (Nat.le_of_ble_eq_true rfl) (Nat.le_of_ble_eq_true rfl) (fun H locs w => ?_)
  have w : Wd D A s [(h, .inr (7, fR 0 0 0 0 q))] H _ := w
  refine lv_if_ne (tgt := 44) hx hb d_R_run_21 (by decide) (fun hc => absurd (by decide) hc) (fun hc21 => ?_)
  refine lv_aload_n hx hb d_R_run_24 rfl (lv_at hl 0 rfl) ?_
  refine lv_aload_n hx hb d_R_run_25 rfl (lv_at hl 0 rfl) ?_
  refine R_get C0 w 0 rfl rfl inR 11 (by decide) wd_839 rfl d_R_run_26 ?_
  refine lv_if_ne (tgt := 36) hx hb d_R_run_29 (by decide) (fun hc => absurd (by decide) hc) (fun hc29 => ?_)
  refine lv_iconst (v := 1) hx hb d_R_run_32 (by decide) ?_
  refine lv_goto (tgt := 37) hx hb d_R_run_33 (by decide) ?_
  refine lv_iconst (v := 2) hx hb d_R_run_37 (by decide) ?_
  refine R_vi C0 w (rest := []) (wr := []) (w1 := [(h, .inr (7, fR 2 0 0 0 q))]) 0 rfl rfl [0] [] (c_failsT l D cI cB cJ h q 2) rfl rfl rfl rfl (by decide) wd_963 wd_960 wd_962 ws_34 wd_8 (n9 := 2) (by decide +kernel) rfl ⟨(Nat.le_of_ble_eq_true rfl), (Nat.le_of_ble_eq_true rfl)⟩ hl.1 rfl (Nat.le_of_ble_eq_true rfl) d_R_run_38 (Nat.le_of_ble_eq_true rfl) (Nat.le_of_ble_eq_true rfl) (fun H locs w => ?_)
  have w : Wd D A s [(h, .inr (7, fR 2 0 0 0 q))] H _ := w
  refine lv_if_eq (tgt := 46) hx hb d_R_run_41 (by decide) (fun hc => absurd hc (by decide)) (fun hc41 => ?_)
  refine lv_iconst (v := 0) hx hb d_R_run_44 (by decide) ?_
  exact hret _ _ _ _ d_R_run_45 (w.sub [0] rfl rfl)
set_option maxHeartbeats 4000000 in
set_option maxRecDepth 100000 in
theorem c_R_told (l : Launch) (D : va_G) (cI cB cJ : ClassId) (h : Nat) (q : Nat → Nat) : KI l D cI cB cJ y_R_told b_R_told 1 (some .int) 0 0 [.ref h] [(h, .inr (7, fR 0 0 0 0 q))] 0 [(h, .inr (7, fR 0 0 0 0 q))] := by
  refine KI.ofW (by decide) (Nat.le_of_ble_eq_true rfl) rfl rfl ?_
  intro p e s m args below meth c A Q ls C0 hl w hret
  have hx := C0.1
  have hb := C0.2.1
  have hl : lv_has ls 1 [(0, .ref h)] := hl
  refine lv_aload_n hx hb d_R_told_0 rfl (lv_at hl 0 rfl) ?_
  refine lv_iconst (v := 0) hx hb d_R_told_1 (by decide) ?_
  refine R_put C0 w 0 rfl rfl inR tyR_ok nmR 0 (by decide) wd_828 rfl rfl rfl (Nat.le_of_ble_eq_true rfl) d_R_told_2 (fun H locs w => ?_)
  have w : Wd D A s [(h, .inr (7, fR 0 0 0 0 q))] H _ := w
  refine lv_aload_n hx hb d_R_told_5 rfl (lv_at hl 0 rfl) ?_
  refine R_get C0 w 0 rfl rfl inR 35 (by decide) wd_863 rfl d_R_told_6 ?_
  exact hret _ _ _ _ d_R_told_9 (w.sub [0] rfl rfl)
set_option maxHeartbeats 4000000 in
set_option maxRecDepth 100000 in
theorem c_R_heard (l : Launch) (D : va_G) (cI cB cJ : ClassId) (h : Nat) (q : Nat → Nat) (k : Int32) : KI l D cI cB cJ y_R_heard b_R_heard 2 (some .int) 1 22 [.ref h, .int k] [(h, .inr (7, fR 0 0 0 0 q))] 0 [(h, .inr (7, fR 1 0 0 0 q))] := by
  refine KI.ofW (by decide) (Nat.le_of_ble_eq_true rfl) rfl rfl ?_
  intro p e s m args below meth c A Q ls C0 hl w hret
  have hx := C0.1
  have hb := C0.2.1
  have hl : lv_has ls 2 [(0, .ref h), (1, .int k)] := hl
  refine lv_aload_n hx hb d_R_heard_0 rfl (lv_at hl 0 rfl) ?_
  refine lv_iload_n hx hb d_R_heard_1 rfl (lv_at hl 1 rfl) ?_
  refine lv_if_lt (tgt := 19) hx hb d_R_heard_2 (by decide) (fun hc2 => ?_) (fun hc2 => ?_)
  · refine lv_iconst (v := 1) hx hb d_R_heard_19 (by decide) ?_
    refine lv_goto (tgt := 24) hx hb d_R_heard_20 (by decide) ?_
    refine lv_iconst (v := 1) hx hb d_R_heard_24 (by decide) ?_
    refine R_vi C0 w (rest := []) (wr := []) (w1 := [(h, .inr (7, fR 1 0 0 0 q))]) 0 rfl rfl [0] [] (c_failsT l D cI cB cJ h q 1) rfl rfl rfl rfl (by decide) wd_963 wd_960 wd_962 ws_34 wd_8 (n9 := 2) (by decide +kernel) rfl ⟨(Nat.le_of_ble_eq_true rfl), (Nat.le_of_ble_eq_true rfl)⟩ hl.1 rfl (Nat.le_of_ble_eq_true rfl) d_R_heard_25 (Nat.le_of_ble_eq_true rfl) (Nat.le_of_ble_eq_true rfl) (fun H locs w => ?_)
    have w : Wd D A s [(h, .inr (7, fR 1 0 0 0 q))] H _ := w
    refine lv_if_eq (tgt := 35) hx hb d_R_heard_28 (by decide) (fun hc => absurd hc (by decide)) (fun hc28 => ?_)
    refine lv_iconst (v := 0) hx hb d_R_heard_31 (by decide) ?_
    refine lv_goto (tgt := 41) hx hb d_R_heard_32 (by decide) ?_
    exact hret _ _ _ _ d_R_heard_41 (w.sub [0] rfl rfl)
  · refine lv_iload_n hx hb d_R_heard_5 rfl (lv_at hl 1 rfl) ?_
    refine lv_aload_n hx hb d_R_heard_6 rfl (lv_at hl 0 rfl) ?_
    refine R_get C0 w 0 rfl rfl inR 35 (by decide) wd_863 rfl d_R_heard_7 ?_
    refine lv_icmp_ge (tgt := 19) hx hb d_R_heard_10 (by decide) (fun hc10 => ?_) (fun hc => absurd (Int32.not_lt.mp hc2) hc)
    refine lv_iconst (v := 1) hx hb d_R_heard_19 (by decide) ?_
    refine lv_goto (tgt := 24) hx hb d_R_heard_20 (by decide) ?_
    refine lv_iconst (v := 1) hx hb d_R_heard_24 (by decide) ?_
    refine R_vi C0 w (rest := []) (wr := []) (w1 := [(h, .inr (7, fR 1 0 0 0 q))]) 0 rfl rfl [0] [] (c_failsT l D cI cB cJ h q 1) rfl rfl rfl rfl (by decide) wd_963 wd_960 wd_962 ws_34 wd_8 (n9 := 2) (by decide +kernel) rfl ⟨(Nat.le_of_ble_eq_true rfl), (Nat.le_of_ble_eq_true rfl)⟩ hl.1 rfl (Nat.le_of_ble_eq_true rfl) d_R_heard_25 (Nat.le_of_ble_eq_true rfl) (Nat.le_of_ble_eq_true rfl) (fun H locs w => ?_)
    have w : Wd D A s [(h, .inr (7, fR 1 0 0 0 q))] H _ := w
    refine lv_if_eq (tgt := 35) hx hb d_R_heard_28 (by decide) (fun hc => absurd hc (by decide)) (fun hc28 => ?_)
    refine lv_iconst (v := 0) hx hb d_R_heard_31 (by decide) ?_
    refine lv_goto (tgt := 41) hx hb d_R_heard_32 (by decide) ?_
    exact hret _ _ _ _ d_R_heard_41 (w.sub [0] rfl rfl)
set_option maxHeartbeats 4000000 in
set_option maxRecDepth 100000 in
theorem c_R_spent0 (l : Launch) (D : va_G) (cI cB cJ : ClassId) (h : Nat) (q : Nat → Nat) : KI l D cI cB cJ y_R_spent b_R_spent 2 (some .int) 0 0 [.ref h, .int 0] [(h, .inr (7, fR 0 0 0 0 q))] 0 [(h, .inr (7, fR 0 0 0 0 q))] := by
  refine KI.ofW (by decide) (Nat.le_of_ble_eq_true rfl) rfl rfl ?_
  intro p e s m args below meth c A Q ls C0 hl w hret
  have hx := C0.1
  have hb := C0.2.1
  have hl : lv_has ls 2 [(0, .ref h), (1, .int 0)] := hl
  refine lv_aload_n hx hb d_R_spent_0 rfl (lv_at hl 0 rfl) ?_
  refine lv_iconst (v := 0) hx hb d_R_spent_1 (by decide) ?_
  refine R_put C0 w 0 rfl rfl inR tyR_ok nmR 0 (by decide) wd_828 rfl rfl rfl (Nat.le_of_ble_eq_true rfl) d_R_spent_2 (fun H locs w => ?_)
  have w : Wd D A s [(h, .inr (7, fR 0 0 0 0 q))] H _ := w
  refine lv_iload_n hx hb d_R_spent_5 rfl (lv_at hl 1 rfl) ?_
  refine lv_if_ne (tgt := 16) hx hb d_R_spent_6 (by decide) (fun hc => absurd (by decide) hc) (fun hc6 => ?_)
  refine lv_aload_n hx hb d_R_spent_9 rfl (lv_at hl 0 rfl) ?_
  refine R_get C0 w 0 rfl rfl inR 37 (by decide) wd_865 rfl d_R_spent_10 ?_
  refine lv_goto (tgt := 41) hx hb d_R_spent_13 (by decide) ?_
  exact hret _ _ _ _ d_R_spent_41 (w.sub [0] rfl rfl)
set_option maxHeartbeats 4000000 in
set_option maxRecDepth 100000 in
theorem c_R_spent1 (l : Launch) (D : va_G) (cI cB cJ : ClassId) (h : Nat) (q : Nat → Nat) : KI l D cI cB cJ y_R_spent b_R_spent 2 (some .int) 0 0 [.ref h, .int 1] [(h, .inr (7, fR 0 0 0 0 q))] 0 [(h, .inr (7, fR 0 0 0 0 q))] := by
  refine KI.ofW (by decide) (Nat.le_of_ble_eq_true rfl) rfl rfl ?_
  intro p e s m args below meth c A Q ls C0 hl w hret
  have hx := C0.1
  have hb := C0.2.1
  have hl : lv_has ls 2 [(0, .ref h), (1, .int 1)] := hl
  refine lv_aload_n hx hb d_R_spent_0 rfl (lv_at hl 0 rfl) ?_
  refine lv_iconst (v := 0) hx hb d_R_spent_1 (by decide) ?_
  refine R_put C0 w 0 rfl rfl inR tyR_ok nmR 0 (by decide) wd_828 rfl rfl rfl (Nat.le_of_ble_eq_true rfl) d_R_spent_2 (fun H locs w => ?_)
  have w : Wd D A s [(h, .inr (7, fR 0 0 0 0 q))] H _ := w
  refine lv_iload_n hx hb d_R_spent_5 rfl (lv_at hl 1 rfl) ?_
  refine lv_if_ne (tgt := 16) hx hb d_R_spent_6 (by decide) (fun hc6 => ?_) (fun hc => absurd hc (by decide))
  refine lv_iload_n hx hb d_R_spent_16 rfl (lv_at hl 1 rfl) ?_
  refine lv_iconst (v := 1) hx hb d_R_spent_17 (by decide) ?_
  refine lv_icmp_ne (tgt := 28) hx hb d_R_spent_18 (by decide) (fun hc => absurd (by decide) hc) (fun hc18 => ?_)
  refine lv_aload_n hx hb d_R_spent_21 rfl (lv_at hl 0 rfl) ?_
  refine R_get C0 w 0 rfl rfl inR 38 (by decide) wd_866 rfl d_R_spent_22 ?_
  refine lv_goto (tgt := 41) hx hb d_R_spent_25 (by decide) ?_
  exact hret _ _ _ _ d_R_spent_41 (w.sub [0] rfl rfl)
set_option maxHeartbeats 4000000 in
set_option maxRecDepth 100000 in
theorem c_R_spent2 (l : Launch) (D : va_G) (cI cB cJ : ClassId) (h : Nat) (q : Nat → Nat) : KI l D cI cB cJ y_R_spent b_R_spent 2 (some .int) 0 0 [.ref h, .int 2] [(h, .inr (7, fR 0 0 0 0 q))] 0 [(h, .inr (7, fR 0 0 0 0 q))] := by
  refine KI.ofW (by decide) (Nat.le_of_ble_eq_true rfl) rfl rfl ?_
  intro p e s m args below meth c A Q ls C0 hl w hret
  have hx := C0.1
  have hb := C0.2.1
  have hl : lv_has ls 2 [(0, .ref h), (1, .int 2)] := hl
  refine lv_aload_n hx hb d_R_spent_0 rfl (lv_at hl 0 rfl) ?_
  refine lv_iconst (v := 0) hx hb d_R_spent_1 (by decide) ?_
  refine R_put C0 w 0 rfl rfl inR tyR_ok nmR 0 (by decide) wd_828 rfl rfl rfl (Nat.le_of_ble_eq_true rfl) d_R_spent_2 (fun H locs w => ?_)
  have w : Wd D A s [(h, .inr (7, fR 0 0 0 0 q))] H _ := w
  refine lv_iload_n hx hb d_R_spent_5 rfl (lv_at hl 1 rfl) ?_
  refine lv_if_ne (tgt := 16) hx hb d_R_spent_6 (by decide) (fun hc6 => ?_) (fun hc => absurd hc (by decide))
  refine lv_iload_n hx hb d_R_spent_16 rfl (lv_at hl 1 rfl) ?_
  refine lv_iconst (v := 1) hx hb d_R_spent_17 (by decide) ?_
  refine lv_icmp_ne (tgt := 28) hx hb d_R_spent_18 (by decide) (fun hc18 => ?_) (fun hc => absurd hc (by decide))
  refine lv_iload_n hx hb d_R_spent_28 rfl (lv_at hl 1 rfl) ?_
  refine lv_iconst (v := 2) hx hb d_R_spent_29 (by decide) ?_
  refine lv_icmp_ne (tgt := 40) hx hb d_R_spent_30 (by decide) (fun hc => absurd (by decide) hc) (fun hc30 => ?_)
  refine lv_aload_n hx hb d_R_spent_33 rfl (lv_at hl 0 rfl) ?_
  refine R_get C0 w 0 rfl rfl inR 34 (by decide) wd_862 rfl d_R_spent_34 ?_
  refine lv_goto (tgt := 41) hx hb d_R_spent_37 (by decide) ?_
  exact hret _ _ _ _ d_R_spent_41 (w.sub [0] rfl rfl)
set_option maxHeartbeats 4000000 in
set_option maxRecDepth 100000 in
theorem c_R_spentD (l : Launch) (D : va_G) (cI cB cJ : ClassId) (h : Nat) (q : Nat → Nat) (k : Int32) (h0 : ¬ k = 0) (h1 : ¬ k = 1) (h2 : ¬ k = 2) : KI l D cI cB cJ y_R_spent b_R_spent 2 (some .int) 0 0 [.ref h, .int k] [(h, .inr (7, fR 0 0 0 0 q))] (-1) [(h, .inr (7, fR 0 0 0 0 q))] := by
  refine KI.ofW (by decide) (Nat.le_of_ble_eq_true rfl) rfl rfl ?_
  intro p e s m args below meth c A Q ls C0 hl w hret
  have hx := C0.1
  have hb := C0.2.1
  have hl : lv_has ls 2 [(0, .ref h), (1, .int k)] := hl
  refine lv_aload_n hx hb d_R_spent_0 rfl (lv_at hl 0 rfl) ?_
  refine lv_iconst (v := 0) hx hb d_R_spent_1 (by decide) ?_
  refine R_put C0 w 0 rfl rfl inR tyR_ok nmR 0 (by decide) wd_828 rfl rfl rfl (Nat.le_of_ble_eq_true rfl) d_R_spent_2 (fun H locs w => ?_)
  have w : Wd D A s [(h, .inr (7, fR 0 0 0 0 q))] H _ := w
  refine lv_iload_n hx hb d_R_spent_5 rfl (lv_at hl 1 rfl) ?_
  refine lv_if_ne (tgt := 16) hx hb d_R_spent_6 (by decide) (fun hc6 => ?_) (fun hc => absurd hc h0)
  refine lv_iload_n hx hb d_R_spent_16 rfl (lv_at hl 1 rfl) ?_
  refine lv_iconst (v := 1) hx hb d_R_spent_17 (by decide) ?_
  refine lv_icmp_ne (tgt := 28) hx hb d_R_spent_18 (by decide) (fun hc18 => ?_) (fun hc => absurd hc h1)
  refine lv_iload_n hx hb d_R_spent_28 rfl (lv_at hl 1 rfl) ?_
  refine lv_iconst (v := 2) hx hb d_R_spent_29 (by decide) ?_
  refine lv_icmp_ne (tgt := 40) hx hb d_R_spent_30 (by decide) (fun hc30 => ?_) (fun hc => absurd hc h2)
  refine lv_iconst (v := (-1)) hx hb d_R_spent_40 (by decide) ?_
  exact hret _ _ _ _ d_R_spent_41 (w.sub [0] rfl rfl)
end
section
set_option maxHeartbeats 4000000 in
set_option maxRecDepth 100000 in
theorem c_L_block (l : Launch) (D : va_G) (cI cB cJ : ClassId) (h : Nat) (qn : Nat → Nat) (qp : Nat → Nat) (o : Nat) (htl : l.stackTraces = false) : KH l D cI cB cJ y_L_block b_L_block 3 [(0, 8, 11, 13)] 3 66 [.ref h, .ref o] [(h, .inr (0, fN 0 qn)), ((qn 0), .inr (1, fP 0 qp)), ((qp 1), .inl (cI, 10, .inl (fun _ => 0))), ((qp 6), .inl (cI, 10, .inl (fun _ => 0))), ((qp 7), .inl (cI, 10, .inl (fun _ => 0))), ((qp 8), .inl (cI, 10, .inl (fun _ => 0))), ((qp 9), .inl (cI, 10, .inl (fun _ => 0))), (o, .inl (cJ, 1, .inr (.inl (fun _ => 0))))] 0 [(o, .inl (cJ, 1, .inr (.inl (vp_updL (fun _ => 0) (0 : Int32).toNatClampNeg ((0 : Int32).toInt64)))))] := by
  refine KH.ofW (by decide) (Nat.le_of_ble_eq_true rfl) ?_
  intro p e s m args below meth c A Q ls C0 htab hl w hret
  have hx := C0.1
  have hb := C0.2.1
  have hl : lv_has ls 3 [(0, .ref h), (1, .ref o)] := hl
  refine lv_aload_n hx hb d_L_block_0 rfl (lv_at hl 1 rfl) ?_
  refine lv_iconst (v := 0) hx hb d_L_block_1 (by decide) ?_
  refine lv_aload_n hx hb d_L_block_2 rfl (lv_at hl 0 rfl) ?_
  refine R_vi C0 w (rest := [.int 0, .ref o]) (wr := [(o, .inl (cJ, 1, .inr (.inl (fun _ => 0))))]) (w1 := []) 0 rfl rfl [0, 1, 2, 3, 4, 5, 6] [7] (c_N_block l D cI cB cJ h qn qp) rfl rfl rfl rfl (by decide) wd_392 wd_389 wd_390 wd_391 wd_1 (n9 := 0) (by decide +kernel) rfl ⟨(Nat.le_of_ble_eq_true rfl), (Nat.le_of_ble_eq_true rfl)⟩ hl.1 rfl (Nat.le_of_ble_eq_true rfl) d_L_block_3 (Nat.le_of_ble_eq_true rfl) (Nat.le_of_ble_eq_true rfl) (fun H locs w => ?_)
  have w : Wd D A s [(o, .inl (cJ, 1, .inr (.inl (fun _ => 0))))] H _ := w
  refine lv_i2l (v := (0 : Int32).toInt64) hx hb d_L_block_6 rfl ?_
  refine R_last C0 w 0 rfl (vin (by decide)) d_L_block_7 (fun H locs w => ?_)
  have w : Wd D A s [(o, .inl (cJ, 1, .inr (.inl (vp_updL (fun _ => 0) (0 : Int32).toNatClampNeg ((0 : Int32).toInt64)))))] H _ := w
  refine lv_goto (tgt := 14) hx hb d_L_block_8 (by decide) ?_
  refine lv_iconst (v := 0) hx hb d_L_block_14 (by decide) ?_
  refine W.widen (k := 1) (n := 6) (by decide) (by decide) ?_
  exact hret _ _ _ _ d_L_block_15 (w.sub [0] rfl rfl)
set_option maxHeartbeats 4000000 in
set_option maxRecDepth 100000 in
theorem c_L_put (l : Launch) (D : va_G) (cI cB cJ : ClassId) (h : Nat) (qn : Nat → Nat) (qp : Nat → Nat) (b : Int32) (k : Int32) (d : Int32) (x : Int32) (y : Int32) (o : Nat) (htl : l.stackTraces = false) : KH l D cI cB cJ y_L_put b_L_put 8 [(0, 16, 19, 19), (0, 16, 23, 13)] 7 107 [.ref h, .int b, .int k, .int d, .int x, .int y, .ref o] [(h, .inr (0, fN 0 qn)), ((qn 0), .inr (1, fP 0 qp))] 1 [] := by
  refine KH.ofW (by decide) (Nat.le_of_ble_eq_true rfl) ?_
  intro p e s m args below meth c A Q ls C0 htab hl w hret
  have hx := C0.1
  have hb := C0.2.1
  have hl : lv_has ls 8 [(0, .ref h), (1, .int b), (2, .int k), (3, .int d), (4, .int x), (5, .int y), (6, .ref o)] := hl
  refine lv_aload hx hb d_L_put_0 (lv_at hl 6 rfl) ?_
  refine lv_iconst (v := 0) hx hb d_L_put_2 (by decide) ?_
  refine lv_aload_n hx hb d_L_put_3 rfl (lv_at hl 0 rfl) ?_
  refine lv_iload_n hx hb d_L_put_4 rfl (lv_at hl 1 rfl) ?_
  refine lv_iload_n hx hb d_L_put_5 rfl (lv_at hl 2 rfl) ?_
  refine lv_iload_n hx hb d_L_put_6 rfl (lv_at hl 3 rfl) ?_
  refine lv_iload hx hb d_L_put_7 (lv_at hl 4 rfl) ?_
  refine lv_iload hx hb d_L_put_9 (lv_at hl 5 rfl) ?_
  obtain ⟨z0, hz0, z1, hz1, hsp⟩ := tab2 htab
  refine R_catch C0 w (rest := [.int 0, .ref o]) (pre := []) (x := z0) (suf := [z1]) 0 rfl rfl [0, 1] (c_N_put l D cI cB cJ h qn qp b k d x y htl) rfl rfl wd_476 wd_473 wd_474 wd_475 wd_1 (n9 := 5) (by decide +kernel) rfl ⟨(Nat.le_of_ble_eq_true rfl), (Nat.le_of_ble_eq_true rfl)⟩ hl.1 rfl (Nat.le_of_ble_eq_true rfl) d_L_put_11 (Nat.le_of_ble_eq_true rfl) (Nat.le_of_ble_eq_true rfl) hsp (fun z hz => by cases hz) (by rw [cov_eq hz0]; decide) (by rw [ct_eq hz0]; decide) (by rw [ct_eq hz0]; exact wd_472) (by decide) (fun q9 H w => ?_)
  rw [hpc_eq hz0]
  refine W.cs (cells' := 1) (slots' := 6) rfl rfl ?_
  have w : Wd D A s [(h, .inr (0, fN 0 qn)), ((qn 0), .inr (1, fP 0 qp))] H _ := w
  refine lv_astore hx hb d_L_put_19 hl (by decide) rfl (fun ls hl => ?_)
  have hl : lv_has ls 8 [(7, .ref q9), (0, .ref h), (1, .int b), (2, .int k), (3, .int d), (4, .int x), (5, .int y), (6, .ref o)] := hl
  refine lv_iconst (v := 1) hx hb d_L_put_21 (by decide) ?_
  refine W.widen (k := 1) (n := 6) (by decide) (by decide) ?_
  exact hret _ _ _ _ d_L_put_22 (w.sub [] rfl rfl)
set_option maxHeartbeats 4000000 in
set_option maxRecDepth 100000 in
theorem c_L_go (l : Launch) (D : va_G) (cI cB cJ : ClassId) (h : Nat) (qn : Nat → Nat) (qp : Nat → Nat) (b : Int32) (t : Int32) (htl : l.stackTraces = false) : KH l D cI cB cJ y_L_go b_L_go 4 [(0, 6, 9, 19)] 7 104 [.ref h, .int b, .int t] [(h, .inr (0, fN 0 qn)), ((qn 0), .inr (1, fP 0 qp))] 1 [] := by
  refine KH.ofW (by decide) (Nat.le_of_ble_eq_true rfl) ?_
  intro p e s m args below meth c A Q ls C0 htab hl w hret
  have hx := C0.1
  have hb := C0.2.1
  have hl : lv_has ls 4 [(0, .ref h), (1, .int b), (2, .int t)] := hl
  refine lv_aload_n hx hb d_L_go_0 rfl (lv_at hl 0 rfl) ?_
  refine lv_iload_n hx hb d_L_go_1 rfl (lv_at hl 1 rfl) ?_
  refine lv_iload_n hx hb d_L_go_2 rfl (lv_at hl 2 rfl) ?_
  obtain ⟨z0, hz0, hsp⟩ := tab1 htab
  refine R_catch C0 w (rest := []) (pre := []) (x := z0) (suf := []) 0 rfl rfl [0, 1] (c_N_go l D cI cB cJ h qn qp b t htl) rfl rfl wd_523 wd_520 wd_521 wd_522 wd_1 (n9 := 2) (by decide +kernel) rfl ⟨(Nat.le_of_ble_eq_true rfl), (Nat.le_of_ble_eq_true rfl)⟩ hl.1 rfl (Nat.le_of_ble_eq_true rfl) d_L_go_3 (Nat.le_of_ble_eq_true rfl) (Nat.le_of_ble_eq_true rfl) hsp (fun z hz => by cases hz) (by rw [cov_eq hz0]; decide) (by rw [ct_eq hz0]; decide) (by rw [ct_eq hz0]; exact wd_472) (by decide) (fun q9 H w => ?_)
  rw [hpc_eq hz0]
  refine W.cs (cells' := 1) (slots' := 6) rfl rfl ?_
  have w : Wd D A s [(h, .inr (0, fN 0 qn)), ((qn 0), .inr (1, fP 0 qp))] H _ := w
  refine lv_astore_n hx hb d_L_go_9 rfl hl (by decide) rfl (fun ls hl => ?_)
  have hl : lv_has ls 4 [(3, .ref q9), (0, .ref h), (1, .int b), (2, .int t)] := hl
  refine lv_iconst (v := 1) hx hb d_L_go_10 (by decide) ?_
  refine W.widen (k := 1) (n := 6) (by decide) (by decide) ?_
  exact hret _ _ _ _ d_L_go_11 (w.sub [] rfl rfl)
set_option maxHeartbeats 4000000 in
set_option maxRecDepth 100000 in
theorem c_L_fork (l : Launch) (D : va_G) (cI cB cJ : ClassId) (h : Nat) (qn : Nat → Nat) (qp : Nat → Nat) (b : Int32) (x : Int32) (t : Int32) (u : Int32) (htl : l.stackTraces = false) : KH l D cI cB cJ y_L_fork b_L_fork 6 [(0, 9, 12, 19)] 7 106 [.ref h, .int b, .int x, .int t, .int u] [(h, .inr (0, fN 0 qn)), ((qn 0), .inr (1, fP 0 qp))] 1 [] := by
  refine KH.ofW (by decide) (Nat.le_of_ble_eq_true rfl) ?_
  intro p e s m args below meth c A Q ls C0 htab hl w hret
  have hx := C0.1
  have hb := C0.2.1
  have hl : lv_has ls 6 [(0, .ref h), (1, .int b), (2, .int x), (3, .int t), (4, .int u)] := hl
  refine lv_aload_n hx hb d_L_fork_0 rfl (lv_at hl 0 rfl) ?_
  refine lv_iload_n hx hb d_L_fork_1 rfl (lv_at hl 1 rfl) ?_
  refine lv_iload_n hx hb d_L_fork_2 rfl (lv_at hl 2 rfl) ?_
  refine lv_iload_n hx hb d_L_fork_3 rfl (lv_at hl 3 rfl) ?_
  refine lv_iload hx hb d_L_fork_4 (lv_at hl 4 rfl) ?_
  obtain ⟨z0, hz0, hsp⟩ := tab1 htab
  refine R_catch C0 w (rest := []) (pre := []) (x := z0) (suf := []) 0 rfl rfl [0, 1] (c_N_fork l D cI cB cJ h qn qp b x t u htl) rfl rfl wd_537 wd_534 wd_535 wd_536 wd_1 (n9 := 4) (by decide +kernel) rfl ⟨(Nat.le_of_ble_eq_true rfl), (Nat.le_of_ble_eq_true rfl)⟩ hl.1 rfl (Nat.le_of_ble_eq_true rfl) d_L_fork_6 (Nat.le_of_ble_eq_true rfl) (Nat.le_of_ble_eq_true rfl) hsp (fun z hz => by cases hz) (by rw [cov_eq hz0]; decide) (by rw [ct_eq hz0]; decide) (by rw [ct_eq hz0]; exact wd_472) (by decide) (fun q9 H w => ?_)
  rw [hpc_eq hz0]
  refine W.cs (cells' := 1) (slots' := 6) rfl rfl ?_
  have w : Wd D A s [(h, .inr (0, fN 0 qn)), ((qn 0), .inr (1, fP 0 qp))] H _ := w
  refine lv_astore hx hb d_L_fork_12 hl (by decide) rfl (fun ls hl => ?_)
  have hl : lv_has ls 6 [(5, .ref q9), (0, .ref h), (1, .int b), (2, .int x), (3, .int t), (4, .int u)] := hl
  refine lv_iconst (v := 1) hx hb d_L_fork_14 (by decide) ?_
  refine W.widen (k := 1) (n := 6) (by decide) (by decide) ?_
  exact hret _ _ _ _ d_L_fork_15 (w.sub [] rfl rfl)
set_option maxHeartbeats 4000000 in
set_option maxRecDepth 100000 in
theorem c_L_stop (l : Launch) (D : va_G) (cI cB cJ : ClassId) (h : Nat) (qn : Nat → Nat) (qp : Nat → Nat) (b : Int32) (htl : l.stackTraces = false) : KH l D cI cB cJ y_L_stop b_L_stop 3 [(0, 5, 8, 19)] 7 103 [.ref h, .int b] [(h, .inr (0, fN 0 qn)), ((qn 0), .inr (1, fP 0 qp))] 1 [] := by
  refine KH.ofW (by decide) (Nat.le_of_ble_eq_true rfl) ?_
  intro p e s m args below meth c A Q ls C0 htab hl w hret
  have hx := C0.1
  have hb := C0.2.1
  have hl : lv_has ls 3 [(0, .ref h), (1, .int b)] := hl
  refine lv_aload_n hx hb d_L_stop_0 rfl (lv_at hl 0 rfl) ?_
  refine lv_iload_n hx hb d_L_stop_1 rfl (lv_at hl 1 rfl) ?_
  obtain ⟨z0, hz0, hsp⟩ := tab1 htab
  refine R_catch C0 w (rest := []) (pre := []) (x := z0) (suf := []) 0 rfl rfl [0, 1] (c_N_stop l D cI cB cJ h qn qp b htl) rfl rfl wd_545 wd_542 wd_543 wd_544 wd_1 (n9 := 1) (by decide +kernel) rfl ⟨(Nat.le_of_ble_eq_true rfl), (Nat.le_of_ble_eq_true rfl)⟩ hl.1 rfl (Nat.le_of_ble_eq_true rfl) d_L_stop_2 (Nat.le_of_ble_eq_true rfl) (Nat.le_of_ble_eq_true rfl) hsp (fun z hz => by cases hz) (by rw [cov_eq hz0]; decide) (by rw [ct_eq hz0]; decide) (by rw [ct_eq hz0]; exact wd_472) (by decide) (fun q9 H w => ?_)
  rw [hpc_eq hz0]
  refine W.cs (cells' := 1) (slots' := 6) rfl rfl ?_
  have w : Wd D A s [(h, .inr (0, fN 0 qn)), ((qn 0), .inr (1, fP 0 qp))] H _ := w
  refine lv_astore_n hx hb d_L_stop_8 rfl hl (by decide) rfl (fun ls hl => ?_)
  have hl : lv_has ls 3 [(2, .ref q9), (0, .ref h), (1, .int b)] := hl
  refine lv_iconst (v := 1) hx hb d_L_stop_9 (by decide) ?_
  refine W.widen (k := 1) (n := 6) (by decide) (by decide) ?_
  exact hret _ _ _ _ d_L_stop_10 (w.sub [] rfl rfl)
set_option maxHeartbeats 4000000 in
set_option maxRecDepth 100000 in
theorem c_L_build (l : Launch) (D : va_G) (cI cB cJ : ClassId) (h : Nat) (qn : Nat → Nat) (qp : Nat → Nat) (o : Nat) (htl : l.stackTraces = false) : KH l D cI cB cJ y_L_build b_L_build 3 [(0, 8, 11, 13)] 7 102 [.ref h, .ref o] [(h, .inr (0, fN 0 qn)), ((qn 0), .inr (1, fP 0 qp))] 1 [] := by
  refine KH.ofW (by decide) (Nat.le_of_ble_eq_true rfl) ?_
  intro p e s m args below meth c A Q ls C0 htab hl w hret
  have hx := C0.1
  have hb := C0.2.1
  have hl : lv_has ls 3 [(0, .ref h), (1, .ref o)] := hl
  refine lv_aload_n hx hb d_L_build_0 rfl (lv_at hl 1 rfl) ?_
  refine lv_iconst (v := 0) hx hb d_L_build_1 (by decide) ?_
  refine lv_aload_n hx hb d_L_build_2 rfl (lv_at hl 0 rfl) ?_
  obtain ⟨z0, hz0, hsp⟩ := tab1 htab
  refine R_catch C0 w (rest := [.int 0, .ref o]) (pre := []) (x := z0) (suf := []) 0 rfl rfl [0, 1] (c_N_build l D cI cB cJ h qn qp htl) rfl rfl wd_553 wd_550 wd_551 wd_552 wd_1 (n9 := 0) (by decide +kernel) rfl ⟨(Nat.le_of_ble_eq_true rfl), (Nat.le_of_ble_eq_true rfl)⟩ hl.1 rfl (Nat.le_of_ble_eq_true rfl) d_L_build_3 (Nat.le_of_ble_eq_true rfl) (Nat.le_of_ble_eq_true rfl) hsp (fun z hz => by cases hz) (by rw [cov_eq hz0]; decide) (by rw [ct_eq hz0]; decide) (by rw [ct_eq hz0]; exact wd_388) (by decide) (fun q9 H w => ?_)
  rw [hpc_eq hz0]
  refine W.cs (cells' := 1) (slots' := 6) rfl rfl ?_
  have w : Wd D A s [(h, .inr (0, fN 0 qn)), ((qn 0), .inr (1, fP 0 qp))] H _ := w
  refine lv_astore_n hx hb d_L_build_11 rfl hl (by decide) rfl (fun ls hl => ?_)
  have hl : lv_has ls 3 [(2, .ref q9), (0, .ref h), (1, .ref o)] := hl
  refine lv_iconst (v := 1) hx hb d_L_build_12 (by decide) ?_
  refine W.widen (k := 1) (n := 6) (by decide) (by decide) ?_
  exact hret _ _ _ _ d_L_build_13 (w.sub [] rfl rfl)
set_option maxHeartbeats 4000000 in
set_option maxRecDepth 100000 in
theorem c_L_look (l : Launch) (D : va_G) (cI cB cJ : ClassId) (h : Nat) (qn : Nat → Nat) (qp : Nat → Nat) (b : Int32) (k : Int32) (o : Nat) (htl : l.stackTraces = false) : KH l D cI cB cJ y_L_look b_L_look 5 [(0, 10, 13, 40), (0, 10, 17, 13)] 7 104 [.ref h, .int b, .int k, .ref o] [(h, .inr (0, fN 0 qn)), ((qn 0), .inr (1, fP 0 qp))] 1 [] := by
  refine KH.ofW (by decide) (Nat.le_of_ble_eq_true rfl) ?_
  intro p e s m args below meth c A Q ls C0 htab hl w hret
  have hx := C0.1
  have hb := C0.2.1
  have hl : lv_has ls 5 [(0, .ref h), (1, .int b), (2, .int k), (3, .ref o)] := hl
  refine lv_aload_n hx hb d_L_look_0 rfl (lv_at hl 3 rfl) ?_
  refine lv_iconst (v := 0) hx hb d_L_look_1 (by decide) ?_
  refine lv_aload_n hx hb d_L_look_2 rfl (lv_at hl 0 rfl) ?_
  refine lv_iload_n hx hb d_L_look_3 rfl (lv_at hl 1 rfl) ?_
  refine lv_iload_n hx hb d_L_look_4 rfl (lv_at hl 2 rfl) ?_
  obtain ⟨z0, hz0, z1, hz1, hsp⟩ := tab2 htab
  refine R_catch C0 w (rest := [.int 0, .ref o]) (pre := []) (x := z0) (suf := [z1]) 0 rfl rfl [0, 1] (c_N_look l D cI cB cJ h qn qp b k htl) rfl rfl wd_695 wd_692 wd_693 wd_694 wd_1 (n9 := 2) (by decide +kernel) rfl ⟨(Nat.le_of_ble_eq_true rfl), (Nat.le_of_ble_eq_true rfl)⟩ hl.1 rfl (Nat.le_of_ble_eq_true rfl) d_L_look_5 (Nat.le_of_ble_eq_true rfl) (Nat.le_of_ble_eq_true rfl) hsp (fun z hz => by cases hz) (by rw [cov_eq hz0]; decide) (by rw [ct_eq hz0]; decide) (by rw [ct_eq hz0]; exact wd_691) (by decide) (fun q9 H w => ?_)
  rw [hpc_eq hz0]
  refine W.cs (cells' := 1) (slots' := 6) rfl rfl ?_
  have w : Wd D A s [(h, .inr (0, fN 0 qn)), ((qn 0), .inr (1, fP 0 qp))] H _ := w
  refine lv_astore hx hb d_L_look_13 hl (by decide) rfl (fun ls hl => ?_)
  have hl : lv_has ls 5 [(4, .ref q9), (0, .ref h), (1, .int b), (2, .int k), (3, .ref o)] := hl
  refine lv_iconst (v := 1) hx hb d_L_look_15 (by decide) ?_
  refine W.widen (k := 1) (n := 6) (by decide) (by decide) ?_
  exact hret _ _ _ _ d_L_look_16 (w.sub [] rfl rfl)
set_option maxHeartbeats 4000000 in
set_option maxRecDepth 100000 in
theorem c_L_phi (l : Launch) (D : va_G) (cI cB cJ : ClassId) (h : Nat) (qn : Nat → Nat) (b : Int32) (k : Int32) (x : Int32) (o : Nat) (htl : l.stackTraces = false) : KH l D cI cB cJ y_L_phi b_L_phi 6 [(0, 12, 15, 40), (0, 12, 19, 13)] 7 106 [.ref h, .int b, .int k, .int x, .ref o] [(h, .inr (0, fN 0 qn))] 2 [] := by
  refine KH.ofW (by decide) (Nat.le_of_ble_eq_true rfl) ?_
  intro p e s m args below meth c A Q ls C0 htab hl w hret
  have hx := C0.1
  have hb := C0.2.1
  have hl : lv_has ls 6 [(0, .ref h), (1, .int b), (2, .int k), (3, .int x), (4, .ref o)] := hl
  refine lv_aload hx hb d_L_phi_0 (lv_at hl 4 rfl) ?_
  refine lv_iconst (v := 0) hx hb d_L_phi_2 (by decide) ?_
  refine lv_aload_n hx hb d_L_phi_3 rfl (lv_at hl 0 rfl) ?_
  refine lv_iload_n hx hb d_L_phi_4 rfl (lv_at hl 1 rfl) ?_
  refine lv_iload_n hx hb d_L_phi_5 rfl (lv_at hl 2 rfl) ?_
  refine lv_iload_n hx hb d_L_phi_6 rfl (lv_at hl 3 rfl) ?_
  obtain ⟨z0, hz0, z1, hz1, hsp⟩ := tab2 htab
  refine R_catch C0 w (rest := [.int 0, .ref o]) (pre := [z0]) (x := z1) (suf := []) 0 rfl rfl [0] (c_N_phi l D cI cB cJ h qn b k x htl) rfl rfl wd_726 wd_723 wd_724 wd_725 wd_1 (n9 := 3) (by decide +kernel) rfl ⟨(Nat.le_of_ble_eq_true rfl), (Nat.le_of_ble_eq_true rfl)⟩ hl.1 rfl (Nat.le_of_ble_eq_true rfl) d_L_phi_7 (Nat.le_of_ble_eq_true rfl) (Nat.le_of_ble_eq_true rfl) hsp (fun z hz => by rw [List.mem_singleton.mp hz, ct_eq hz0]; exact ⟨by decide, "java/util/NoSuchElementException", wd_691, by decide⟩) (by rw [cov_eq hz1]; decide) (by rw [ct_eq hz1]; decide) (by rw [ct_eq hz1]; exact wd_388) (by decide) (fun q9 H w => ?_)
  rw [hpc_eq hz1]
  refine W.cs (cells' := 1) (slots' := 6) rfl rfl ?_
  have w : Wd D A s [(h, .inr (0, fN 0 qn))] H _ := w
  refine lv_astore hx hb d_L_phi_19 hl (by decide) rfl (fun ls hl => ?_)
  have hl : lv_has ls 6 [(5, .ref q9), (0, .ref h), (1, .int b), (2, .int k), (3, .int x), (4, .ref o)] := hl
  refine lv_iconst (v := 2) hx hb d_L_phi_21 (by decide) ?_
  refine W.widen (k := 1) (n := 6) (by decide) (by decide) ?_
  exact hret _ _ _ _ d_L_phi_22 (w.sub [] rfl rfl)
set_option maxHeartbeats 4000000 in
set_option maxRecDepth 100000 in
theorem c_L_uses (l : Launch) (D : va_G) (cI cB cJ : ClassId) (h : Nat) (qn : Nat → Nat) (b : Int32) (k : Int32) (x : Int32) (o : Nat) (htl : l.stackTraces = false) : KH l D cI cB cJ y_L_uses b_L_uses 6 [(0, 12, 15, 40), (0, 12, 19, 13)] 7 105 [.ref h, .int b, .int k, .int x, .ref o] [(h, .inr (0, fN 0 qn))] 2 [] := by
  refine KH.ofW (by decide) (Nat.le_of_ble_eq_true rfl) ?_
  intro p e s m args below meth c A Q ls C0 htab hl w hret
  have hx := C0.1
  have hb := C0.2.1
  have hl : lv_has ls 6 [(0, .ref h), (1, .int b), (2, .int k), (3, .int x), (4, .ref o)] := hl
  refine lv_aload hx hb d_L_uses_0 (lv_at hl 4 rfl) ?_
  refine lv_iconst (v := 0) hx hb d_L_uses_2 (by decide) ?_
  refine lv_aload_n hx hb d_L_uses_3 rfl (lv_at hl 0 rfl) ?_
  refine lv_iload_n hx hb d_L_uses_4 rfl (lv_at hl 1 rfl) ?_
  refine lv_iload_n hx hb d_L_uses_5 rfl (lv_at hl 2 rfl) ?_
  refine lv_iload_n hx hb d_L_uses_6 rfl (lv_at hl 3 rfl) ?_
  obtain ⟨z0, hz0, z1, hz1, hsp⟩ := tab2 htab
  refine R_catch C0 w (rest := [.int 0, .ref o]) (pre := [z0]) (x := z1) (suf := []) 0 rfl rfl [0] (c_N_uses l D cI cB cJ h qn b k x htl) rfl rfl wd_742 wd_739 wd_740 wd_741 wd_1 (n9 := 3) (by decide +kernel) rfl ⟨(Nat.le_of_ble_eq_true rfl), (Nat.le_of_ble_eq_true rfl)⟩ hl.1 rfl (Nat.le_of_ble_eq_true rfl) d_L_uses_7 (Nat.le_of_ble_eq_true rfl) (Nat.le_of_ble_eq_true rfl) hsp (fun z hz => by rw [List.mem_singleton.mp hz, ct_eq hz0]; exact ⟨by decide, "java/util/NoSuchElementException", wd_691, by decide⟩) (by rw [cov_eq hz1]; decide) (by rw [ct_eq hz1]; decide) (by rw [ct_eq hz1]; exact wd_388) (by decide) (fun q9 H w => ?_)
  rw [hpc_eq hz1]
  refine W.cs (cells' := 1) (slots' := 6) rfl rfl ?_
  have w : Wd D A s [(h, .inr (0, fN 0 qn))] H _ := w
  refine lv_astore hx hb d_L_uses_19 hl (by decide) rfl (fun ls hl => ?_)
  have hl : lv_has ls 6 [(5, .ref q9), (0, .ref h), (1, .int b), (2, .int k), (3, .int x), (4, .ref o)] := hl
  refine lv_iconst (v := 2) hx hb d_L_uses_21 (by decide) ?_
  refine W.widen (k := 1) (n := 6) (by decide) (by decide) ?_
  exact hret _ _ _ _ d_L_uses_22 (w.sub [] rfl rfl)
set_option maxHeartbeats 4000000 in
set_option maxRecDepth 100000 in
theorem c_L_name (l : Launch) (D : va_G) (cI cB cJ : ClassId) (h : Nat) (qn : Nat → Nat) (b : Int32) (k : Int32) (o : Nat) (htl : l.stackTraces = false) : KH l D cI cB cJ y_L_name b_L_name 5 [(0, 10, 13, 40), (0, 10, 17, 13)] 7 104 [.ref h, .int b, .int k, .ref o] [(h, .inr (0, fN 0 qn))] 2 [] := by
  refine KH.ofW (by decide) (Nat.le_of_ble_eq_true rfl) ?_
  intro p e s m args below meth c A Q ls C0 htab hl w hret
  have hx := C0.1
  have hb := C0.2.1
  have hl : lv_has ls 5 [(0, .ref h), (1, .int b), (2, .int k), (3, .ref o)] := hl
  refine lv_aload_n hx hb d_L_name_0 rfl (lv_at hl 3 rfl) ?_
  refine lv_iconst (v := 0) hx hb d_L_name_1 (by decide) ?_
  refine lv_aload_n hx hb d_L_name_2 rfl (lv_at hl 0 rfl) ?_
  refine lv_iload_n hx hb d_L_name_3 rfl (lv_at hl 1 rfl) ?_
  refine lv_iload_n hx hb d_L_name_4 rfl (lv_at hl 2 rfl) ?_
  obtain ⟨z0, hz0, z1, hz1, hsp⟩ := tab2 htab
  refine R_catch C0 w (rest := [.int 0, .ref o]) (pre := [z0]) (x := z1) (suf := []) 0 rfl rfl [0] (c_N_name l D cI cB cJ h qn b k htl) rfl rfl wd_754 wd_751 wd_752 wd_753 wd_1 (n9 := 2) (by decide +kernel) rfl ⟨(Nat.le_of_ble_eq_true rfl), (Nat.le_of_ble_eq_true rfl)⟩ hl.1 rfl (Nat.le_of_ble_eq_true rfl) d_L_name_5 (Nat.le_of_ble_eq_true rfl) (Nat.le_of_ble_eq_true rfl) hsp (fun z hz => by rw [List.mem_singleton.mp hz, ct_eq hz0]; exact ⟨by decide, "java/util/NoSuchElementException", wd_691, by decide⟩) (by rw [cov_eq hz1]; decide) (by rw [ct_eq hz1]; decide) (by rw [ct_eq hz1]; exact wd_388) (by decide) (fun q9 H w => ?_)
  rw [hpc_eq hz1]
  refine W.cs (cells' := 1) (slots' := 6) rfl rfl ?_
  have w : Wd D A s [(h, .inr (0, fN 0 qn))] H _ := w
  refine lv_astore hx hb d_L_name_17 hl (by decide) rfl (fun ls hl => ?_)
  have hl : lv_has ls 5 [(4, .ref q9), (0, .ref h), (1, .int b), (2, .int k), (3, .ref o)] := hl
  refine lv_iconst (v := 2) hx hb d_L_name_19 (by decide) ?_
  refine W.widen (k := 1) (n := 6) (by decide) (by decide) ?_
  exact hret _ _ _ _ d_L_name_20 (w.sub [] rfl rfl)
set_option maxHeartbeats 4000000 in
set_option maxRecDepth 100000 in
theorem c_L_runA (l : Launch) (D : va_G) (cI cB cJ : ClassId) (h : Nat) (qn : Nat → Nat) (b : Int32) (k : Int32) (o : Nat) (htl : l.stackTraces = false) (hs : k < 0) : KH l D cI cB cJ y_L_run b_L_run 5 [(0, 10, 13, 19), (0, 10, 17, 13)] 7 104 [.ref h, .int b, .int k, .ref o] [(h, .inr (0, fN 0 qn))] 1 [] := by
  refine KH.ofW (by decide) (Nat.le_of_ble_eq_true rfl) ?_
  intro p e s m args below meth c A Q ls C0 htab hl w hret
  have hx := C0.1
  have hb := C0.2.1
  have hl : lv_has ls 5 [(0, .ref h), (1, .int b), (2, .int k), (3, .ref o)] := hl
  refine lv_aload_n hx hb d_L_run_0 rfl (lv_at hl 3 rfl) ?_
  refine lv_iconst (v := 0) hx hb d_L_run_1 (by decide) ?_
  refine lv_aload_n hx hb d_L_run_2 rfl (lv_at hl 0 rfl) ?_
  refine lv_iload_n hx hb d_L_run_3 rfl (lv_at hl 1 rfl) ?_
  refine lv_iload_n hx hb d_L_run_4 rfl (lv_at hl 2 rfl) ?_
  obtain ⟨z0, hz0, z1, hz1, hsp⟩ := tab2 htab
  refine R_catch C0 w (rest := [.int 0, .ref o]) (pre := []) (x := z0) (suf := [z1]) 0 rfl rfl [0] (c_N_runA l D cI cB cJ h qn b k htl hs) rfl rfl wd_762 wd_759 wd_760 wd_761 wd_1 (n9 := 2) (by decide +kernel) rfl ⟨(Nat.le_of_ble_eq_true rfl), (Nat.le_of_ble_eq_true rfl)⟩ hl.1 rfl (Nat.le_of_ble_eq_true rfl) d_L_run_5 (Nat.le_of_ble_eq_true rfl) (Nat.le_of_ble_eq_true rfl) hsp (fun z hz => by cases hz) (by rw [cov_eq hz0]; decide) (by rw [ct_eq hz0]; decide) (by rw [ct_eq hz0]; exact wd_472) (by decide) (fun q9 H w => ?_)
  rw [hpc_eq hz0]
  refine W.cs (cells' := 1) (slots' := 6) rfl rfl ?_
  have w : Wd D A s [(h, .inr (0, fN 0 qn))] H _ := w
  refine lv_astore hx hb d_L_run_13 hl (by decide) rfl (fun ls hl => ?_)
  have hl : lv_has ls 5 [(4, .ref q9), (0, .ref h), (1, .int b), (2, .int k), (3, .ref o)] := hl
  refine lv_iconst (v := 1) hx hb d_L_run_15 (by decide) ?_
  refine W.widen (k := 1) (n := 6) (by decide) (by decide) ?_
  exact hret _ _ _ _ d_L_run_16 (w.sub [] rfl rfl)
set_option maxHeartbeats 4000000 in
set_option maxRecDepth 100000 in
theorem c_L_runB (l : Launch) (D : va_G) (cI cB cJ : ClassId) (h : Nat) (qn : Nat → Nat) (b : Int32) (k : Int32) (o : Nat) (htl : l.stackTraces = false) (hs : ¬ k < 0) (ht : ¬ k ≤ 200) : KH l D cI cB cJ y_L_run b_L_run 5 [(0, 10, 13, 19), (0, 10, 17, 13)] 7 104 [.ref h, .int b, .int k, .ref o] [(h, .inr (0, fN 0 qn))] 1 [] := by
  refine KH.ofW (by decide) (Nat.le_of_ble_eq_true rfl) ?_
  intro p e s m args below meth c A Q ls C0 htab hl w hret
  have hx := C0.1
  have hb := C0.2.1
  have hl : lv_has ls 5 [(0, .ref h), (1, .int b), (2, .int k), (3, .ref o)] := hl
  refine lv_aload_n hx hb d_L_run_0 rfl (lv_at hl 3 rfl) ?_
  refine lv_iconst (v := 0) hx hb d_L_run_1 (by decide) ?_
  refine lv_aload_n hx hb d_L_run_2 rfl (lv_at hl 0 rfl) ?_
  refine lv_iload_n hx hb d_L_run_3 rfl (lv_at hl 1 rfl) ?_
  refine lv_iload_n hx hb d_L_run_4 rfl (lv_at hl 2 rfl) ?_
  obtain ⟨z0, hz0, z1, hz1, hsp⟩ := tab2 htab
  refine R_catch C0 w (rest := [.int 0, .ref o]) (pre := []) (x := z0) (suf := [z1]) 0 rfl rfl [0] (c_N_runB l D cI cB cJ h qn b k htl hs ht) rfl rfl wd_762 wd_759 wd_760 wd_761 wd_1 (n9 := 2) (by decide +kernel) rfl ⟨(Nat.le_of_ble_eq_true rfl), (Nat.le_of_ble_eq_true rfl)⟩ hl.1 rfl (Nat.le_of_ble_eq_true rfl) d_L_run_5 (Nat.le_of_ble_eq_true rfl) (Nat.le_of_ble_eq_true rfl) hsp (fun z hz => by cases hz) (by rw [cov_eq hz0]; decide) (by rw [ct_eq hz0]; decide) (by rw [ct_eq hz0]; exact wd_472) (by decide) (fun q9 H w => ?_)
  rw [hpc_eq hz0]
  refine W.cs (cells' := 1) (slots' := 6) rfl rfl ?_
  have w : Wd D A s [(h, .inr (0, fN 0 qn))] H _ := w
  refine lv_astore hx hb d_L_run_13 hl (by decide) rfl (fun ls hl => ?_)
  have hl : lv_has ls 5 [(4, .ref q9), (0, .ref h), (1, .int b), (2, .int k), (3, .ref o)] := hl
  refine lv_iconst (v := 1) hx hb d_L_run_15 (by decide) ?_
  refine W.widen (k := 1) (n := 6) (by decide) (by decide) ?_
  exact hret _ _ _ _ d_L_run_16 (w.sub [] rfl rfl)
set_option maxHeartbeats 4000000 in
set_option maxRecDepth 100000 in
theorem c_L_runC (l : Launch) (D : va_G) (cI cB cJ : ClassId) (h : Nat) (qn : Nat → Nat) (b : Int32) (k : Int32) (o : Nat) (htl : l.stackTraces = false) (hs : ¬ k < 0) (ht : k ≤ 200) : KH l D cI cB cJ y_L_run b_L_run 5 [(0, 10, 13, 19), (0, 10, 17, 13)] 7 104 [.ref h, .int b, .int k, .ref o] [(h, .inr (0, fN 0 qn))] 2 [] := by
  refine KH.ofW (by decide) (Nat.le_of_ble_eq_true rfl) ?_
  intro p e s m args below meth c A Q ls C0 htab hl w hret
  have hx := C0.1
  have hb := C0.2.1
  have hl : lv_has ls 5 [(0, .ref h), (1, .int b), (2, .int k), (3, .ref o)] := hl
  refine lv_aload_n hx hb d_L_run_0 rfl (lv_at hl 3 rfl) ?_
  refine lv_iconst (v := 0) hx hb d_L_run_1 (by decide) ?_
  refine lv_aload_n hx hb d_L_run_2 rfl (lv_at hl 0 rfl) ?_
  refine lv_iload_n hx hb d_L_run_3 rfl (lv_at hl 1 rfl) ?_
  refine lv_iload_n hx hb d_L_run_4 rfl (lv_at hl 2 rfl) ?_
  obtain ⟨z0, hz0, z1, hz1, hsp⟩ := tab2 htab
  refine R_catch C0 w (rest := [.int 0, .ref o]) (pre := [z0]) (x := z1) (suf := []) 0 rfl rfl [0] (c_N_runC l D cI cB cJ h qn b k htl hs ht) rfl rfl wd_762 wd_759 wd_760 wd_761 wd_1 (n9 := 2) (by decide +kernel) rfl ⟨(Nat.le_of_ble_eq_true rfl), (Nat.le_of_ble_eq_true rfl)⟩ hl.1 rfl (Nat.le_of_ble_eq_true rfl) d_L_run_5 (Nat.le_of_ble_eq_true rfl) (Nat.le_of_ble_eq_true rfl) hsp (fun z hz => by rw [List.mem_singleton.mp hz, ct_eq hz0]; exact ⟨by decide, "java/lang/IllegalArgumentException", wd_472, by decide⟩) (by rw [cov_eq hz1]; decide) (by rw [ct_eq hz1]; decide) (by rw [ct_eq hz1]; exact wd_388) (by decide) (fun q9 H w => ?_)
  rw [hpc_eq hz1]
  refine W.cs (cells' := 1) (slots' := 6) rfl rfl ?_
  have w : Wd D A s [(h, .inr (0, fN 0 qn))] H _ := w
  refine lv_astore hx hb d_L_run_17 hl (by decide) rfl (fun ls hl => ?_)
  have hl : lv_has ls 5 [(4, .ref q9), (0, .ref h), (1, .int b), (2, .int k), (3, .ref o)] := hl
  refine lv_iconst (v := 2) hx hb d_L_run_19 (by decide) ?_
  refine W.widen (k := 1) (n := 6) (by decide) (by decide) ?_
  exact hret _ _ _ _ d_L_run_20 (w.sub [] rfl rfl)
set_option maxHeartbeats 4000000 in
set_option maxRecDepth 100000 in
theorem c_L_heard (l : Launch) (D : va_G) (cI cB cJ : ClassId) (h : Nat) (qn : Nat → Nat) (qm : Nat → Nat) (k : Int32) (o : Nat) (htl : l.stackTraces = false) : KH l D cI cB cJ y_L_heard b_L_heard 4 [(0, 9, 12, 40)] 7 103 [.ref h, .int k, .ref o] [(h, .inr (0, fN 0 qn)), ((qn 5), .inr (6, fA 0 qm))] 1 [] := by
  refine KH.ofW (by decide) (Nat.le_of_ble_eq_true rfl) ?_
  intro p e s m args below meth c A Q ls C0 htab hl w hret
  have hx := C0.1
  have hb := C0.2.1
  have hl : lv_has ls 4 [(0, .ref h), (1, .int k), (2, .ref o)] := hl
  refine lv_aload_n hx hb d_L_heard_0 rfl (lv_at hl 2 rfl) ?_
  refine lv_iconst (v := 0) hx hb d_L_heard_1 (by decide) ?_
  refine lv_aload_n hx hb d_L_heard_2 rfl (lv_at hl 0 rfl) ?_
  refine lv_iload_n hx hb d_L_heard_3 rfl (lv_at hl 1 rfl) ?_
  obtain ⟨z0, hz0, hsp⟩ := tab1 htab
  refine R_catch C0 w (rest := [.int 0, .ref o]) (pre := []) (x := z0) (suf := []) 0 rfl rfl [0, 1] (c_N_heard l D cI cB cJ h qn qm k htl) rfl rfl wd_820 wd_817 wd_818 wd_819 wd_1 (n9 := 1) (by decide +kernel) rfl ⟨(Nat.le_of_ble_eq_true rfl), (Nat.le_of_ble_eq_true rfl)⟩ hl.1 rfl (Nat.le_of_ble_eq_true rfl) d_L_heard_4 (Nat.le_of_ble_eq_true rfl) (Nat.le_of_ble_eq_true rfl) hsp (fun z hz => by cases hz) (by rw [cov_eq hz0]; decide) (by rw [ct_eq hz0]; decide) (by rw [ct_eq hz0]; exact wd_691) (by decide) (fun q9 H w => ?_)
  rw [hpc_eq hz0]
  refine W.cs (cells' := 1) (slots' := 6) rfl rfl ?_
  have w : Wd D A s [(h, .inr (0, fN 0 qn)), ((qn 5), .inr (6, fA 0 qm))] H _ := w
  refine lv_astore_n hx hb d_L_heard_12 rfl hl (by decide) rfl (fun ls hl => ?_)
  have hl : lv_has ls 4 [(3, .ref q9), (0, .ref h), (1, .int k), (2, .ref o)] := hl
  refine lv_iconst (v := 1) hx hb d_L_heard_13 (by decide) ?_
  refine W.widen (k := 1) (n := 6) (by decide) (by decide) ?_
  exact hret _ _ _ _ d_L_heard_14 (w.sub [] rfl rfl)
end
section
set_option maxHeartbeats 4000000 in
set_option maxRecDepth 100000 in
theorem law_known {s : State} {b : Nat} (hts : ∀ w ∈ lw_tbl, w.before #[Value.ref b] s = true) (hgv : (Jvm.Cond.and given_1 narrow_1).before #[Value.ref b] s = true) : ∃ (D : va_G) (cI cB cJ : ClassId), va_K D vCl (tyZ cI cB cJ) s ∧ Kx s := by
  have hw : ∀ w ∈ wT, w.before #[Value.ref b] s = true := fun w h => hts w (wT_tbl w h)
  have hs := flat_of_before _ hgv
  obtain ⟨cN, iN, kN⟩ := u_known hw inN (hw _ wd_18)
  obtain ⟨cP, iP, kP⟩ := u_known hw inP (hw _ wd_26)
  obtain ⟨cS, iS, kS⟩ := u_known hw inS (hw _ wd_95)
  obtain ⟨cG, iG, kG⟩ := u_known hw inG (hw _ wd_138)
  obtain ⟨cK, iK, kK⟩ := u_known hw inK (hw _ wd_219)
  obtain ⟨cD, iD, kD⟩ := u_known hw inD (hw _ wd_257)
  obtain ⟨cA, iA, kA⟩ := u_known hw inA (hw _ wd_285)
  obtain ⟨cR, iR, kR⟩ := u_known hw inR (hw _ wd_823)
  obtain ⟨eI, fI, gI, xI, yI, zI⟩ := Cond.arrayClass_spec (hw _ wd_93)
  obtain ⟨eB, fB, gB, xB, yB, zB⟩ := Cond.arrayClass_spec (hw _ wd_283)
  obtain ⟨eJ, fJ, gJ, xJ, yJ, zJ⟩ := Cond.arrayClass_spec (hw _ wd_1162)
  have hcur : s.vm.findClass "NameForge" = some cN := kN.2.1
  have key : ∀ (k : Nat) (tx : String), (Cond.stringRef "NameForge" k tx).before #[Value.ref b] s = true → ∃ a : Nat, vk_R "NameForge" k tx a s := by
    intro k tx h
    obtain ⟨-, -, -, sa, -, -, -, -, -, hev⟩ := Cond.stringRef_spec hcur h
    exact ⟨sa, vk_R.of h hev⟩
  refine ⟨(fun c => match c with | 0 => cN | 1 => cP | 2 => cS | 3 => cG | 4 => cK | 5 => cD | 6 => cA | _ => cR, fun c => match c with | 0 => iN | 1 => iP | 2 => iS | 3 => iG | 4 => iK | 5 => iD | 6 => iA | _ => iR), eI, eB, eJ, ⟨?_, ?_⟩, ?_⟩
  · intro c q hq
    match c, hq with
    | 0, hq => cases hq; exact kN
    | 1, hq => cases hq; exact kP
    | 2, hq => cases hq; exact kS
    | 3, hq => cases hq; exact kG
    | 4, hq => cases hq; exact kK
    | 5, hq => cases hq; exact kD
    | 6, hq => cases hq; exact kA
    | 7, hq => cases hq; exact kR
  · intro k q hq
    match k, hq with
    | 0, hq => cases hq; exact ⟨fun n z => ⟨fun k h => (by cases h), fI, yI, gI, zI⟩, xI⟩
    | 1, hq => cases hq; exact ⟨fun n z => ⟨fun k h => (by cases h), fB, yB, gB, zB⟩, xB⟩
    | 2, hq => cases hq; exact ⟨fun n z => ⟨fun k h => (by cases h), fJ, yJ, gJ, zJ⟩, xJ⟩
  · refine ⟨hts _ wz_32, fun x hx => ?_, st_Z.of (hts _ wz_420) (hs _ (by decide +kernel)), st_Z.of (hts _ wz_422) (hs _ (by decide +kernel)), fun x hx => ?_, va_Nw.of rfl (hts _ wz_27), fun x hx => ?_, fun x hx => ?_⟩
    · simp only [strs, List.mem_cons, List.not_mem_nil, or_false] at hx
      rcases hx with rfl | rfl | rfl | rfl | rfl | rfl | rfl | rfl | rfl
      · exact key _ _ (hts _ wz_505)
      · exact key _ _ (hts _ wz_529)
      · exact key _ _ (hts _ wz_538)
      · exact key _ _ (hts _ wz_546)
      · exact key _ _ (hts _ wz_554)
      · exact key _ _ (hts _ wz_705)
      · exact key _ _ (hts _ wz_712)
      · exact key _ _ (hts _ wz_763)
      · exact key _ _ (hts _ wz_821)
    · simp only [ncs, List.mem_cons, List.not_mem_nil, or_false] at hx
      rcases hx with rfl | rfl
      · exact nc_moved (Vm.Alike.refl _) (hs (.not (.castable "java/lang/IllegalStateException" "java/lang/IllegalArgumentException")) (by decide +kernel))
      · exact nc_moved (Vm.Alike.refl _) (hs (.not (.castable "java/lang/IllegalStateException" "java/util/NoSuchElementException")) (by decide +kernel))
    · simp only [cas, List.mem_cons, List.not_mem_nil, or_false] at hx
      rcases hx with rfl | rfl | rfl
      · exact va_Nw.of rfl (hts _ wz_395)
      · exact va_Nw.of rfl (hts _ wz_498)
      · exact va_Nw.of rfl (hts _ wz_698)
    · simp only [dcl, List.mem_cons, List.not_mem_nil, or_false] at hx
      rcases hx with rfl | rfl | rfl | rfl | rfl | rfl
      · exact va_Nw.of rfl (hts _ wz_396)
      · exact va_Nw.of rfl (hts _ wz_397)
      · exact va_Nw.of rfl (hts _ wz_398)
      · exact va_Nw.of rfl (hts _ wz_399)
      · exact va_Nw.of rfl (hts _ wz_400)
      · exact va_Nw.of rfl (hts _ wz_401)
end
section
-- ===== end of PART A; then your names; then what follows =====
/-! THE CLAIM OUT OF ONE WALK OF THE LAW'S BODY. Your part is whole_start (and what it stands on); all else here is the same for every law, but numbers. -/
def R_law : String := "NameForgeLaw"
def lw_P (b : Addr) (xs : List Int32) (args : Array Value) (s : State) : Prop := args = #[.ref b] ∧ s.IntsAt b xs ∧ xs.length ≤ 6 ∧ (Jvm.Cond.and given_1 narrow_1).before args s = true
def lw_Q (_ : Array Value) (s : State) (o : Outcome) (t : State) : Prop := o = .returned (some (.int 1)) ∧ Framed s o t [] 600002 7302232
def lw_Z (below : List Frame) (a : Array Value) (s : State) : State → Prop := fun t => ∃ o, t.status = .running ∧ Ended t below o ∧ lw_Q a s o t
/-- the law's own end, with 1 on the stack, nothing written that was there before, its room as the claim has it -/
theorem lw_ret {p : Program} {l : Launch} {e : Env} {s : State} {m : MethodId} {below : List Frame} {meth : Method} {c : Code} {b : Nat} (hx : p.tables.exec = Jvm.exec) (hb : c.code = code) (hr : meth.sig.returnType = ret) (hlocks : meth.locks = false) {pc : Nat} {H : Heap} {ls : Array Slot} (hdg : decode code pc = .ok (.ireturn, 1)) : W p l e room_1 s m #[Value.ref b] below meth c H [] 600002 7302232 (lw_Z below #[Value.ref b] s) (F0 m pc ls [.int 1]) := by
  intro T hT X
  obtain ⟨fs, hret, hrun, hended, hW, hframe⟩ := X.leave (v := some (.int 1)) (hlocks := hlocks) (fun h => by rw [hr] at h; cases h)
  have hmeth' : T.vm.method? m = some meth := X.method'
  refine ⟨T.setFrames fs, ?_, .returned (some (.int 1)), hrun, hended, rfl, ⟨_, rfl⟩, hW, hframe⟩
  jvm_step X.here [X.here.top, hx, hb, hdg, hmeth', hr, ret, narrow_b1]
  (try refine ⟨rfl, ?_⟩); (try refine ⟨rfl, ?_⟩)
  first | (intro acts; rw [hret _ acts rfl rfl rfl]) | rw [hret _ _ rfl rfl rfl]
  exact Steps.refl _
/-- what holds at the law's entry: the machine, the code, the tables' words (any of lw_tbl by 'hts w (by decide +kernel)'), the script of L ints xs at the cell b, what the Statement gives of the start (any of its parts by flat_of_before) -/
def lw_At (p : Program) (s : State) (m : MethodId) (meth : Method) (c : Code) (b L : Nat) (xs : Nat → Int32) : Prop :=
  p.tables.exec = Jvm.exec ∧ c.code = code ∧ meth.sig.returnType = ret ∧ c.maxLocals = 7 ∧ s.vm.findClass R_law = some m.cls ∧ (∀ w ∈ lw_tbl, w.before #[Value.ref b] s = true) ∧ va_X b L xs s s.heap ∧ b < s.heap.size ∧ meth.locks = false ∧ (Jvm.Cond.and given_1 narrow_1).before #[Value.ref b] s = true

abbrev lA (s : State) : Nat → Prop := fun q => s.heap.size ≤ q
section LAW
variable {p : Program} {l : Launch} {e : Env} {s : State} {m : MethodId} {below : List Frame} {meth : Method} {c : Code} {b : Nat} {xs : Nat → Int32} {D : va_G} {cI cB cJ : ClassId} {H : Heap} {locs : List Loc} {ls : Array Slot}
set_option maxHeartbeats 4000000 in
set_option maxRecDepth 100000 in
theorem law_tail {cells slots : Nat} {ws : va_W} (C0 : Cx p s m #[Value.ref b] c code 7 "NameForgeLaw" D cI cB cJ) (hX : va_X b 6 xs s s.heap) (hbl : b < s.heap.size) (hr : meth.sig.returnType = ret) (hlk : meth.locks = false) (htl : l.stackTraces = false) (hcs : cells ≤ 600002) (hss : slots ≤ 7302232) (w : Wd D (lA s) s ws H locs) (hl : lv_has ls 7 [(4, .int 0), (0, .ref b)]) : W p l e room_1 s m #[Value.ref b] below meth c H locs cells slots (lw_Z below #[Value.ref b] s) (F0 m 993 ls []) := by
  have hx := C0.1
  have hb := C0.2.1
  have hbA : ¬ lA s b := fun h => absurd hbl (Nat.not_lt.mpr h)
  refine lv_iinc (k := 0) (v := 6) hx hb d_L_law_993 hl rfl (by decide) (by decide) rfl (fun ls hl => ?_)
  have hl : lv_has ls 7 [(4, .int 6), (0, .ref b)] := hl
  refine lv_goto (tgt := 23) hx hb d_L_law_996 (by decide) ?_
  refine lv_iload hx hb d_L_law_23 (lv_at hl 0 rfl) ?_
  refine lv_aload_n hx hb d_L_law_25 rfl (lv_at hl 1 rfl) ?_
  refine va_slen hx hb hX hbl hbA w.2.2.1 d_L_law_26 ?_
  refine lv_bipush (v := 6) hx hb d_L_law_27 (by decide) ?_
  refine lv_isub hx hb d_L_law_29 ?_
  refine lv_icmp_gt (tgt := 999) hx hb d_L_law_30 (by decide) (fun hc30 => ?_) (fun hc => absurd (by decide +kernel) hc)
  refine lv_iconst (v := 1) hx hb d_L_law_999 (by decide) ?_
  refine va_forget (fun q hq => w.2.2.1.2.2 q hq) ?_
  refine W.widen (k := 600002) (n := 7302232) hcs hss ?_
  exact lw_ret hx hb hr hlk d_L_law_1000
set_option maxHeartbeats 4000000 in
set_option maxRecDepth 100000 in
theorem law_case0 {qm : Nat → Nat} {qn : Nat → Nat} {qp : Nat → Nat} {qr3 : Nat → Nat} {o1 : Nat} {o2 : Nat} {q4 : Nat} (C0 : Cx p s m #[Value.ref b] c code 7 "NameForgeLaw" D cI cB cJ) (hX : va_X b 6 xs s s.heap) (hbl : b < s.heap.size) (hr : meth.sig.returnType = ret) (hlk : meth.locks = false) (htl : l.stackTraces = false) (w : Wd D (lA s) s [(o1, .inr (0, fN 0 qn)), ((qn 0), .inr (1, fP 0 qp)), ((qn 5), .inr (6, fA 0 qm)), ((qp 1), .inl (cI, 10, .inl (fun _ => 0))), ((qp 6), .inl (cI, 10, .inl (fun _ => 0))), ((qp 7), .inl (cI, 10, .inl (fun _ => 0))), ((qp 8), .inl (cI, 10, .inl (fun _ => 0))), ((qp 9), .inl (cI, 10, .inl (fun _ => 0))), ((qm 5), .inl (cI, 16, .inl (fun _ => 0))), (o2, .inr (7, fR 0 0 0 0 qr3)), ((qr3 2), .inl (cI, 10, .inl (fun _ => 0))), ((qr3 7), .inl (cI, 10, .inl (fun _ => 0))), ((qr3 33), .inl (cI, 16, .inl (fun _ => 0))), (q4, .inl (cJ, 1, .inr (.inl (fun _ => 0))))] H locs) (hl : lv_has ls 7 [(4, .int 0), (3, .ref q4), (2, .ref o2), (1, .ref o1), (0, .ref b)]) : W p l e room_1 s m #[Value.ref b] below meth c H locs 165 3470 (lw_Z below #[Value.ref b] s) (F0 m 124 ls []) := by
  have hx := C0.1
  have hb := C0.2.1
  have hbA : ¬ lA s b := fun h => absurd hbl (Nat.not_lt.mpr h)
  refine lv_aload_n hx hb d_L_law_124 rfl (lv_at hl 3 rfl) ?_
  refine lv_aload_n hx hb d_L_law_125 rfl (lv_at hl 1 rfl) ?_
  refine R_sh C0 w (rest := []) (wr := [((qn 5), .inr (6, fA 0 qm)), ((qm 5), .inl (cI, 16, .inl (fun _ => 0))), (o2, .inr (7, fR 0 0 0 0 qr3)), ((qr3 2), .inl (cI, 10, .inl (fun _ => 0))), ((qr3 7), .inl (cI, 10, .inl (fun _ => 0))), ((qr3 33), .inl (cI, 16, .inl (fun _ => 0)))]) (w1 := [(q4, .inl (cJ, 1, .inr (.inl (vp_updL (fun _ => 0) (0 : Int32).toNatClampNeg ((0 : Int32).toInt64)))))]) [0, 1, 3, 4, 5, 6, 7, 13] [2, 8, 9, 10, 11, 12] (c_L_block l D cI cB cJ o1 qn qp q4 htl) rfl rfl rfl rfl (by decide) wd_387 wd_385 wd_386 wd_0 (n9 := 2) (by decide +kernel) rfl ⟨(Nat.le_of_ble_eq_true rfl), (Nat.le_of_ble_eq_true rfl)⟩ hl.1 rfl (Nat.le_of_ble_eq_true rfl) d_L_law_126 (Nat.le_of_ble_eq_true rfl) (Nat.le_of_ble_eq_true rfl) (fun H locs w => ?_)
  refine W.cs (cells' := 166) (slots' := 3476) rfl rfl ?_
  have w : Wd D (lA s) s [((qn 5), .inr (6, fA 0 qm)), ((qm 5), .inl (cI, 16, .inl (fun _ => 0))), (o2, .inr (7, fR 0 0 0 0 qr3)), ((qr3 2), .inl (cI, 10, .inl (fun _ => 0))), ((qr3 7), .inl (cI, 10, .inl (fun _ => 0))), ((qr3 33), .inl (cI, 16, .inl (fun _ => 0))), (q4, .inl (cJ, 1, .inr (.inl (vp_updL (fun _ => 0) (0 : Int32).toNatClampNeg ((0 : Int32).toInt64)))))] H _ := w
  refine lv_istore hx hb d_L_law_129 hl (by decide) rfl (fun ls hl => ?_)
  have hl : lv_has ls 7 [(5, .int 0), (4, .int 0), (3, .ref q4), (2, .ref o2), (1, .ref o1), (0, .ref b)] := hl
  refine lv_aload_n hx hb d_L_law_131 rfl (lv_at hl 3 rfl) ?_
  refine R_vi C0 w (rest := []) (wr := [((qn 5), .inr (6, fA 0 qm)), ((qm 5), .inl (cI, 16, .inl (fun _ => 0))), ((qr3 33), .inl (cI, 16, .inl (fun _ => 0))), (q4, .inl (cJ, 1, .inr (.inl (vp_updL (fun _ => 0) (0 : Int32).toNatClampNeg ((0 : Int32).toInt64)))))]) (w1 := [(o2, .inr (7, fR 0 1 0 0 qr3))]) 2 rfl rfl [2, 3, 4] [0, 1, 5, 6] (c_R_block l D cI cB cJ o2 qr3) rfl rfl rfl rfl (by decide) wd_959 wd_956 wd_957 wd_958 wd_8 (n9 := 0) (by decide +kernel) rfl ⟨(Nat.le_of_ble_eq_true rfl), (Nat.le_of_ble_eq_true rfl)⟩ hl.1 rfl (Nat.le_of_ble_eq_true rfl) d_L_law_132 (Nat.le_of_ble_eq_true rfl) (Nat.le_of_ble_eq_true rfl) (fun H locs w => ?_)
  have w : Wd D (lA s) s [((qn 5), .inr (6, fA 0 qm)), ((qm 5), .inl (cI, 16, .inl (fun _ => 0))), ((qr3 33), .inl (cI, 16, .inl (fun _ => 0))), (q4, .inl (cJ, 1, .inr (.inl (vp_updL (fun _ => 0) (0 : Int32).toNatClampNeg ((0 : Int32).toInt64))))), (o2, .inr (7, fR 0 1 0 0 qr3))] H _ := w
  refine lv_istore hx hb d_L_law_135 hl (by decide) rfl (fun ls hl => ?_)
  have hl : lv_has ls 7 [(6, .int 0), (5, .int 0), (4, .int 0), (3, .ref q4), (2, .ref o2), (1, .ref o1), (0, .ref b)] := hl
  refine lv_aload_n hx hb d_L_law_137 rfl (lv_at hl 4 rfl) ?_
  refine R_ri C0 w (rest := []) 4 rfl rfl [4] (c_thrown l D cI cB cJ o2 qr3 0 1 0 0) rfl rfl wd_955 wd_952 wd_953 wd_954 wd_8 (n9 := 0) (by decide +kernel) rfl ⟨(Nat.le_of_ble_eq_true rfl), (Nat.le_of_ble_eq_true rfl)⟩ hl.1 rfl (Nat.le_of_ble_eq_true rfl) d_L_law_138 (Nat.le_of_ble_eq_true rfl) (Nat.le_of_ble_eq_true rfl) ?_
  refine lv_iload hx hb d_L_law_141 (lv_at hl 1 rfl) ?_
  refine lv_icmp_eq (tgt := 148) hx hb d_L_law_143 (by decide) (fun hc143 => ?_) (fun hc => absurd (by decide) hc)
  refine lv_iload hx hb d_L_law_148 (lv_at hl 1 rfl) ?_
  refine lv_if_ne (tgt := 165) hx hb d_L_law_150 (by decide) (fun hc => absurd (by decide) hc) (fun hc150 => ?_)
  refine lv_aload_n hx hb d_L_law_153 rfl (lv_at hl 3 rfl) ?_
  refine lv_iconst (v := 0) hx hb d_L_law_154 (by decide) ?_
  refine R_lald C0 w 3 rfl (vin (by decide)) d_L_law_155 ?_
  refine lv_iload hx hb d_L_law_156 (lv_at hl 0 rfl) ?_
  refine lv_i2l (v := (0 : Int32).toInt64) hx hb d_L_law_158 rfl ?_
  refine W.lcmp hx hb d_L_law_159 ?_
  refine lv_if_eq (tgt := 165) hx hb d_L_law_160 (by decide) (fun hc160 => ?_) (fun hc => absurd (by decide +kernel) hc)
  refine lv_goto (tgt := 993) hx hb d_L_law_165 (by decide) ?_
  exact law_tail C0 hX hbl hr hlk htl (Nat.le_of_ble_eq_true rfl) (Nat.le_of_ble_eq_true rfl) w (lv_sub hl [2, 6] rfl)
set_option maxHeartbeats 4000000 in
set_option maxRecDepth 100000 in
theorem law_case1 {qm : Nat → Nat} {qn : Nat → Nat} {qp : Nat → Nat} {qr3 : Nat → Nat} {o1 : Nat} {o2 : Nat} {q4 : Nat} (C0 : Cx p s m #[Value.ref b] c code 7 "NameForgeLaw" D cI cB cJ) (hX : va_X b 6 xs s s.heap) (hbl : b < s.heap.size) (hr : meth.sig.returnType = ret) (hlk : meth.locks = false) (htl : l.stackTraces = false) (w : Wd D (lA s) s [(o1, .inr (0, fN 0 qn)), ((qn 0), .inr (1, fP 0 qp)), ((qn 5), .inr (6, fA 0 qm)), ((qp 1), .inl (cI, 10, .inl (fun _ => 0))), ((qp 6), .inl (cI, 10, .inl (fun _ => 0))), ((qp 7), .inl (cI, 10, .inl (fun _ => 0))), ((qp 8), .inl (cI, 10, .inl (fun _ => 0))), ((qp 9), .inl (cI, 10, .inl (fun _ => 0))), ((qm 5), .inl (cI, 16, .inl (fun _ => 0))), (o2, .inr (7, fR 0 0 0 0 qr3)), ((qr3 2), .inl (cI, 10, .inl (fun _ => 0))), ((qr3 7), .inl (cI, 10, .inl (fun _ => 0))), ((qr3 33), .inl (cI, 16, .inl (fun _ => 0))), (q4, .inl (cJ, 1, .inr (.inl (fun _ => 0))))] H locs) (hl : lv_has ls 7 [(4, .int 0), (3, .ref q4), (2, .ref o2), (1, .ref o1), (0, .ref b)]) : W p l e room_1 s m #[Value.ref b] below meth c H locs 165 3470 (lw_Z below #[Value.ref b] s) (F0 m 168 ls []) := by
  have hx := C0.1
  have hb := C0.2.1
  have hbA : ¬ lA s b := fun h => absurd hbl (Nat.not_lt.mpr h)
  refine lv_aload_n hx hb d_L_law_168 rfl (lv_at hl 3 rfl) ?_
  refine lv_aload_n hx hb d_L_law_169 rfl (lv_at hl 4 rfl) ?_
  refine lv_iload hx hb d_L_law_170 (lv_at hl 0 rfl) ?_
  refine lv_iconst (v := 1) hx hb d_L_law_172 (by decide) ?_
  refine lv_iadd hx hb d_L_law_173 ?_
  refine lv_cst (x := 0 + 1) (y := 1) (by decide) ?_
  refine va_sld hx hb hX hbl hbA w.2.2.1 (vin (by decide)) d_L_law_174 ?_
  refine lv_aload_n hx hb d_L_law_175 rfl (lv_at hl 4 rfl) ?_
  refine lv_iload hx hb d_L_law_176 (lv_at hl 0 rfl) ?_
  refine lv_iconst (v := 2) hx hb d_L_law_178 (by decide) ?_
  refine lv_iadd hx hb d_L_law_179 ?_
  refine lv_cst (x := 0 + 2) (y := 2) (by decide) ?_
  refine va_sld hx hb hX hbl hbA w.2.2.1 (vin (by decide)) d_L_law_180 ?_
  refine lv_aload_n hx hb d_L_law_181 rfl (lv_at hl 4 rfl) ?_
  refine lv_iload hx hb d_L_law_182 (lv_at hl 0 rfl) ?_
  refine lv_iconst (v := 3) hx hb d_L_law_184 (by decide) ?_
  refine lv_iadd hx hb d_L_law_185 ?_
  refine lv_cst (x := 0 + 3) (y := 3) (by decide) ?_
  refine va_sld hx hb hX hbl hbA w.2.2.1 (vin (by decide)) d_L_law_186 ?_
  refine lv_aload_n hx hb d_L_law_187 rfl (lv_at hl 4 rfl) ?_
  refine lv_iload hx hb d_L_law_188 (lv_at hl 0 rfl) ?_
  refine lv_iconst (v := 4) hx hb d_L_law_190 (by decide) ?_
  refine lv_iadd hx hb d_L_law_191 ?_
  refine lv_cst (x := 0 + 4) (y := 4) (by decide) ?_
  refine va_sld hx hb hX hbl hbA w.2.2.1 (vin (by decide)) d_L_law_192 ?_
  refine lv_aload_n hx hb d_L_law_193 rfl (lv_at hl 4 rfl) ?_
  refine lv_iload hx hb d_L_law_194 (lv_at hl 0 rfl) ?_
  refine lv_iconst (v := 5) hx hb d_L_law_196 (by decide) ?_
  refine lv_iadd hx hb d_L_law_197 ?_
  refine lv_cst (x := 0 + 5) (y := 5) (by decide) ?_
  refine va_sld hx hb hX hbl hbA w.2.2.1 (vin (by decide)) d_L_law_198 ?_
  refine lv_aload_n hx hb d_L_law_199 rfl (lv_at hl 1 rfl) ?_
  refine R_sh C0 w (rest := []) (wr := [((qn 5), .inr (6, fA 0 qm)), ((qp 1), .inl (cI, 10, .inl (fun _ => 0))), ((qp 6), .inl (cI, 10, .inl (fun _ => 0))), ((qp 7), .inl (cI, 10, .inl (fun _ => 0))), ((qp 8), .inl (cI, 10, .inl (fun _ => 0))), ((qp 9), .inl (cI, 10, .inl (fun _ => 0))), ((qm 5), .inl (cI, 16, .inl (fun _ => 0))), (o2, .inr (7, fR 0 0 0 0 qr3)), ((qr3 2), .inl (cI, 10, .inl (fun _ => 0))), ((qr3 7), .inl (cI, 10, .inl (fun _ => 0))), ((qr3 33), .inl (cI, 16, .inl (fun _ => 0))), (q4, .inl (cJ, 1, .inr (.inl (fun _ => 0))))]) (w1 := []) [0, 1] [2, 3, 4, 5, 6, 7, 8, 9, 10, 11, 12, 13] (c_L_put l D cI cB cJ o1 qn qp (xs (1 : Int32).toNatClampNeg) (xs (2 : Int32).toNatClampNeg) (xs (3 : Int32).toNatClampNeg) (xs (4 : Int32).toNatClampNeg) (xs (5 : Int32).toNatClampNeg) q4 htl) rfl rfl rfl rfl (by decide) wd_471 wd_469 wd_470 wd_0 (n9 := 7) (by decide +kernel) rfl ⟨(Nat.le_of_ble_eq_true rfl), (Nat.le_of_ble_eq_true rfl)⟩ hl.1 rfl (Nat.le_of_ble_eq_true rfl) d_L_law_200 (Nat.le_of_ble_eq_true rfl) (Nat.le_of_ble_eq_true rfl) (fun H locs w => ?_)
  refine W.cs (cells' := 166) (slots' := 3476) rfl rfl ?_
  have w : Wd D (lA s) s [((qn 5), .inr (6, fA 0 qm)), ((qp 1), .inl (cI, 10, .inl (fun _ => 0))), ((qp 6), .inl (cI, 10, .inl (fun _ => 0))), ((qp 7), .inl (cI, 10, .inl (fun _ => 0))), ((qp 8), .inl (cI, 10, .inl (fun _ => 0))), ((qp 9), .inl (cI, 10, .inl (fun _ => 0))), ((qm 5), .inl (cI, 16, .inl (fun _ => 0))), (o2, .inr (7, fR 0 0 0 0 qr3)), ((qr3 2), .inl (cI, 10, .inl (fun _ => 0))), ((qr3 7), .inl (cI, 10, .inl (fun _ => 0))), ((qr3 33), .inl (cI, 16, .inl (fun _ => 0))), (q4, .inl (cJ, 1, .inr (.inl (fun _ => 0))))] H _ := w
  refine lv_istore hx hb d_L_law_203 hl (by decide) rfl (fun ls hl => ?_)
  have hl : lv_has ls 7 [(5, .int 1), (4, .int 0), (3, .ref q4), (2, .ref o2), (1, .ref o1), (0, .ref b)] := hl
  refine lv_aload_n hx hb d_L_law_205 rfl (lv_at hl 3 rfl) ?_
  refine lv_aload_n hx hb d_L_law_206 rfl (lv_at hl 5 rfl) ?_
  refine lv_iload hx hb d_L_law_207 (lv_at hl 1 rfl) ?_
  refine lv_iconst (v := 1) hx hb d_L_law_209 (by decide) ?_
  refine lv_iadd hx hb d_L_law_210 ?_
  refine lv_cst (x := 0 + 1) (y := 1) (by decide) ?_
  refine va_sld hx hb hX hbl hbA w.2.2.1 (vin (by decide)) d_L_law_211 ?_
  refine lv_aload_n hx hb d_L_law_212 rfl (lv_at hl 5 rfl) ?_
  refine lv_iload hx hb d_L_law_213 (lv_at hl 1 rfl) ?_
  refine lv_iconst (v := 2) hx hb d_L_law_215 (by decide) ?_
  refine lv_iadd hx hb d_L_law_216 ?_
  refine lv_cst (x := 0 + 2) (y := 2) (by decide) ?_
  refine va_sld hx hb hX hbl hbA w.2.2.1 (vin (by decide)) d_L_law_217 ?_
  refine lv_aload_n hx hb d_L_law_218 rfl (lv_at hl 5 rfl) ?_
  refine lv_iload hx hb d_L_law_219 (lv_at hl 1 rfl) ?_
  refine lv_iconst (v := 3) hx hb d_L_law_221 (by decide) ?_
  refine lv_iadd hx hb d_L_law_222 ?_
  refine lv_cst (x := 0 + 3) (y := 3) (by decide) ?_
  refine va_sld hx hb hX hbl hbA w.2.2.1 (vin (by decide)) d_L_law_223 ?_
  refine lv_aload_n hx hb d_L_law_224 rfl (lv_at hl 5 rfl) ?_
  refine lv_iload hx hb d_L_law_225 (lv_at hl 1 rfl) ?_
  refine lv_iconst (v := 4) hx hb d_L_law_227 (by decide) ?_
  refine lv_iadd hx hb d_L_law_228 ?_
  refine lv_cst (x := 0 + 4) (y := 4) (by decide) ?_
  refine va_sld hx hb hX hbl hbA w.2.2.1 (vin (by decide)) d_L_law_229 ?_
  refine lv_aload_n hx hb d_L_law_230 rfl (lv_at hl 5 rfl) ?_
  refine lv_iload hx hb d_L_law_231 (lv_at hl 1 rfl) ?_
  refine lv_iconst (v := 5) hx hb d_L_law_233 (by decide) ?_
  refine lv_iadd hx hb d_L_law_234 ?_
  refine lv_cst (x := 0 + 5) (y := 5) (by decide) ?_
  refine va_sld hx hb hX hbl hbA w.2.2.1 (vin (by decide)) d_L_law_235 ?_
  refine R_vi C0 w (rest := []) (wr := [((qn 5), .inr (6, fA 0 qm)), ((qp 1), .inl (cI, 10, .inl (fun _ => 0))), ((qp 6), .inl (cI, 10, .inl (fun _ => 0))), ((qp 7), .inl (cI, 10, .inl (fun _ => 0))), ((qp 8), .inl (cI, 10, .inl (fun _ => 0))), ((qp 9), .inl (cI, 10, .inl (fun _ => 0))), ((qm 5), .inl (cI, 16, .inl (fun _ => 0))), ((qr3 2), .inl (cI, 10, .inl (fun _ => 0))), ((qr3 7), .inl (cI, 10, .inl (fun _ => 0))), ((qr3 33), .inl (cI, 16, .inl (fun _ => 0))), (q4, .inl (cJ, 1, .inr (.inl (fun _ => 0))))]) (w1 := [(o2, .inr (7, fR 1 0 0 0 qr3))]) 7 rfl rfl [7] [0, 1, 2, 3, 4, 5, 6, 8, 9, 10, 11] (c_R_put l D cI cB cJ o2 qr3 (xs (1 : Int32).toNatClampNeg) (xs (2 : Int32).toNatClampNeg) (xs (3 : Int32).toNatClampNeg) (xs (4 : Int32).toNatClampNeg) (xs (5 : Int32).toNatClampNeg)) rfl rfl rfl rfl (by decide) wd_967 wd_964 wd_965 wd_966 wd_8 (n9 := 5) (by decide +kernel) rfl ⟨(Nat.le_of_ble_eq_true rfl), (Nat.le_of_ble_eq_true rfl)⟩ hl.1 rfl (Nat.le_of_ble_eq_true rfl) d_L_law_236 (Nat.le_of_ble_eq_true rfl) (Nat.le_of_ble_eq_true rfl) (fun H locs w => ?_)
  have w : Wd D (lA s) s [((qn 5), .inr (6, fA 0 qm)), ((qp 1), .inl (cI, 10, .inl (fun _ => 0))), ((qp 6), .inl (cI, 10, .inl (fun _ => 0))), ((qp 7), .inl (cI, 10, .inl (fun _ => 0))), ((qp 8), .inl (cI, 10, .inl (fun _ => 0))), ((qp 9), .inl (cI, 10, .inl (fun _ => 0))), ((qm 5), .inl (cI, 16, .inl (fun _ => 0))), ((qr3 2), .inl (cI, 10, .inl (fun _ => 0))), ((qr3 7), .inl (cI, 10, .inl (fun _ => 0))), ((qr3 33), .inl (cI, 16, .inl (fun _ => 0))), (q4, .inl (cJ, 1, .inr (.inl (fun _ => 0)))), (o2, .inr (7, fR 1 0 0 0 qr3))] H _ := w
  refine lv_istore hx hb d_L_law_239 hl (by decide) rfl (fun ls hl => ?_)
  have hl : lv_has ls 7 [(6, .int 0), (5, .int 1), (4, .int 0), (3, .ref q4), (2, .ref o2), (1, .ref o1), (0, .ref b)] := hl
  refine lv_aload_n hx hb d_L_law_241 rfl (lv_at hl 4 rfl) ?_
  refine R_ri C0 w (rest := []) 11 rfl rfl [11] (c_thrown l D cI cB cJ o2 qr3 1 0 0 0) rfl rfl wd_955 wd_952 wd_953 wd_954 wd_8 (n9 := 0) (by decide +kernel) rfl ⟨(Nat.le_of_ble_eq_true rfl), (Nat.le_of_ble_eq_true rfl)⟩ hl.1 rfl (Nat.le_of_ble_eq_true rfl) d_L_law_242 (Nat.le_of_ble_eq_true rfl) (Nat.le_of_ble_eq_true rfl) ?_
  refine lv_iload hx hb d_L_law_245 (lv_at hl 1 rfl) ?_
  refine lv_icmp_eq (tgt := 252) hx hb d_L_law_247 (by decide) (fun hc247 => ?_) (fun hc => absurd (by decide) hc)
  refine lv_iload hx hb d_L_law_252 (lv_at hl 1 rfl) ?_
  refine lv_if_ne (tgt := 269) hx hb d_L_law_254 (by decide) (fun hc254 => ?_) (fun hc => absurd hc (by decide))
  refine lv_goto (tgt := 993) hx hb d_L_law_269 (by decide) ?_
  exact law_tail C0 hX hbl hr hlk htl (Nat.le_of_ble_eq_true rfl) (Nat.le_of_ble_eq_true rfl) w (lv_sub hl [2, 6] rfl)
set_option maxHeartbeats 4000000 in
set_option maxRecDepth 100000 in
theorem law_case2 {qm : Nat → Nat} {qn : Nat → Nat} {qp : Nat → Nat} {qr3 : Nat → Nat} {o1 : Nat} {o2 : Nat} {q4 : Nat} (C0 : Cx p s m #[Value.ref b] c code 7 "NameForgeLaw" D cI cB cJ) (hX : va_X b 6 xs s s.heap) (hbl : b < s.heap.size) (hr : meth.sig.returnType = ret) (hlk : meth.locks = false) (htl : l.stackTraces = false) (w : Wd D (lA s) s [(o1, .inr (0, fN 0 qn)), ((qn 0), .inr (1, fP 0 qp)), ((qn 5), .inr (6, fA 0 qm)), ((qp 1), .inl (cI, 10, .inl (fun _ => 0))), ((qp 6), .inl (cI, 10, .inl (fun _ => 0))), ((qp 7), .inl (cI, 10, .inl (fun _ => 0))), ((qp 8), .inl (cI, 10, .inl (fun _ => 0))), ((qp 9), .inl (cI, 10, .inl (fun _ => 0))), ((qm 5), .inl (cI, 16, .inl (fun _ => 0))), (o2, .inr (7, fR 0 0 0 0 qr3)), ((qr3 2), .inl (cI, 10, .inl (fun _ => 0))), ((qr3 7), .inl (cI, 10, .inl (fun _ => 0))), ((qr3 33), .inl (cI, 16, .inl (fun _ => 0))), (q4, .inl (cJ, 1, .inr (.inl (fun _ => 0))))] H locs) (hl : lv_has ls 7 [(4, .int 0), (3, .ref q4), (2, .ref o2), (1, .ref o1), (0, .ref b)]) : W p l e room_1 s m #[Value.ref b] below meth c H locs 165 3470 (lw_Z below #[Value.ref b] s) (F0 m 272 ls []) := by
  have hx := C0.1
  have hb := C0.2.1
  have hbA : ¬ lA s b := fun h => absurd hbl (Nat.not_lt.mpr h)
  refine lv_aload_n hx hb d_L_law_272 rfl (lv_at hl 3 rfl) ?_
  refine lv_aload_n hx hb d_L_law_273 rfl (lv_at hl 4 rfl) ?_
  refine lv_iload hx hb d_L_law_274 (lv_at hl 0 rfl) ?_
  refine lv_iconst (v := 1) hx hb d_L_law_276 (by decide) ?_
  refine lv_iadd hx hb d_L_law_277 ?_
  refine lv_cst (x := 0 + 1) (y := 1) (by decide) ?_
  refine va_sld hx hb hX hbl hbA w.2.2.1 (vin (by decide)) d_L_law_278 ?_
  refine lv_aload_n hx hb d_L_law_279 rfl (lv_at hl 4 rfl) ?_
  refine lv_iload hx hb d_L_law_280 (lv_at hl 0 rfl) ?_
  refine lv_iconst (v := 2) hx hb d_L_law_282 (by decide) ?_
  refine lv_iadd hx hb d_L_law_283 ?_
  refine lv_cst (x := 0 + 2) (y := 2) (by decide) ?_
  refine va_sld hx hb hX hbl hbA w.2.2.1 (vin (by decide)) d_L_law_284 ?_
  refine R_sh C0 w (rest := []) (wr := [((qn 5), .inr (6, fA 0 qm)), ((qp 1), .inl (cI, 10, .inl (fun _ => 0))), ((qp 6), .inl (cI, 10, .inl (fun _ => 0))), ((qp 7), .inl (cI, 10, .inl (fun _ => 0))), ((qp 8), .inl (cI, 10, .inl (fun _ => 0))), ((qp 9), .inl (cI, 10, .inl (fun _ => 0))), ((qm 5), .inl (cI, 16, .inl (fun _ => 0))), (o2, .inr (7, fR 0 0 0 0 qr3)), ((qr3 2), .inl (cI, 10, .inl (fun _ => 0))), ((qr3 7), .inl (cI, 10, .inl (fun _ => 0))), ((qr3 33), .inl (cI, 16, .inl (fun _ => 0))), (q4, .inl (cJ, 1, .inr (.inl (fun _ => 0))))]) (w1 := []) [0, 1] [2, 3, 4, 5, 6, 7, 8, 9, 10, 11, 12, 13] (c_L_go l D cI cB cJ o1 qn qp (xs (1 : Int32).toNatClampNeg) (xs (2 : Int32).toNatClampNeg) htl) rfl rfl rfl rfl (by decide) wd_519 wd_517 wd_518 wd_0 (n9 := 3) (by decide +kernel) rfl ⟨(Nat.le_of_ble_eq_true rfl), (Nat.le_of_ble_eq_true rfl)⟩ hl.1 rfl (Nat.le_of_ble_eq_true rfl) d_L_law_285 (Nat.le_of_ble_eq_true rfl) (Nat.le_of_ble_eq_true rfl) (fun H locs w => ?_)
  refine W.cs (cells' := 166) (slots' := 3476) rfl rfl ?_
  have w : Wd D (lA s) s [((qn 5), .inr (6, fA 0 qm)), ((qp 1), .inl (cI, 10, .inl (fun _ => 0))), ((qp 6), .inl (cI, 10, .inl (fun _ => 0))), ((qp 7), .inl (cI, 10, .inl (fun _ => 0))), ((qp 8), .inl (cI, 10, .inl (fun _ => 0))), ((qp 9), .inl (cI, 10, .inl (fun _ => 0))), ((qm 5), .inl (cI, 16, .inl (fun _ => 0))), (o2, .inr (7, fR 0 0 0 0 qr3)), ((qr3 2), .inl (cI, 10, .inl (fun _ => 0))), ((qr3 7), .inl (cI, 10, .inl (fun _ => 0))), ((qr3 33), .inl (cI, 16, .inl (fun _ => 0))), (q4, .inl (cJ, 1, .inr (.inl (fun _ => 0))))] H _ := w
  refine lv_istore hx hb d_L_law_288 hl (by decide) rfl (fun ls hl => ?_)
  have hl : lv_has ls 7 [(5, .int 1), (4, .int 0), (3, .ref q4), (2, .ref o2), (1, .ref o1), (0, .ref b)] := hl
  refine lv_aload_n hx hb d_L_law_290 rfl (lv_at hl 3 rfl) ?_
  refine lv_aload_n hx hb d_L_law_291 rfl (lv_at hl 5 rfl) ?_
  refine lv_iload hx hb d_L_law_292 (lv_at hl 1 rfl) ?_
  refine lv_iconst (v := 1) hx hb d_L_law_294 (by decide) ?_
  refine lv_iadd hx hb d_L_law_295 ?_
  refine lv_cst (x := 0 + 1) (y := 1) (by decide) ?_
  refine va_sld hx hb hX hbl hbA w.2.2.1 (vin (by decide)) d_L_law_296 ?_
  refine lv_aload_n hx hb d_L_law_297 rfl (lv_at hl 5 rfl) ?_
  refine lv_iload hx hb d_L_law_298 (lv_at hl 1 rfl) ?_
  refine lv_iconst (v := 2) hx hb d_L_law_300 (by decide) ?_
  refine lv_iadd hx hb d_L_law_301 ?_
  refine lv_cst (x := 0 + 2) (y := 2) (by decide) ?_
  refine va_sld hx hb hX hbl hbA w.2.2.1 (vin (by decide)) d_L_law_302 ?_
  refine R_vv C0 w (rest := []) (wr := [((qn 5), .inr (6, fA 0 qm)), ((qp 1), .inl (cI, 10, .inl (fun _ => 0))), ((qp 6), .inl (cI, 10, .inl (fun _ => 0))), ((qp 7), .inl (cI, 10, .inl (fun _ => 0))), ((qp 8), .inl (cI, 10, .inl (fun _ => 0))), ((qp 9), .inl (cI, 10, .inl (fun _ => 0))), ((qm 5), .inl (cI, 16, .inl (fun _ => 0))), ((qr3 2), .inl (cI, 10, .inl (fun _ => 0))), ((qr3 7), .inl (cI, 10, .inl (fun _ => 0))), ((qr3 33), .inl (cI, 16, .inl (fun _ => 0))), (q4, .inl (cJ, 1, .inr (.inl (fun _ => 0))))]) (w1 := [(o2, .inr (7, fR 1 0 0 0 qr3))]) 7 rfl rfl [7] [0, 1, 2, 3, 4, 5, 6, 8, 9, 10, 11] (c_R_go l D cI cB cJ o2 qr3 (xs (1 : Int32).toNatClampNeg) (xs (2 : Int32).toNatClampNeg)) rfl rfl rfl rfl (by decide) wd_987 wd_984 wd_985 wd_986 wd_8 (n9 := 2) (by decide +kernel) rfl ⟨(Nat.le_of_ble_eq_true rfl), (Nat.le_of_ble_eq_true rfl)⟩ hl.1 rfl (Nat.le_of_ble_eq_true rfl) d_L_law_303 (Nat.le_of_ble_eq_true rfl) (Nat.le_of_ble_eq_true rfl) (fun H locs w => ?_)
  have w : Wd D (lA s) s [((qn 5), .inr (6, fA 0 qm)), ((qp 1), .inl (cI, 10, .inl (fun _ => 0))), ((qp 6), .inl (cI, 10, .inl (fun _ => 0))), ((qp 7), .inl (cI, 10, .inl (fun _ => 0))), ((qp 8), .inl (cI, 10, .inl (fun _ => 0))), ((qp 9), .inl (cI, 10, .inl (fun _ => 0))), ((qm 5), .inl (cI, 16, .inl (fun _ => 0))), ((qr3 2), .inl (cI, 10, .inl (fun _ => 0))), ((qr3 7), .inl (cI, 10, .inl (fun _ => 0))), ((qr3 33), .inl (cI, 16, .inl (fun _ => 0))), (q4, .inl (cJ, 1, .inr (.inl (fun _ => 0)))), (o2, .inr (7, fR 1 0 0 0 qr3))] H _ := w
  refine lv_aload_n hx hb d_L_law_306 rfl (lv_at hl 3 rfl) ?_
  refine R_ri C0 w (rest := []) 11 rfl rfl [11] (c_thrown l D cI cB cJ o2 qr3 1 0 0 0) rfl rfl wd_955 wd_952 wd_953 wd_954 wd_8 (n9 := 0) (by decide +kernel) rfl ⟨(Nat.le_of_ble_eq_true rfl), (Nat.le_of_ble_eq_true rfl)⟩ hl.1 rfl (Nat.le_of_ble_eq_true rfl) d_L_law_307 (Nat.le_of_ble_eq_true rfl) (Nat.le_of_ble_eq_true rfl) ?_
  refine lv_iload hx hb d_L_law_310 (lv_at hl 0 rfl) ?_
  refine lv_icmp_eq (tgt := 317) hx hb d_L_law_312 (by decide) (fun hc312 => ?_) (fun hc => absurd (by decide) hc)
  refine lv_goto (tgt := 993) hx hb d_L_law_317 (by decide) ?_
  exact law_tail C0 hX hbl hr hlk htl (Nat.le_of_ble_eq_true rfl) (Nat.le_of_ble_eq_true rfl) w (lv_sub hl [1, 5] rfl)
set_option maxHeartbeats 4000000 in
set_option maxRecDepth 100000 in
theorem law_case3 {qm : Nat → Nat} {qn : Nat → Nat} {qp : Nat → Nat} {qr3 : Nat → Nat} {o1 : Nat} {o2 : Nat} {q4 : Nat} (C0 : Cx p s m #[Value.ref b] c code 7 "NameForgeLaw" D cI cB cJ) (hX : va_X b 6 xs s s.heap) (hbl : b < s.heap.size) (hr : meth.sig.returnType = ret) (hlk : meth.locks = false) (htl : l.stackTraces = false) (w : Wd D (lA s) s [(o1, .inr (0, fN 0 qn)), ((qn 0), .inr (1, fP 0 qp)), ((qn 5), .inr (6, fA 0 qm)), ((qp 1), .inl (cI, 10, .inl (fun _ => 0))), ((qp 6), .inl (cI, 10, .inl (fun _ => 0))), ((qp 7), .inl (cI, 10, .inl (fun _ => 0))), ((qp 8), .inl (cI, 10, .inl (fun _ => 0))), ((qp 9), .inl (cI, 10, .inl (fun _ => 0))), ((qm 5), .inl (cI, 16, .inl (fun _ => 0))), (o2, .inr (7, fR 0 0 0 0 qr3)), ((qr3 2), .inl (cI, 10, .inl (fun _ => 0))), ((qr3 7), .inl (cI, 10, .inl (fun _ => 0))), ((qr3 33), .inl (cI, 16, .inl (fun _ => 0))), (q4, .inl (cJ, 1, .inr (.inl (fun _ => 0))))] H locs) (hl : lv_has ls 7 [(4, .int 0), (3, .ref q4), (2, .ref o2), (1, .ref o1), (0, .ref b)]) : W p l e room_1 s m #[Value.ref b] below meth c H locs 165 3470 (lw_Z below #[Value.ref b] s) (F0 m 320 ls []) := by
  have hx := C0.1
  have hb := C0.2.1
  have hbA : ¬ lA s b := fun h => absurd hbl (Nat.not_lt.mpr h)
  refine lv_aload_n hx hb d_L_law_320 rfl (lv_at hl 3 rfl) ?_
  refine lv_aload_n hx hb d_L_law_321 rfl (lv_at hl 4 rfl) ?_
  refine lv_iload hx hb d_L_law_322 (lv_at hl 0 rfl) ?_
  refine lv_iconst (v := 1) hx hb d_L_law_324 (by decide) ?_
  refine lv_iadd hx hb d_L_law_325 ?_
  refine lv_cst (x := 0 + 1) (y := 1) (by decide) ?_
  refine va_sld hx hb hX hbl hbA w.2.2.1 (vin (by decide)) d_L_law_326 ?_
  refine lv_aload_n hx hb d_L_law_327 rfl (lv_at hl 4 rfl) ?_
  refine lv_iload hx hb d_L_law_328 (lv_at hl 0 rfl) ?_
  refine lv_iconst (v := 2) hx hb d_L_law_330 (by decide) ?_
  refine lv_iadd hx hb d_L_law_331 ?_
  refine lv_cst (x := 0 + 2) (y := 2) (by decide) ?_
  refine va_sld hx hb hX hbl hbA w.2.2.1 (vin (by decide)) d_L_law_332 ?_
  refine lv_aload_n hx hb d_L_law_333 rfl (lv_at hl 4 rfl) ?_
  refine lv_iload hx hb d_L_law_334 (lv_at hl 0 rfl) ?_
  refine lv_iconst (v := 3) hx hb d_L_law_336 (by decide) ?_
  refine lv_iadd hx hb d_L_law_337 ?_
  refine lv_cst (x := 0 + 3) (y := 3) (by decide) ?_
  refine va_sld hx hb hX hbl hbA w.2.2.1 (vin (by decide)) d_L_law_338 ?_
  refine lv_aload_n hx hb d_L_law_339 rfl (lv_at hl 4 rfl) ?_
  refine lv_iload hx hb d_L_law_340 (lv_at hl 0 rfl) ?_
  refine lv_iconst (v := 4) hx hb d_L_law_342 (by decide) ?_
  refine lv_iadd hx hb d_L_law_343 ?_
  refine lv_cst (x := 0 + 4) (y := 4) (by decide) ?_
  refine va_sld hx hb hX hbl hbA w.2.2.1 (vin (by decide)) d_L_law_344 ?_
  refine R_sh C0 w (rest := []) (wr := [((qn 5), .inr (6, fA 0 qm)), ((qp 1), .inl (cI, 10, .inl (fun _ => 0))), ((qp 6), .inl (cI, 10, .inl (fun _ => 0))), ((qp 7), .inl (cI, 10, .inl (fun _ => 0))), ((qp 8), .inl (cI, 10, .inl (fun _ => 0))), ((qp 9), .inl (cI, 10, .inl (fun _ => 0))), ((qm 5), .inl (cI, 16, .inl (fun _ => 0))), (o2, .inr (7, fR 0 0 0 0 qr3)), ((qr3 2), .inl (cI, 10, .inl (fun _ => 0))), ((qr3 7), .inl (cI, 10, .inl (fun _ => 0))), ((qr3 33), .inl (cI, 16, .inl (fun _ => 0))), (q4, .inl (cJ, 1, .inr (.inl (fun _ => 0))))]) (w1 := []) [0, 1] [2, 3, 4, 5, 6, 7, 8, 9, 10, 11, 12, 13] (c_L_fork l D cI cB cJ o1 qn qp (xs (1 : Int32).toNatClampNeg) (xs (2 : Int32).toNatClampNeg) (xs (3 : Int32).toNatClampNeg) (xs (4 : Int32).toNatClampNeg) htl) rfl rfl rfl rfl (by decide) wd_533 wd_531 wd_532 wd_0 (n9 := 5) (by decide +kernel) rfl ⟨(Nat.le_of_ble_eq_true rfl), (Nat.le_of_ble_eq_true rfl)⟩ hl.1 rfl (Nat.le_of_ble_eq_true rfl) d_L_law_345 (Nat.le_of_ble_eq_true rfl) (Nat.le_of_ble_eq_true rfl) (fun H locs w => ?_)
  refine W.cs (cells' := 166) (slots' := 3476) rfl rfl ?_
  have w : Wd D (lA s) s [((qn 5), .inr (6, fA 0 qm)), ((qp 1), .inl (cI, 10, .inl (fun _ => 0))), ((qp 6), .inl (cI, 10, .inl (fun _ => 0))), ((qp 7), .inl (cI, 10, .inl (fun _ => 0))), ((qp 8), .inl (cI, 10, .inl (fun _ => 0))), ((qp 9), .inl (cI, 10, .inl (fun _ => 0))), ((qm 5), .inl (cI, 16, .inl (fun _ => 0))), (o2, .inr (7, fR 0 0 0 0 qr3)), ((qr3 2), .inl (cI, 10, .inl (fun _ => 0))), ((qr3 7), .inl (cI, 10, .inl (fun _ => 0))), ((qr3 33), .inl (cI, 16, .inl (fun _ => 0))), (q4, .inl (cJ, 1, .inr (.inl (fun _ => 0))))] H _ := w
  refine lv_istore hx hb d_L_law_348 hl (by decide) rfl (fun ls hl => ?_)
  have hl : lv_has ls 7 [(5, .int 1), (4, .int 0), (3, .ref q4), (2, .ref o2), (1, .ref o1), (0, .ref b)] := hl
  refine lv_aload_n hx hb d_L_law_350 rfl (lv_at hl 3 rfl) ?_
  refine lv_aload_n hx hb d_L_law_351 rfl (lv_at hl 5 rfl) ?_
  refine lv_iload hx hb d_L_law_352 (lv_at hl 1 rfl) ?_
  refine lv_iconst (v := 1) hx hb d_L_law_354 (by decide) ?_
  refine lv_iadd hx hb d_L_law_355 ?_
  refine lv_cst (x := 0 + 1) (y := 1) (by decide) ?_
  refine va_sld hx hb hX hbl hbA w.2.2.1 (vin (by decide)) d_L_law_356 ?_
  refine lv_aload_n hx hb d_L_law_357 rfl (lv_at hl 5 rfl) ?_
  refine lv_iload hx hb d_L_law_358 (lv_at hl 1 rfl) ?_
  refine lv_iconst (v := 2) hx hb d_L_law_360 (by decide) ?_
  refine lv_iadd hx hb d_L_law_361 ?_
  refine lv_cst (x := 0 + 2) (y := 2) (by decide) ?_
  refine va_sld hx hb hX hbl hbA w.2.2.1 (vin (by decide)) d_L_law_362 ?_
  refine lv_aload_n hx hb d_L_law_363 rfl (lv_at hl 5 rfl) ?_
  refine lv_iload hx hb d_L_law_364 (lv_at hl 1 rfl) ?_
  refine lv_iconst (v := 3) hx hb d_L_law_366 (by decide) ?_
  refine lv_iadd hx hb d_L_law_367 ?_
  refine lv_cst (x := 0 + 3) (y := 3) (by decide) ?_
  refine va_sld hx hb hX hbl hbA w.2.2.1 (vin (by decide)) d_L_law_368 ?_
  refine lv_aload_n hx hb d_L_law_369 rfl (lv_at hl 5 rfl) ?_
  refine lv_iload hx hb d_L_law_370 (lv_at hl 1 rfl) ?_
  refine lv_iconst (v := 4) hx hb d_L_law_372 (by decide) ?_
  refine lv_iadd hx hb d_L_law_373 ?_
  refine lv_cst (x := 0 + 4) (y := 4) (by decide) ?_
  refine va_sld hx hb hX hbl hbA w.2.2.1 (vin (by decide)) d_L_law_374 ?_
  refine R_vv C0 w (rest := []) (wr := [((qn 5), .inr (6, fA 0 qm)), ((qp 1), .inl (cI, 10, .inl (fun _ => 0))), ((qp 6), .inl (cI, 10, .inl (fun _ => 0))), ((qp 7), .inl (cI, 10, .inl (fun _ => 0))), ((qp 8), .inl (cI, 10, .inl (fun _ => 0))), ((qp 9), .inl (cI, 10, .inl (fun _ => 0))), ((qm 5), .inl (cI, 16, .inl (fun _ => 0))), ((qr3 2), .inl (cI, 10, .inl (fun _ => 0))), ((qr3 7), .inl (cI, 10, .inl (fun _ => 0))), ((qr3 33), .inl (cI, 16, .inl (fun _ => 0))), (q4, .inl (cJ, 1, .inr (.inl (fun _ => 0))))]) (w1 := [(o2, .inr (7, fR 1 0 0 0 qr3))]) 7 rfl rfl [7] [0, 1, 2, 3, 4, 5, 6, 8, 9, 10, 11] (c_R_fork l D cI cB cJ o2 qr3 (xs (1 : Int32).toNatClampNeg) (xs (2 : Int32).toNatClampNeg) (xs (3 : Int32).toNatClampNeg) (xs (4 : Int32).toNatClampNeg)) rfl rfl rfl rfl (by decide) wd_995 wd_992 wd_993 wd_994 wd_8 (n9 := 4) (by decide +kernel) rfl ⟨(Nat.le_of_ble_eq_true rfl), (Nat.le_of_ble_eq_true rfl)⟩ hl.1 rfl (Nat.le_of_ble_eq_true rfl) d_L_law_375 (Nat.le_of_ble_eq_true rfl) (Nat.le_of_ble_eq_true rfl) (fun H locs w => ?_)
  have w : Wd D (lA s) s [((qn 5), .inr (6, fA 0 qm)), ((qp 1), .inl (cI, 10, .inl (fun _ => 0))), ((qp 6), .inl (cI, 10, .inl (fun _ => 0))), ((qp 7), .inl (cI, 10, .inl (fun _ => 0))), ((qp 8), .inl (cI, 10, .inl (fun _ => 0))), ((qp 9), .inl (cI, 10, .inl (fun _ => 0))), ((qm 5), .inl (cI, 16, .inl (fun _ => 0))), ((qr3 2), .inl (cI, 10, .inl (fun _ => 0))), ((qr3 7), .inl (cI, 10, .inl (fun _ => 0))), ((qr3 33), .inl (cI, 16, .inl (fun _ => 0))), (q4, .inl (cJ, 1, .inr (.inl (fun _ => 0)))), (o2, .inr (7, fR 1 0 0 0 qr3))] H _ := w
  refine lv_aload_n hx hb d_L_law_378 rfl (lv_at hl 3 rfl) ?_
  refine R_ri C0 w (rest := []) 11 rfl rfl [11] (c_thrown l D cI cB cJ o2 qr3 1 0 0 0) rfl rfl wd_955 wd_952 wd_953 wd_954 wd_8 (n9 := 0) (by decide +kernel) rfl ⟨(Nat.le_of_ble_eq_true rfl), (Nat.le_of_ble_eq_true rfl)⟩ hl.1 rfl (Nat.le_of_ble_eq_true rfl) d_L_law_379 (Nat.le_of_ble_eq_true rfl) (Nat.le_of_ble_eq_true rfl) ?_
  refine lv_iload hx hb d_L_law_382 (lv_at hl 0 rfl) ?_
  refine lv_icmp_eq (tgt := 389) hx hb d_L_law_384 (by decide) (fun hc384 => ?_) (fun hc => absurd (by decide) hc)
  refine lv_goto (tgt := 993) hx hb d_L_law_389 (by decide) ?_
  exact law_tail C0 hX hbl hr hlk htl (Nat.le_of_ble_eq_true rfl) (Nat.le_of_ble_eq_true rfl) w (lv_sub hl [1, 5] rfl)
set_option maxHeartbeats 4000000 in
set_option maxRecDepth 100000 in
theorem law_case4 {qm : Nat → Nat} {qn : Nat → Nat} {qp : Nat → Nat} {qr3 : Nat → Nat} {o1 : Nat} {o2 : Nat} {q4 : Nat} (C0 : Cx p s m #[Value.ref b] c code 7 "NameForgeLaw" D cI cB cJ) (hX : va_X b 6 xs s s.heap) (hbl : b < s.heap.size) (hr : meth.sig.returnType = ret) (hlk : meth.locks = false) (htl : l.stackTraces = false) (w : Wd D (lA s) s [(o1, .inr (0, fN 0 qn)), ((qn 0), .inr (1, fP 0 qp)), ((qn 5), .inr (6, fA 0 qm)), ((qp 1), .inl (cI, 10, .inl (fun _ => 0))), ((qp 6), .inl (cI, 10, .inl (fun _ => 0))), ((qp 7), .inl (cI, 10, .inl (fun _ => 0))), ((qp 8), .inl (cI, 10, .inl (fun _ => 0))), ((qp 9), .inl (cI, 10, .inl (fun _ => 0))), ((qm 5), .inl (cI, 16, .inl (fun _ => 0))), (o2, .inr (7, fR 0 0 0 0 qr3)), ((qr3 2), .inl (cI, 10, .inl (fun _ => 0))), ((qr3 7), .inl (cI, 10, .inl (fun _ => 0))), ((qr3 33), .inl (cI, 16, .inl (fun _ => 0))), (q4, .inl (cJ, 1, .inr (.inl (fun _ => 0))))] H locs) (hl : lv_has ls 7 [(4, .int 0), (3, .ref q4), (2, .ref o2), (1, .ref o1), (0, .ref b)]) : W p l e room_1 s m #[Value.ref b] below meth c H locs 165 3470 (lw_Z below #[Value.ref b] s) (F0 m 392 ls []) := by
  have hx := C0.1
  have hb := C0.2.1
  have hbA : ¬ lA s b := fun h => absurd hbl (Nat.not_lt.mpr h)
  refine lv_aload_n hx hb d_L_law_392 rfl (lv_at hl 3 rfl) ?_
  refine lv_aload_n hx hb d_L_law_393 rfl (lv_at hl 4 rfl) ?_
  refine lv_iload hx hb d_L_law_394 (lv_at hl 0 rfl) ?_
  refine lv_iconst (v := 1) hx hb d_L_law_396 (by decide) ?_
  refine lv_iadd hx hb d_L_law_397 ?_
  refine lv_cst (x := 0 + 1) (y := 1) (by decide) ?_
  refine va_sld hx hb hX hbl hbA w.2.2.1 (vin (by decide)) d_L_law_398 ?_
  refine R_sh C0 w (rest := []) (wr := [((qn 5), .inr (6, fA 0 qm)), ((qp 1), .inl (cI, 10, .inl (fun _ => 0))), ((qp 6), .inl (cI, 10, .inl (fun _ => 0))), ((qp 7), .inl (cI, 10, .inl (fun _ => 0))), ((qp 8), .inl (cI, 10, .inl (fun _ => 0))), ((qp 9), .inl (cI, 10, .inl (fun _ => 0))), ((qm 5), .inl (cI, 16, .inl (fun _ => 0))), (o2, .inr (7, fR 0 0 0 0 qr3)), ((qr3 2), .inl (cI, 10, .inl (fun _ => 0))), ((qr3 7), .inl (cI, 10, .inl (fun _ => 0))), ((qr3 33), .inl (cI, 16, .inl (fun _ => 0))), (q4, .inl (cJ, 1, .inr (.inl (fun _ => 0))))]) (w1 := []) [0, 1] [2, 3, 4, 5, 6, 7, 8, 9, 10, 11, 12, 13] (c_L_stop l D cI cB cJ o1 qn qp (xs (1 : Int32).toNatClampNeg) htl) rfl rfl rfl rfl (by decide) wd_541 wd_539 wd_540 wd_0 (n9 := 2) (by decide +kernel) rfl ⟨(Nat.le_of_ble_eq_true rfl), (Nat.le_of_ble_eq_true rfl)⟩ hl.1 rfl (Nat.le_of_ble_eq_true rfl) d_L_law_399 (Nat.le_of_ble_eq_true rfl) (Nat.le_of_ble_eq_true rfl) (fun H locs w => ?_)
  refine W.cs (cells' := 166) (slots' := 3476) rfl rfl ?_
  have w : Wd D (lA s) s [((qn 5), .inr (6, fA 0 qm)), ((qp 1), .inl (cI, 10, .inl (fun _ => 0))), ((qp 6), .inl (cI, 10, .inl (fun _ => 0))), ((qp 7), .inl (cI, 10, .inl (fun _ => 0))), ((qp 8), .inl (cI, 10, .inl (fun _ => 0))), ((qp 9), .inl (cI, 10, .inl (fun _ => 0))), ((qm 5), .inl (cI, 16, .inl (fun _ => 0))), (o2, .inr (7, fR 0 0 0 0 qr3)), ((qr3 2), .inl (cI, 10, .inl (fun _ => 0))), ((qr3 7), .inl (cI, 10, .inl (fun _ => 0))), ((qr3 33), .inl (cI, 16, .inl (fun _ => 0))), (q4, .inl (cJ, 1, .inr (.inl (fun _ => 0))))] H _ := w
  refine lv_istore hx hb d_L_law_402 hl (by decide) rfl (fun ls hl => ?_)
  have hl : lv_has ls 7 [(5, .int 1), (4, .int 0), (3, .ref q4), (2, .ref o2), (1, .ref o1), (0, .ref b)] := hl
  refine lv_aload_n hx hb d_L_law_404 rfl (lv_at hl 3 rfl) ?_
  refine lv_aload_n hx hb d_L_law_405 rfl (lv_at hl 5 rfl) ?_
  refine lv_iload hx hb d_L_law_406 (lv_at hl 1 rfl) ?_
  refine lv_iconst (v := 1) hx hb d_L_law_408 (by decide) ?_
  refine lv_iadd hx hb d_L_law_409 ?_
  refine lv_cst (x := 0 + 1) (y := 1) (by decide) ?_
  refine va_sld hx hb hX hbl hbA w.2.2.1 (vin (by decide)) d_L_law_410 ?_
  refine R_vv C0 w (rest := []) (wr := [((qn 5), .inr (6, fA 0 qm)), ((qp 1), .inl (cI, 10, .inl (fun _ => 0))), ((qp 6), .inl (cI, 10, .inl (fun _ => 0))), ((qp 7), .inl (cI, 10, .inl (fun _ => 0))), ((qp 8), .inl (cI, 10, .inl (fun _ => 0))), ((qp 9), .inl (cI, 10, .inl (fun _ => 0))), ((qm 5), .inl (cI, 16, .inl (fun _ => 0))), ((qr3 2), .inl (cI, 10, .inl (fun _ => 0))), ((qr3 7), .inl (cI, 10, .inl (fun _ => 0))), ((qr3 33), .inl (cI, 16, .inl (fun _ => 0))), (q4, .inl (cJ, 1, .inr (.inl (fun _ => 0))))]) (w1 := [(o2, .inr (7, fR 1 0 0 0 qr3))]) 7 rfl rfl [7] [0, 1, 2, 3, 4, 5, 6, 8, 9, 10, 11] (c_R_stop l D cI cB cJ o2 qr3 (xs (1 : Int32).toNatClampNeg)) rfl rfl rfl rfl (by decide) wd_999 wd_996 wd_997 wd_998 wd_8 (n9 := 1) (by decide +kernel) rfl ⟨(Nat.le_of_ble_eq_true rfl), (Nat.le_of_ble_eq_true rfl)⟩ hl.1 rfl (Nat.le_of_ble_eq_true rfl) d_L_law_411 (Nat.le_of_ble_eq_true rfl) (Nat.le_of_ble_eq_true rfl) (fun H locs w => ?_)
  have w : Wd D (lA s) s [((qn 5), .inr (6, fA 0 qm)), ((qp 1), .inl (cI, 10, .inl (fun _ => 0))), ((qp 6), .inl (cI, 10, .inl (fun _ => 0))), ((qp 7), .inl (cI, 10, .inl (fun _ => 0))), ((qp 8), .inl (cI, 10, .inl (fun _ => 0))), ((qp 9), .inl (cI, 10, .inl (fun _ => 0))), ((qm 5), .inl (cI, 16, .inl (fun _ => 0))), ((qr3 2), .inl (cI, 10, .inl (fun _ => 0))), ((qr3 7), .inl (cI, 10, .inl (fun _ => 0))), ((qr3 33), .inl (cI, 16, .inl (fun _ => 0))), (q4, .inl (cJ, 1, .inr (.inl (fun _ => 0)))), (o2, .inr (7, fR 1 0 0 0 qr3))] H _ := w
  refine lv_aload_n hx hb d_L_law_414 rfl (lv_at hl 3 rfl) ?_
  refine R_ri C0 w (rest := []) 11 rfl rfl [11] (c_thrown l D cI cB cJ o2 qr3 1 0 0 0) rfl rfl wd_955 wd_952 wd_953 wd_954 wd_8 (n9 := 0) (by decide +kernel) rfl ⟨(Nat.le_of_ble_eq_true rfl), (Nat.le_of_ble_eq_true rfl)⟩ hl.1 rfl (Nat.le_of_ble_eq_true rfl) d_L_law_415 (Nat.le_of_ble_eq_true rfl) (Nat.le_of_ble_eq_true rfl) ?_
  refine lv_iload hx hb d_L_law_418 (lv_at hl 0 rfl) ?_
  refine lv_icmp_eq (tgt := 425) hx hb d_L_law_420 (by decide) (fun hc420 => ?_) (fun hc => absurd (by decide) hc)
  refine lv_goto (tgt := 993) hx hb d_L_law_425 (by decide) ?_
  exact law_tail C0 hX hbl hr hlk htl (Nat.le_of_ble_eq_true rfl) (Nat.le_of_ble_eq_true rfl) w (lv_sub hl [1, 5] rfl)
set_option maxHeartbeats 4000000 in
set_option maxRecDepth 100000 in
theorem law_case5 {qm : Nat → Nat} {qn : Nat → Nat} {qp : Nat → Nat} {qr3 : Nat → Nat} {o1 : Nat} {o2 : Nat} {q4 : Nat} (C0 : Cx p s m #[Value.ref b] c code 7 "NameForgeLaw" D cI cB cJ) (hX : va_X b 6 xs s s.heap) (hbl : b < s.heap.size) (hr : meth.sig.returnType = ret) (hlk : meth.locks = false) (htl : l.stackTraces = false) (w : Wd D (lA s) s [(o1, .inr (0, fN 0 qn)), ((qn 0), .inr (1, fP 0 qp)), ((qn 5), .inr (6, fA 0 qm)), ((qp 1), .inl (cI, 10, .inl (fun _ => 0))), ((qp 6), .inl (cI, 10, .inl (fun _ => 0))), ((qp 7), .inl (cI, 10, .inl (fun _ => 0))), ((qp 8), .inl (cI, 10, .inl (fun _ => 0))), ((qp 9), .inl (cI, 10, .inl (fun _ => 0))), ((qm 5), .inl (cI, 16, .inl (fun _ => 0))), (o2, .inr (7, fR 0 0 0 0 qr3)), ((qr3 2), .inl (cI, 10, .inl (fun _ => 0))), ((qr3 7), .inl (cI, 10, .inl (fun _ => 0))), ((qr3 33), .inl (cI, 16, .inl (fun _ => 0))), (q4, .inl (cJ, 1, .inr (.inl (fun _ => 0))))] H locs) (hl : lv_has ls 7 [(4, .int 0), (3, .ref q4), (2, .ref o2), (1, .ref o1), (0, .ref b)]) : W p l e room_1 s m #[Value.ref b] below meth c H locs 165 3470 (lw_Z below #[Value.ref b] s) (F0 m 428 ls []) := by
  have hx := C0.1
  have hb := C0.2.1
  have hbA : ¬ lA s b := fun h => absurd hbl (Nat.not_lt.mpr h)
  refine lv_aload_n hx hb d_L_law_428 rfl (lv_at hl 3 rfl) ?_
  refine R_vv C0 w (rest := []) (wr := [((qn 5), .inr (6, fA 0 qm)), ((qp 1), .inl (cI, 10, .inl (fun _ => 0))), ((qp 6), .inl (cI, 10, .inl (fun _ => 0))), ((qp 7), .inl (cI, 10, .inl (fun _ => 0))), ((qp 8), .inl (cI, 10, .inl (fun _ => 0))), ((qp 9), .inl (cI, 10, .inl (fun _ => 0))), ((qm 5), .inl (cI, 16, .inl (fun _ => 0))), (o2, .inr (7, fR 0 0 0 0 qr3)), ((qr3 2), .inl (cI, 10, .inl (fun _ => 0))), ((qr3 7), .inl (cI, 10, .inl (fun _ => 0))), ((qr3 33), .inl (cI, 16, .inl (fun _ => 0))), (q4, .inl (cJ, 1, .inr (.inl (fun _ => 0))))]) (w1 := []) 0 rfl rfl [0, 1] [2, 3, 4, 5, 6, 7, 8, 9, 10, 11, 12, 13] (c_N_clear l D cI cB cJ o1 qn qp) rfl rfl rfl rfl (by decide) wd_364 wd_361 wd_362 wd_363 wd_1 (n9 := 0) (by decide +kernel) rfl ⟨(Nat.le_of_ble_eq_true rfl), (Nat.le_of_ble_eq_true rfl)⟩ hl.1 rfl (Nat.le_of_ble_eq_true rfl) d_L_law_429 (Nat.le_of_ble_eq_true rfl) (Nat.le_of_ble_eq_true rfl) (fun H locs w => ?_)
  have w : Wd D (lA s) s [((qn 5), .inr (6, fA 0 qm)), ((qp 1), .inl (cI, 10, .inl (fun _ => 0))), ((qp 6), .inl (cI, 10, .inl (fun _ => 0))), ((qp 7), .inl (cI, 10, .inl (fun _ => 0))), ((qp 8), .inl (cI, 10, .inl (fun _ => 0))), ((qp 9), .inl (cI, 10, .inl (fun _ => 0))), ((qm 5), .inl (cI, 16, .inl (fun _ => 0))), (o2, .inr (7, fR 0 0 0 0 qr3)), ((qr3 2), .inl (cI, 10, .inl (fun _ => 0))), ((qr3 7), .inl (cI, 10, .inl (fun _ => 0))), ((qr3 33), .inl (cI, 16, .inl (fun _ => 0))), (q4, .inl (cJ, 1, .inr (.inl (fun _ => 0))))] H _ := w
  refine lv_aload_n hx hb d_L_law_432 rfl (lv_at hl 2 rfl) ?_
  refine R_vv C0 w (rest := []) (wr := [((qn 5), .inr (6, fA 0 qm)), ((qp 1), .inl (cI, 10, .inl (fun _ => 0))), ((qp 6), .inl (cI, 10, .inl (fun _ => 0))), ((qp 7), .inl (cI, 10, .inl (fun _ => 0))), ((qp 8), .inl (cI, 10, .inl (fun _ => 0))), ((qp 9), .inl (cI, 10, .inl (fun _ => 0))), ((qm 5), .inl (cI, 16, .inl (fun _ => 0))), ((qr3 2), .inl (cI, 10, .inl (fun _ => 0))), ((qr3 7), .inl (cI, 10, .inl (fun _ => 0))), ((qr3 33), .inl (cI, 16, .inl (fun _ => 0))), (q4, .inl (cJ, 1, .inr (.inl (fun _ => 0))))]) (w1 := [(o2, .inr (7, fR 0 0 0 0 qr3))]) 7 rfl rfl [7] [0, 1, 2, 3, 4, 5, 6, 8, 9, 10, 11] (c_R_clear l D cI cB cJ o2 qr3) rfl rfl rfl rfl (by decide) wd_1003 wd_1000 wd_1001 wd_1002 wd_8 (n9 := 0) (by decide +kernel) rfl ⟨(Nat.le_of_ble_eq_true rfl), (Nat.le_of_ble_eq_true rfl)⟩ hl.1 rfl (Nat.le_of_ble_eq_true rfl) d_L_law_433 (Nat.le_of_ble_eq_true rfl) (Nat.le_of_ble_eq_true rfl) (fun H locs w => ?_)
  have w : Wd D (lA s) s [((qn 5), .inr (6, fA 0 qm)), ((qp 1), .inl (cI, 10, .inl (fun _ => 0))), ((qp 6), .inl (cI, 10, .inl (fun _ => 0))), ((qp 7), .inl (cI, 10, .inl (fun _ => 0))), ((qp 8), .inl (cI, 10, .inl (fun _ => 0))), ((qp 9), .inl (cI, 10, .inl (fun _ => 0))), ((qm 5), .inl (cI, 16, .inl (fun _ => 0))), ((qr3 2), .inl (cI, 10, .inl (fun _ => 0))), ((qr3 7), .inl (cI, 10, .inl (fun _ => 0))), ((qr3 33), .inl (cI, 16, .inl (fun _ => 0))), (q4, .inl (cJ, 1, .inr (.inl (fun _ => 0)))), (o2, .inr (7, fR 0 0 0 0 qr3))] H _ := w
  refine lv_goto (tgt := 993) hx hb d_L_law_436 (by decide) ?_
  exact law_tail C0 hX hbl hr hlk htl (Nat.le_of_ble_eq_true rfl) (Nat.le_of_ble_eq_true rfl) w (lv_sub hl [0, 4] rfl)
set_option maxHeartbeats 4000000 in
set_option maxRecDepth 100000 in
theorem law_case6 {qm : Nat → Nat} {qn : Nat → Nat} {qp : Nat → Nat} {qr3 : Nat → Nat} {o1 : Nat} {o2 : Nat} {q4 : Nat} (C0 : Cx p s m #[Value.ref b] c code 7 "NameForgeLaw" D cI cB cJ) (hX : va_X b 6 xs s s.heap) (hbl : b < s.heap.size) (hr : meth.sig.returnType = ret) (hlk : meth.locks = false) (htl : l.stackTraces = false) (w : Wd D (lA s) s [(o1, .inr (0, fN 0 qn)), ((qn 0), .inr (1, fP 0 qp)), ((qn 5), .inr (6, fA 0 qm)), ((qp 1), .inl (cI, 10, .inl (fun _ => 0))), ((qp 6), .inl (cI, 10, .inl (fun _ => 0))), ((qp 7), .inl (cI, 10, .inl (fun _ => 0))), ((qp 8), .inl (cI, 10, .inl (fun _ => 0))), ((qp 9), .inl (cI, 10, .inl (fun _ => 0))), ((qm 5), .inl (cI, 16, .inl (fun _ => 0))), (o2, .inr (7, fR 0 0 0 0 qr3)), ((qr3 2), .inl (cI, 10, .inl (fun _ => 0))), ((qr3 7), .inl (cI, 10, .inl (fun _ => 0))), ((qr3 33), .inl (cI, 16, .inl (fun _ => 0))), (q4, .inl (cJ, 1, .inr (.inl (fun _ => 0))))] H locs) (hl : lv_has ls 7 [(4, .int 0), (3, .ref q4), (2, .ref o2), (1, .ref o1), (0, .ref b)]) : W p l e room_1 s m #[Value.ref b] below meth c H locs 165 3470 (lw_Z below #[Value.ref b] s) (F0 m 439 ls []) := by
  have hx := C0.1
  have hb := C0.2.1
  have hbA : ¬ lA s b := fun h => absurd hbl (Nat.not_lt.mpr h)
  refine lv_aload_n hx hb d_L_law_439 rfl (lv_at hl 3 rfl) ?_
  refine lv_aload_n hx hb d_L_law_440 rfl (lv_at hl 1 rfl) ?_
  refine R_sh C0 w (rest := []) (wr := [((qn 5), .inr (6, fA 0 qm)), ((qp 1), .inl (cI, 10, .inl (fun _ => 0))), ((qp 6), .inl (cI, 10, .inl (fun _ => 0))), ((qp 7), .inl (cI, 10, .inl (fun _ => 0))), ((qp 8), .inl (cI, 10, .inl (fun _ => 0))), ((qp 9), .inl (cI, 10, .inl (fun _ => 0))), ((qm 5), .inl (cI, 16, .inl (fun _ => 0))), (o2, .inr (7, fR 0 0 0 0 qr3)), ((qr3 2), .inl (cI, 10, .inl (fun _ => 0))), ((qr3 7), .inl (cI, 10, .inl (fun _ => 0))), ((qr3 33), .inl (cI, 16, .inl (fun _ => 0))), (q4, .inl (cJ, 1, .inr (.inl (fun _ => 0))))]) (w1 := []) [0, 1] [2, 3, 4, 5, 6, 7, 8, 9, 10, 11, 12, 13] (c_L_build l D cI cB cJ o1 qn qp q4 htl) rfl rfl rfl rfl (by decide) wd_549 wd_547 wd_548 wd_0 (n9 := 2) (by decide +kernel) rfl ⟨(Nat.le_of_ble_eq_true rfl), (Nat.le_of_ble_eq_true rfl)⟩ hl.1 rfl (Nat.le_of_ble_eq_true rfl) d_L_law_441 (Nat.le_of_ble_eq_true rfl) (Nat.le_of_ble_eq_true rfl) (fun H locs w => ?_)
  refine W.cs (cells' := 166) (slots' := 3476) rfl rfl ?_
  have w : Wd D (lA s) s [((qn 5), .inr (6, fA 0 qm)), ((qp 1), .inl (cI, 10, .inl (fun _ => 0))), ((qp 6), .inl (cI, 10, .inl (fun _ => 0))), ((qp 7), .inl (cI, 10, .inl (fun _ => 0))), ((qp 8), .inl (cI, 10, .inl (fun _ => 0))), ((qp 9), .inl (cI, 10, .inl (fun _ => 0))), ((qm 5), .inl (cI, 16, .inl (fun _ => 0))), (o2, .inr (7, fR 0 0 0 0 qr3)), ((qr3 2), .inl (cI, 10, .inl (fun _ => 0))), ((qr3 7), .inl (cI, 10, .inl (fun _ => 0))), ((qr3 33), .inl (cI, 16, .inl (fun _ => 0))), (q4, .inl (cJ, 1, .inr (.inl (fun _ => 0))))] H _ := w
  refine lv_istore hx hb d_L_law_444 hl (by decide) rfl (fun ls hl => ?_)
  have hl : lv_has ls 7 [(5, .int 1), (4, .int 0), (3, .ref q4), (2, .ref o2), (1, .ref o1), (0, .ref b)] := hl
  refine lv_aload_n hx hb d_L_law_446 rfl (lv_at hl 3 rfl) ?_
  refine R_vi C0 w (rest := []) (wr := [((qn 5), .inr (6, fA 0 qm)), ((qp 1), .inl (cI, 10, .inl (fun _ => 0))), ((qp 6), .inl (cI, 10, .inl (fun _ => 0))), ((qp 7), .inl (cI, 10, .inl (fun _ => 0))), ((qp 8), .inl (cI, 10, .inl (fun _ => 0))), ((qp 9), .inl (cI, 10, .inl (fun _ => 0))), ((qm 5), .inl (cI, 16, .inl (fun _ => 0))), ((qr3 2), .inl (cI, 10, .inl (fun _ => 0))), ((qr3 7), .inl (cI, 10, .inl (fun _ => 0))), ((qr3 33), .inl (cI, 16, .inl (fun _ => 0))), (q4, .inl (cJ, 1, .inr (.inl (fun _ => 0))))]) (w1 := [(o2, .inr (7, fR 1 0 0 0 qr3))]) 7 rfl rfl [7] [0, 1, 2, 3, 4, 5, 6, 8, 9, 10, 11] (c_R_build l D cI cB cJ o2 qr3) rfl rfl rfl rfl (by decide) wd_1007 wd_1004 wd_1005 wd_1006 wd_8 (n9 := 0) (by decide +kernel) rfl ⟨(Nat.le_of_ble_eq_true rfl), (Nat.le_of_ble_eq_true rfl)⟩ hl.1 rfl (Nat.le_of_ble_eq_true rfl) d_L_law_447 (Nat.le_of_ble_eq_true rfl) (Nat.le_of_ble_eq_true rfl) (fun H locs w => ?_)
  have w : Wd D (lA s) s [((qn 5), .inr (6, fA 0 qm)), ((qp 1), .inl (cI, 10, .inl (fun _ => 0))), ((qp 6), .inl (cI, 10, .inl (fun _ => 0))), ((qp 7), .inl (cI, 10, .inl (fun _ => 0))), ((qp 8), .inl (cI, 10, .inl (fun _ => 0))), ((qp 9), .inl (cI, 10, .inl (fun _ => 0))), ((qm 5), .inl (cI, 16, .inl (fun _ => 0))), ((qr3 2), .inl (cI, 10, .inl (fun _ => 0))), ((qr3 7), .inl (cI, 10, .inl (fun _ => 0))), ((qr3 33), .inl (cI, 16, .inl (fun _ => 0))), (q4, .inl (cJ, 1, .inr (.inl (fun _ => 0)))), (o2, .inr (7, fR 1 0 0 0 qr3))] H _ := w
  refine lv_istore hx hb d_L_law_450 hl (by decide) rfl (fun ls hl => ?_)
  have hl : lv_has ls 7 [(6, .int 0), (5, .int 1), (4, .int 0), (3, .ref q4), (2, .ref o2), (1, .ref o1), (0, .ref b)] := hl
  refine lv_aload_n hx hb d_L_law_452 rfl (lv_at hl 4 rfl) ?_
  refine R_ri C0 w (rest := []) 11 rfl rfl [11] (c_thrown l D cI cB cJ o2 qr3 1 0 0 0) rfl rfl wd_955 wd_952 wd_953 wd_954 wd_8 (n9 := 0) (by decide +kernel) rfl ⟨(Nat.le_of_ble_eq_true rfl), (Nat.le_of_ble_eq_true rfl)⟩ hl.1 rfl (Nat.le_of_ble_eq_true rfl) d_L_law_453 (Nat.le_of_ble_eq_true rfl) (Nat.le_of_ble_eq_true rfl) ?_
  refine lv_iload hx hb d_L_law_456 (lv_at hl 1 rfl) ?_
  refine lv_icmp_eq (tgt := 463) hx hb d_L_law_458 (by decide) (fun hc458 => ?_) (fun hc => absurd (by decide) hc)
  refine lv_iload hx hb d_L_law_463 (lv_at hl 1 rfl) ?_
  refine lv_if_ne (tgt := 480) hx hb d_L_law_465 (by decide) (fun hc465 => ?_) (fun hc => absurd hc (by decide))
  refine lv_goto (tgt := 993) hx hb d_L_law_480 (by decide) ?_
  exact law_tail C0 hX hbl hr hlk htl (Nat.le_of_ble_eq_true rfl) (Nat.le_of_ble_eq_true rfl) w (lv_sub hl [2, 6] rfl)
set_option maxHeartbeats 4000000 in
set_option maxRecDepth 100000 in
theorem law_case7 {qm : Nat → Nat} {qn : Nat → Nat} {qp : Nat → Nat} {qr3 : Nat → Nat} {o1 : Nat} {o2 : Nat} {q4 : Nat} (C0 : Cx p s m #[Value.ref b] c code 7 "NameForgeLaw" D cI cB cJ) (hX : va_X b 6 xs s s.heap) (hbl : b < s.heap.size) (hr : meth.sig.returnType = ret) (hlk : meth.locks = false) (htl : l.stackTraces = false) (w : Wd D (lA s) s [(o1, .inr (0, fN 0 qn)), ((qn 0), .inr (1, fP 0 qp)), ((qn 5), .inr (6, fA 0 qm)), ((qp 1), .inl (cI, 10, .inl (fun _ => 0))), ((qp 6), .inl (cI, 10, .inl (fun _ => 0))), ((qp 7), .inl (cI, 10, .inl (fun _ => 0))), ((qp 8), .inl (cI, 10, .inl (fun _ => 0))), ((qp 9), .inl (cI, 10, .inl (fun _ => 0))), ((qm 5), .inl (cI, 16, .inl (fun _ => 0))), (o2, .inr (7, fR 0 0 0 0 qr3)), ((qr3 2), .inl (cI, 10, .inl (fun _ => 0))), ((qr3 7), .inl (cI, 10, .inl (fun _ => 0))), ((qr3 33), .inl (cI, 16, .inl (fun _ => 0))), (q4, .inl (cJ, 1, .inr (.inl (fun _ => 0))))] H locs) (hl : lv_has ls 7 [(4, .int 0), (3, .ref q4), (2, .ref o2), (1, .ref o1), (0, .ref b)]) : W p l e room_1 s m #[Value.ref b] below meth c H locs 165 3470 (lw_Z below #[Value.ref b] s) (F0 m 483 ls []) := by
  have hx := C0.1
  have hb := C0.2.1
  have hbA : ¬ lA s b := fun h => absurd hbl (Nat.not_lt.mpr h)
  refine lv_aload_n hx hb d_L_law_483 rfl (lv_at hl 3 rfl) ?_
  refine lv_aload_n hx hb d_L_law_484 rfl (lv_at hl 4 rfl) ?_
  refine lv_iload hx hb d_L_law_485 (lv_at hl 0 rfl) ?_
  refine lv_iconst (v := 1) hx hb d_L_law_487 (by decide) ?_
  refine lv_iadd hx hb d_L_law_488 ?_
  refine lv_cst (x := 0 + 1) (y := 1) (by decide) ?_
  refine va_sld hx hb hX hbl hbA w.2.2.1 (vin (by decide)) d_L_law_489 ?_
  refine lv_aload_n hx hb d_L_law_490 rfl (lv_at hl 4 rfl) ?_
  refine lv_iload hx hb d_L_law_491 (lv_at hl 0 rfl) ?_
  refine lv_iconst (v := 2) hx hb d_L_law_493 (by decide) ?_
  refine lv_iadd hx hb d_L_law_494 ?_
  refine lv_cst (x := 0 + 2) (y := 2) (by decide) ?_
  refine va_sld hx hb hX hbl hbA w.2.2.1 (vin (by decide)) d_L_law_495 ?_
  refine lv_aload_n hx hb d_L_law_496 rfl (lv_at hl 1 rfl) ?_
  refine R_sh C0 w (rest := []) (wr := [((qn 5), .inr (6, fA 0 qm)), ((qp 1), .inl (cI, 10, .inl (fun _ => 0))), ((qp 6), .inl (cI, 10, .inl (fun _ => 0))), ((qp 7), .inl (cI, 10, .inl (fun _ => 0))), ((qp 8), .inl (cI, 10, .inl (fun _ => 0))), ((qp 9), .inl (cI, 10, .inl (fun _ => 0))), ((qm 5), .inl (cI, 16, .inl (fun _ => 0))), (o2, .inr (7, fR 0 0 0 0 qr3)), ((qr3 2), .inl (cI, 10, .inl (fun _ => 0))), ((qr3 7), .inl (cI, 10, .inl (fun _ => 0))), ((qr3 33), .inl (cI, 16, .inl (fun _ => 0))), (q4, .inl (cJ, 1, .inr (.inl (fun _ => 0))))]) (w1 := []) [0, 1] [2, 3, 4, 5, 6, 7, 8, 9, 10, 11, 12, 13] (c_L_look l D cI cB cJ o1 qn qp (xs (1 : Int32).toNatClampNeg) (xs (2 : Int32).toNatClampNeg) q4 htl) rfl rfl rfl rfl (by decide) wd_690 wd_688 wd_689 wd_0 (n9 := 4) (by decide +kernel) rfl ⟨(Nat.le_of_ble_eq_true rfl), (Nat.le_of_ble_eq_true rfl)⟩ hl.1 rfl (Nat.le_of_ble_eq_true rfl) d_L_law_497 (Nat.le_of_ble_eq_true rfl) (Nat.le_of_ble_eq_true rfl) (fun H locs w => ?_)
  refine W.cs (cells' := 166) (slots' := 3476) rfl rfl ?_
  have w : Wd D (lA s) s [((qn 5), .inr (6, fA 0 qm)), ((qp 1), .inl (cI, 10, .inl (fun _ => 0))), ((qp 6), .inl (cI, 10, .inl (fun _ => 0))), ((qp 7), .inl (cI, 10, .inl (fun _ => 0))), ((qp 8), .inl (cI, 10, .inl (fun _ => 0))), ((qp 9), .inl (cI, 10, .inl (fun _ => 0))), ((qm 5), .inl (cI, 16, .inl (fun _ => 0))), (o2, .inr (7, fR 0 0 0 0 qr3)), ((qr3 2), .inl (cI, 10, .inl (fun _ => 0))), ((qr3 7), .inl (cI, 10, .inl (fun _ => 0))), ((qr3 33), .inl (cI, 16, .inl (fun _ => 0))), (q4, .inl (cJ, 1, .inr (.inl (fun _ => 0))))] H _ := w
  refine lv_istore hx hb d_L_law_500 hl (by decide) rfl (fun ls hl => ?_)
  have hl : lv_has ls 7 [(5, .int 1), (4, .int 0), (3, .ref q4), (2, .ref o2), (1, .ref o1), (0, .ref b)] := hl
  refine lv_aload_n hx hb d_L_law_502 rfl (lv_at hl 3 rfl) ?_
  refine lv_aload_n hx hb d_L_law_503 rfl (lv_at hl 5 rfl) ?_
  refine lv_iload hx hb d_L_law_504 (lv_at hl 1 rfl) ?_
  refine lv_iconst (v := 1) hx hb d_L_law_506 (by decide) ?_
  refine lv_iadd hx hb d_L_law_507 ?_
  refine lv_cst (x := 0 + 1) (y := 1) (by decide) ?_
  refine va_sld hx hb hX hbl hbA w.2.2.1 (vin (by decide)) d_L_law_508 ?_
  refine lv_aload_n hx hb d_L_law_509 rfl (lv_at hl 5 rfl) ?_
  refine lv_iload hx hb d_L_law_510 (lv_at hl 1 rfl) ?_
  refine lv_iconst (v := 2) hx hb d_L_law_512 (by decide) ?_
  refine lv_iadd hx hb d_L_law_513 ?_
  refine lv_cst (x := 0 + 2) (y := 2) (by decide) ?_
  refine va_sld hx hb hX hbl hbA w.2.2.1 (vin (by decide)) d_L_law_514 ?_
  refine R_vi C0 w (rest := []) (wr := [((qn 5), .inr (6, fA 0 qm)), ((qp 1), .inl (cI, 10, .inl (fun _ => 0))), ((qp 6), .inl (cI, 10, .inl (fun _ => 0))), ((qp 7), .inl (cI, 10, .inl (fun _ => 0))), ((qp 8), .inl (cI, 10, .inl (fun _ => 0))), ((qp 9), .inl (cI, 10, .inl (fun _ => 0))), ((qm 5), .inl (cI, 16, .inl (fun _ => 0))), ((qr3 2), .inl (cI, 10, .inl (fun _ => 0))), ((qr3 7), .inl (cI, 10, .inl (fun _ => 0))), ((qr3 33), .inl (cI, 16, .inl (fun _ => 0))), (q4, .inl (cJ, 1, .inr (.inl (fun _ => 0))))]) (w1 := [(o2, .inr (7, fR 1 0 0 0 qr3))]) 7 rfl rfl [7] [0, 1, 2, 3, 4, 5, 6, 8, 9, 10, 11] (c_R_look l D cI cB cJ o2 qr3 (xs (1 : Int32).toNatClampNeg) (xs (2 : Int32).toNatClampNeg)) rfl rfl rfl rfl (by decide) wd_1093 wd_1090 wd_1091 wd_1092 wd_8 (n9 := 2) (by decide +kernel) rfl ⟨(Nat.le_of_ble_eq_true rfl), (Nat.le_of_ble_eq_true rfl)⟩ hl.1 rfl (Nat.le_of_ble_eq_true rfl) d_L_law_515 (Nat.le_of_ble_eq_true rfl) (Nat.le_of_ble_eq_true rfl) (fun H locs w => ?_)
  have w : Wd D (lA s) s [((qn 5), .inr (6, fA 0 qm)), ((qp 1), .inl (cI, 10, .inl (fun _ => 0))), ((qp 6), .inl (cI, 10, .inl (fun _ => 0))), ((qp 7), .inl (cI, 10, .inl (fun _ => 0))), ((qp 8), .inl (cI, 10, .inl (fun _ => 0))), ((qp 9), .inl (cI, 10, .inl (fun _ => 0))), ((qm 5), .inl (cI, 16, .inl (fun _ => 0))), ((qr3 2), .inl (cI, 10, .inl (fun _ => 0))), ((qr3 7), .inl (cI, 10, .inl (fun _ => 0))), ((qr3 33), .inl (cI, 16, .inl (fun _ => 0))), (q4, .inl (cJ, 1, .inr (.inl (fun _ => 0)))), (o2, .inr (7, fR 1 0 0 0 qr3))] H _ := w
  refine lv_istore hx hb d_L_law_518 hl (by decide) rfl (fun ls hl => ?_)
  have hl : lv_has ls 7 [(6, .int 0), (5, .int 1), (4, .int 0), (3, .ref q4), (2, .ref o2), (1, .ref o1), (0, .ref b)] := hl
  refine lv_aload_n hx hb d_L_law_520 rfl (lv_at hl 4 rfl) ?_
  refine R_ri C0 w (rest := []) 11 rfl rfl [11] (c_thrown l D cI cB cJ o2 qr3 1 0 0 0) rfl rfl wd_955 wd_952 wd_953 wd_954 wd_8 (n9 := 0) (by decide +kernel) rfl ⟨(Nat.le_of_ble_eq_true rfl), (Nat.le_of_ble_eq_true rfl)⟩ hl.1 rfl (Nat.le_of_ble_eq_true rfl) d_L_law_521 (Nat.le_of_ble_eq_true rfl) (Nat.le_of_ble_eq_true rfl) ?_
  refine lv_iload hx hb d_L_law_524 (lv_at hl 1 rfl) ?_
  refine lv_icmp_eq (tgt := 531) hx hb d_L_law_526 (by decide) (fun hc526 => ?_) (fun hc => absurd (by decide) hc)
  refine lv_iload hx hb d_L_law_531 (lv_at hl 1 rfl) ?_
  refine lv_if_ne (tgt := 548) hx hb d_L_law_533 (by decide) (fun hc533 => ?_) (fun hc => absurd hc (by decide))
  refine lv_goto (tgt := 993) hx hb d_L_law_548 (by decide) ?_
  exact law_tail C0 hX hbl hr hlk htl (Nat.le_of_ble_eq_true rfl) (Nat.le_of_ble_eq_true rfl) w (lv_sub hl [2, 6] rfl)
set_option maxHeartbeats 4000000 in
set_option maxRecDepth 100000 in
theorem law_case8 {qm : Nat → Nat} {qn : Nat → Nat} {qp : Nat → Nat} {qr3 : Nat → Nat} {o1 : Nat} {o2 : Nat} {q4 : Nat} (C0 : Cx p s m #[Value.ref b] c code 7 "NameForgeLaw" D cI cB cJ) (hX : va_X b 6 xs s s.heap) (hbl : b < s.heap.size) (hr : meth.sig.returnType = ret) (hlk : meth.locks = false) (htl : l.stackTraces = false) (w : Wd D (lA s) s [(o1, .inr (0, fN 0 qn)), ((qn 0), .inr (1, fP 0 qp)), ((qn 5), .inr (6, fA 0 qm)), ((qp 1), .inl (cI, 10, .inl (fun _ => 0))), ((qp 6), .inl (cI, 10, .inl (fun _ => 0))), ((qp 7), .inl (cI, 10, .inl (fun _ => 0))), ((qp 8), .inl (cI, 10, .inl (fun _ => 0))), ((qp 9), .inl (cI, 10, .inl (fun _ => 0))), ((qm 5), .inl (cI, 16, .inl (fun _ => 0))), (o2, .inr (7, fR 0 0 0 0 qr3)), ((qr3 2), .inl (cI, 10, .inl (fun _ => 0))), ((qr3 7), .inl (cI, 10, .inl (fun _ => 0))), ((qr3 33), .inl (cI, 16, .inl (fun _ => 0))), (q4, .inl (cJ, 1, .inr (.inl (fun _ => 0))))] H locs) (hl : lv_has ls 7 [(4, .int 0), (3, .ref q4), (2, .ref o2), (1, .ref o1), (0, .ref b)]) : W p l e room_1 s m #[Value.ref b] below meth c H locs 165 3470 (lw_Z below #[Value.ref b] s) (F0 m 551 ls []) := by
  have hx := C0.1
  have hb := C0.2.1
  have hbA : ¬ lA s b := fun h => absurd hbl (Nat.not_lt.mpr h)
  refine lv_aload_n hx hb d_L_law_551 rfl (lv_at hl 3 rfl) ?_
  refine lv_aload_n hx hb d_L_law_552 rfl (lv_at hl 4 rfl) ?_
  refine lv_iload hx hb d_L_law_553 (lv_at hl 0 rfl) ?_
  refine lv_iconst (v := 1) hx hb d_L_law_555 (by decide) ?_
  refine lv_iadd hx hb d_L_law_556 ?_
  refine lv_cst (x := 0 + 1) (y := 1) (by decide) ?_
  refine va_sld hx hb hX hbl hbA w.2.2.1 (vin (by decide)) d_L_law_557 ?_
  refine lv_aload_n hx hb d_L_law_558 rfl (lv_at hl 4 rfl) ?_
  refine lv_iload hx hb d_L_law_559 (lv_at hl 0 rfl) ?_
  refine lv_iconst (v := 2) hx hb d_L_law_561 (by decide) ?_
  refine lv_iadd hx hb d_L_law_562 ?_
  refine lv_cst (x := 0 + 2) (y := 2) (by decide) ?_
  refine va_sld hx hb hX hbl hbA w.2.2.1 (vin (by decide)) d_L_law_563 ?_
  refine lv_aload_n hx hb d_L_law_564 rfl (lv_at hl 4 rfl) ?_
  refine lv_iload hx hb d_L_law_565 (lv_at hl 0 rfl) ?_
  refine lv_iconst (v := 3) hx hb d_L_law_567 (by decide) ?_
  refine lv_iadd hx hb d_L_law_568 ?_
  refine lv_cst (x := 0 + 3) (y := 3) (by decide) ?_
  refine va_sld hx hb hX hbl hbA w.2.2.1 (vin (by decide)) d_L_law_569 ?_
  refine lv_aload_n hx hb d_L_law_570 rfl (lv_at hl 1 rfl) ?_
  refine R_sh C0 w (rest := []) (wr := [((qn 0), .inr (1, fP 0 qp)), ((qn 5), .inr (6, fA 0 qm)), ((qp 1), .inl (cI, 10, .inl (fun _ => 0))), ((qp 6), .inl (cI, 10, .inl (fun _ => 0))), ((qp 7), .inl (cI, 10, .inl (fun _ => 0))), ((qp 8), .inl (cI, 10, .inl (fun _ => 0))), ((qp 9), .inl (cI, 10, .inl (fun _ => 0))), ((qm 5), .inl (cI, 16, .inl (fun _ => 0))), (o2, .inr (7, fR 0 0 0 0 qr3)), ((qr3 2), .inl (cI, 10, .inl (fun _ => 0))), ((qr3 7), .inl (cI, 10, .inl (fun _ => 0))), ((qr3 33), .inl (cI, 16, .inl (fun _ => 0))), (q4, .inl (cJ, 1, .inr (.inl (fun _ => 0))))]) (w1 := []) [0] [1, 2, 3, 4, 5, 6, 7, 8, 9, 10, 11, 12, 13] (c_L_phi l D cI cB cJ o1 qn (xs (1 : Int32).toNatClampNeg) (xs (2 : Int32).toNatClampNeg) (xs (3 : Int32).toNatClampNeg) q4 htl) rfl rfl rfl rfl (by decide) wd_722 wd_720 wd_721 wd_0 (n9 := 5) (by decide +kernel) rfl ⟨(Nat.le_of_ble_eq_true rfl), (Nat.le_of_ble_eq_true rfl)⟩ hl.1 rfl (Nat.le_of_ble_eq_true rfl) d_L_law_571 (Nat.le_of_ble_eq_true rfl) (Nat.le_of_ble_eq_true rfl) (fun H locs w => ?_)
  refine W.cs (cells' := 166) (slots' := 3476) rfl rfl ?_
  have w : Wd D (lA s) s [((qn 0), .inr (1, fP 0 qp)), ((qn 5), .inr (6, fA 0 qm)), ((qp 1), .inl (cI, 10, .inl (fun _ => 0))), ((qp 6), .inl (cI, 10, .inl (fun _ => 0))), ((qp 7), .inl (cI, 10, .inl (fun _ => 0))), ((qp 8), .inl (cI, 10, .inl (fun _ => 0))), ((qp 9), .inl (cI, 10, .inl (fun _ => 0))), ((qm 5), .inl (cI, 16, .inl (fun _ => 0))), (o2, .inr (7, fR 0 0 0 0 qr3)), ((qr3 2), .inl (cI, 10, .inl (fun _ => 0))), ((qr3 7), .inl (cI, 10, .inl (fun _ => 0))), ((qr3 33), .inl (cI, 16, .inl (fun _ => 0))), (q4, .inl (cJ, 1, .inr (.inl (fun _ => 0))))] H _ := w
  refine lv_istore hx hb d_L_law_574 hl (by decide) rfl (fun ls hl => ?_)
  have hl : lv_has ls 7 [(5, .int 2), (4, .int 0), (3, .ref q4), (2, .ref o2), (1, .ref o1), (0, .ref b)] := hl
  refine lv_aload_n hx hb d_L_law_576 rfl (lv_at hl 3 rfl) ?_
  refine lv_aload_n hx hb d_L_law_577 rfl (lv_at hl 5 rfl) ?_
  refine lv_iload hx hb d_L_law_578 (lv_at hl 1 rfl) ?_
  refine lv_iconst (v := 1) hx hb d_L_law_580 (by decide) ?_
  refine lv_iadd hx hb d_L_law_581 ?_
  refine lv_cst (x := 0 + 1) (y := 1) (by decide) ?_
  refine va_sld hx hb hX hbl hbA w.2.2.1 (vin (by decide)) d_L_law_582 ?_
  refine lv_aload_n hx hb d_L_law_583 rfl (lv_at hl 5 rfl) ?_
  refine lv_iload hx hb d_L_law_584 (lv_at hl 1 rfl) ?_
  refine lv_iconst (v := 2) hx hb d_L_law_586 (by decide) ?_
  refine lv_iadd hx hb d_L_law_587 ?_
  refine lv_cst (x := 0 + 2) (y := 2) (by decide) ?_
  refine va_sld hx hb hX hbl hbA w.2.2.1 (vin (by decide)) d_L_law_588 ?_
  refine lv_aload_n hx hb d_L_law_589 rfl (lv_at hl 5 rfl) ?_
  refine lv_iload hx hb d_L_law_590 (lv_at hl 1 rfl) ?_
  refine lv_iconst (v := 3) hx hb d_L_law_592 (by decide) ?_
  refine lv_iadd hx hb d_L_law_593 ?_
  refine lv_cst (x := 0 + 3) (y := 3) (by decide) ?_
  refine va_sld hx hb hX hbl hbA w.2.2.1 (vin (by decide)) d_L_law_594 ?_
  refine R_vi C0 w (rest := []) (wr := [((qn 0), .inr (1, fP 0 qp)), ((qn 5), .inr (6, fA 0 qm)), ((qp 1), .inl (cI, 10, .inl (fun _ => 0))), ((qp 6), .inl (cI, 10, .inl (fun _ => 0))), ((qp 7), .inl (cI, 10, .inl (fun _ => 0))), ((qp 8), .inl (cI, 10, .inl (fun _ => 0))), ((qp 9), .inl (cI, 10, .inl (fun _ => 0))), ((qm 5), .inl (cI, 16, .inl (fun _ => 0))), ((qr3 2), .inl (cI, 10, .inl (fun _ => 0))), ((qr3 7), .inl (cI, 10, .inl (fun _ => 0))), ((qr3 33), .inl (cI, 16, .inl (fun _ => 0))), (q4, .inl (cJ, 1, .inr (.inl (fun _ => 0))))]) (w1 := [(o2, .inr (7, fR 2 0 0 0 qr3))]) 8 rfl rfl [8] [0, 1, 2, 3, 4, 5, 6, 7, 9, 10, 11, 12] (c_R_phi l D cI cB cJ o2 qr3 (xs (1 : Int32).toNatClampNeg) (xs (2 : Int32).toNatClampNeg) (xs (3 : Int32).toNatClampNeg)) rfl rfl rfl rfl (by decide) wd_1097 wd_1094 wd_1095 wd_1096 wd_8 (n9 := 3) (by decide +kernel) rfl ⟨(Nat.le_of_ble_eq_true rfl), (Nat.le_of_ble_eq_true rfl)⟩ hl.1 rfl (Nat.le_of_ble_eq_true rfl) d_L_law_595 (Nat.le_of_ble_eq_true rfl) (Nat.le_of_ble_eq_true rfl) (fun H locs w => ?_)
  have w : Wd D (lA s) s [((qn 0), .inr (1, fP 0 qp)), ((qn 5), .inr (6, fA 0 qm)), ((qp 1), .inl (cI, 10, .inl (fun _ => 0))), ((qp 6), .inl (cI, 10, .inl (fun _ => 0))), ((qp 7), .inl (cI, 10, .inl (fun _ => 0))), ((qp 8), .inl (cI, 10, .inl (fun _ => 0))), ((qp 9), .inl (cI, 10, .inl (fun _ => 0))), ((qm 5), .inl (cI, 16, .inl (fun _ => 0))), ((qr3 2), .inl (cI, 10, .inl (fun _ => 0))), ((qr3 7), .inl (cI, 10, .inl (fun _ => 0))), ((qr3 33), .inl (cI, 16, .inl (fun _ => 0))), (q4, .inl (cJ, 1, .inr (.inl (fun _ => 0)))), (o2, .inr (7, fR 2 0 0 0 qr3))] H _ := w
  refine lv_istore hx hb d_L_law_598 hl (by decide) rfl (fun ls hl => ?_)
  have hl : lv_has ls 7 [(6, .int 0), (5, .int 2), (4, .int 0), (3, .ref q4), (2, .ref o2), (1, .ref o1), (0, .ref b)] := hl
  refine lv_aload_n hx hb d_L_law_600 rfl (lv_at hl 4 rfl) ?_
  refine R_ri C0 w (rest := []) 12 rfl rfl [12] (c_thrown l D cI cB cJ o2 qr3 2 0 0 0) rfl rfl wd_955 wd_952 wd_953 wd_954 wd_8 (n9 := 0) (by decide +kernel) rfl ⟨(Nat.le_of_ble_eq_true rfl), (Nat.le_of_ble_eq_true rfl)⟩ hl.1 rfl (Nat.le_of_ble_eq_true rfl) d_L_law_601 (Nat.le_of_ble_eq_true rfl) (Nat.le_of_ble_eq_true rfl) ?_
  refine lv_iload hx hb d_L_law_604 (lv_at hl 1 rfl) ?_
  refine lv_icmp_eq (tgt := 611) hx hb d_L_law_606 (by decide) (fun hc606 => ?_) (fun hc => absurd (by decide) hc)
  refine lv_iload hx hb d_L_law_611 (lv_at hl 1 rfl) ?_
  refine lv_if_ne (tgt := 628) hx hb d_L_law_613 (by decide) (fun hc613 => ?_) (fun hc => absurd hc (by decide))
  refine lv_goto (tgt := 993) hx hb d_L_law_628 (by decide) ?_
  exact law_tail C0 hX hbl hr hlk htl (Nat.le_of_ble_eq_true rfl) (Nat.le_of_ble_eq_true rfl) w (lv_sub hl [2, 6] rfl)
set_option maxHeartbeats 4000000 in
set_option maxRecDepth 100000 in
theorem law_case9 {qm : Nat → Nat} {qn : Nat → Nat} {qp : Nat → Nat} {qr3 : Nat → Nat} {o1 : Nat} {o2 : Nat} {q4 : Nat} (C0 : Cx p s m #[Value.ref b] c code 7 "NameForgeLaw" D cI cB cJ) (hX : va_X b 6 xs s s.heap) (hbl : b < s.heap.size) (hr : meth.sig.returnType = ret) (hlk : meth.locks = false) (htl : l.stackTraces = false) (w : Wd D (lA s) s [(o1, .inr (0, fN 0 qn)), ((qn 0), .inr (1, fP 0 qp)), ((qn 5), .inr (6, fA 0 qm)), ((qp 1), .inl (cI, 10, .inl (fun _ => 0))), ((qp 6), .inl (cI, 10, .inl (fun _ => 0))), ((qp 7), .inl (cI, 10, .inl (fun _ => 0))), ((qp 8), .inl (cI, 10, .inl (fun _ => 0))), ((qp 9), .inl (cI, 10, .inl (fun _ => 0))), ((qm 5), .inl (cI, 16, .inl (fun _ => 0))), (o2, .inr (7, fR 0 0 0 0 qr3)), ((qr3 2), .inl (cI, 10, .inl (fun _ => 0))), ((qr3 7), .inl (cI, 10, .inl (fun _ => 0))), ((qr3 33), .inl (cI, 16, .inl (fun _ => 0))), (q4, .inl (cJ, 1, .inr (.inl (fun _ => 0))))] H locs) (hl : lv_has ls 7 [(4, .int 0), (3, .ref q4), (2, .ref o2), (1, .ref o1), (0, .ref b)]) : W p l e room_1 s m #[Value.ref b] below meth c H locs 165 3470 (lw_Z below #[Value.ref b] s) (F0 m 631 ls []) := by
  have hx := C0.1
  have hb := C0.2.1
  have hbA : ¬ lA s b := fun h => absurd hbl (Nat.not_lt.mpr h)
  refine lv_aload_n hx hb d_L_law_631 rfl (lv_at hl 3 rfl) ?_
  refine lv_aload_n hx hb d_L_law_632 rfl (lv_at hl 4 rfl) ?_
  refine lv_iload hx hb d_L_law_633 (lv_at hl 0 rfl) ?_
  refine lv_iconst (v := 1) hx hb d_L_law_635 (by decide) ?_
  refine lv_iadd hx hb d_L_law_636 ?_
  refine lv_cst (x := 0 + 1) (y := 1) (by decide) ?_
  refine va_sld hx hb hX hbl hbA w.2.2.1 (vin (by decide)) d_L_law_637 ?_
  refine lv_aload_n hx hb d_L_law_638 rfl (lv_at hl 4 rfl) ?_
  refine lv_iload hx hb d_L_law_639 (lv_at hl 0 rfl) ?_
  refine lv_iconst (v := 2) hx hb d_L_law_641 (by decide) ?_
  refine lv_iadd hx hb d_L_law_642 ?_
  refine lv_cst (x := 0 + 2) (y := 2) (by decide) ?_
  refine va_sld hx hb hX hbl hbA w.2.2.1 (vin (by decide)) d_L_law_643 ?_
  refine lv_aload_n hx hb d_L_law_644 rfl (lv_at hl 4 rfl) ?_
  refine lv_iload hx hb d_L_law_645 (lv_at hl 0 rfl) ?_
  refine lv_iconst (v := 3) hx hb d_L_law_647 (by decide) ?_
  refine lv_iadd hx hb d_L_law_648 ?_
  refine lv_cst (x := 0 + 3) (y := 3) (by decide) ?_
  refine va_sld hx hb hX hbl hbA w.2.2.1 (vin (by decide)) d_L_law_649 ?_
  refine lv_aload_n hx hb d_L_law_650 rfl (lv_at hl 1 rfl) ?_
  refine R_sh C0 w (rest := []) (wr := [((qn 0), .inr (1, fP 0 qp)), ((qn 5), .inr (6, fA 0 qm)), ((qp 1), .inl (cI, 10, .inl (fun _ => 0))), ((qp 6), .inl (cI, 10, .inl (fun _ => 0))), ((qp 7), .inl (cI, 10, .inl (fun _ => 0))), ((qp 8), .inl (cI, 10, .inl (fun _ => 0))), ((qp 9), .inl (cI, 10, .inl (fun _ => 0))), ((qm 5), .inl (cI, 16, .inl (fun _ => 0))), (o2, .inr (7, fR 0 0 0 0 qr3)), ((qr3 2), .inl (cI, 10, .inl (fun _ => 0))), ((qr3 7), .inl (cI, 10, .inl (fun _ => 0))), ((qr3 33), .inl (cI, 16, .inl (fun _ => 0))), (q4, .inl (cJ, 1, .inr (.inl (fun _ => 0))))]) (w1 := []) [0] [1, 2, 3, 4, 5, 6, 7, 8, 9, 10, 11, 12, 13] (c_L_uses l D cI cB cJ o1 qn (xs (1 : Int32).toNatClampNeg) (xs (2 : Int32).toNatClampNeg) (xs (3 : Int32).toNatClampNeg) q4 htl) rfl rfl rfl rfl (by decide) wd_738 wd_736 wd_737 wd_0 (n9 := 5) (by decide +kernel) rfl ⟨(Nat.le_of_ble_eq_true rfl), (Nat.le_of_ble_eq_true rfl)⟩ hl.1 rfl (Nat.le_of_ble_eq_true rfl) d_L_law_651 (Nat.le_of_ble_eq_true rfl) (Nat.le_of_ble_eq_true rfl) (fun H locs w => ?_)
  refine W.cs (cells' := 166) (slots' := 3476) rfl rfl ?_
  have w : Wd D (lA s) s [((qn 0), .inr (1, fP 0 qp)), ((qn 5), .inr (6, fA 0 qm)), ((qp 1), .inl (cI, 10, .inl (fun _ => 0))), ((qp 6), .inl (cI, 10, .inl (fun _ => 0))), ((qp 7), .inl (cI, 10, .inl (fun _ => 0))), ((qp 8), .inl (cI, 10, .inl (fun _ => 0))), ((qp 9), .inl (cI, 10, .inl (fun _ => 0))), ((qm 5), .inl (cI, 16, .inl (fun _ => 0))), (o2, .inr (7, fR 0 0 0 0 qr3)), ((qr3 2), .inl (cI, 10, .inl (fun _ => 0))), ((qr3 7), .inl (cI, 10, .inl (fun _ => 0))), ((qr3 33), .inl (cI, 16, .inl (fun _ => 0))), (q4, .inl (cJ, 1, .inr (.inl (fun _ => 0))))] H _ := w
  refine lv_istore hx hb d_L_law_654 hl (by decide) rfl (fun ls hl => ?_)
  have hl : lv_has ls 7 [(5, .int 2), (4, .int 0), (3, .ref q4), (2, .ref o2), (1, .ref o1), (0, .ref b)] := hl
  refine lv_aload_n hx hb d_L_law_656 rfl (lv_at hl 3 rfl) ?_
  refine lv_aload_n hx hb d_L_law_657 rfl (lv_at hl 5 rfl) ?_
  refine lv_iload hx hb d_L_law_658 (lv_at hl 1 rfl) ?_
  refine lv_iconst (v := 1) hx hb d_L_law_660 (by decide) ?_
  refine lv_iadd hx hb d_L_law_661 ?_
  refine lv_cst (x := 0 + 1) (y := 1) (by decide) ?_
  refine va_sld hx hb hX hbl hbA w.2.2.1 (vin (by decide)) d_L_law_662 ?_
  refine lv_aload_n hx hb d_L_law_663 rfl (lv_at hl 5 rfl) ?_
  refine lv_iload hx hb d_L_law_664 (lv_at hl 1 rfl) ?_
  refine lv_iconst (v := 2) hx hb d_L_law_666 (by decide) ?_
  refine lv_iadd hx hb d_L_law_667 ?_
  refine lv_cst (x := 0 + 2) (y := 2) (by decide) ?_
  refine va_sld hx hb hX hbl hbA w.2.2.1 (vin (by decide)) d_L_law_668 ?_
  refine lv_aload_n hx hb d_L_law_669 rfl (lv_at hl 5 rfl) ?_
  refine lv_iload hx hb d_L_law_670 (lv_at hl 1 rfl) ?_
  refine lv_iconst (v := 3) hx hb d_L_law_672 (by decide) ?_
  refine lv_iadd hx hb d_L_law_673 ?_
  refine lv_cst (x := 0 + 3) (y := 3) (by decide) ?_
  refine va_sld hx hb hX hbl hbA w.2.2.1 (vin (by decide)) d_L_law_674 ?_
  refine R_vi C0 w (rest := []) (wr := [((qn 0), .inr (1, fP 0 qp)), ((qn 5), .inr (6, fA 0 qm)), ((qp 1), .inl (cI, 10, .inl (fun _ => 0))), ((qp 6), .inl (cI, 10, .inl (fun _ => 0))), ((qp 7), .inl (cI, 10, .inl (fun _ => 0))), ((qp 8), .inl (cI, 10, .inl (fun _ => 0))), ((qp 9), .inl (cI, 10, .inl (fun _ => 0))), ((qm 5), .inl (cI, 16, .inl (fun _ => 0))), ((qr3 2), .inl (cI, 10, .inl (fun _ => 0))), ((qr3 7), .inl (cI, 10, .inl (fun _ => 0))), ((qr3 33), .inl (cI, 16, .inl (fun _ => 0))), (q4, .inl (cJ, 1, .inr (.inl (fun _ => 0))))]) (w1 := [(o2, .inr (7, fR 2 0 0 0 qr3))]) 8 rfl rfl [8] [0, 1, 2, 3, 4, 5, 6, 7, 9, 10, 11, 12] (c_R_uses l D cI cB cJ o2 qr3 (xs (1 : Int32).toNatClampNeg) (xs (2 : Int32).toNatClampNeg) (xs (3 : Int32).toNatClampNeg)) rfl rfl rfl rfl (by decide) wd_1105 wd_1102 wd_1103 wd_1104 wd_8 (n9 := 3) (by decide +kernel) rfl ⟨(Nat.le_of_ble_eq_true rfl), (Nat.le_of_ble_eq_true rfl)⟩ hl.1 rfl (Nat.le_of_ble_eq_true rfl) d_L_law_675 (Nat.le_of_ble_eq_true rfl) (Nat.le_of_ble_eq_true rfl) (fun H locs w => ?_)
  have w : Wd D (lA s) s [((qn 0), .inr (1, fP 0 qp)), ((qn 5), .inr (6, fA 0 qm)), ((qp 1), .inl (cI, 10, .inl (fun _ => 0))), ((qp 6), .inl (cI, 10, .inl (fun _ => 0))), ((qp 7), .inl (cI, 10, .inl (fun _ => 0))), ((qp 8), .inl (cI, 10, .inl (fun _ => 0))), ((qp 9), .inl (cI, 10, .inl (fun _ => 0))), ((qm 5), .inl (cI, 16, .inl (fun _ => 0))), ((qr3 2), .inl (cI, 10, .inl (fun _ => 0))), ((qr3 7), .inl (cI, 10, .inl (fun _ => 0))), ((qr3 33), .inl (cI, 16, .inl (fun _ => 0))), (q4, .inl (cJ, 1, .inr (.inl (fun _ => 0)))), (o2, .inr (7, fR 2 0 0 0 qr3))] H _ := w
  refine lv_istore hx hb d_L_law_678 hl (by decide) rfl (fun ls hl => ?_)
  have hl : lv_has ls 7 [(6, .int 0), (5, .int 2), (4, .int 0), (3, .ref q4), (2, .ref o2), (1, .ref o1), (0, .ref b)] := hl
  refine lv_aload_n hx hb d_L_law_680 rfl (lv_at hl 4 rfl) ?_
  refine R_ri C0 w (rest := []) 12 rfl rfl [12] (c_thrown l D cI cB cJ o2 qr3 2 0 0 0) rfl rfl wd_955 wd_952 wd_953 wd_954 wd_8 (n9 := 0) (by decide +kernel) rfl ⟨(Nat.le_of_ble_eq_true rfl), (Nat.le_of_ble_eq_true rfl)⟩ hl.1 rfl (Nat.le_of_ble_eq_true rfl) d_L_law_681 (Nat.le_of_ble_eq_true rfl) (Nat.le_of_ble_eq_true rfl) ?_
  refine lv_iload hx hb d_L_law_684 (lv_at hl 1 rfl) ?_
  refine lv_icmp_eq (tgt := 691) hx hb d_L_law_686 (by decide) (fun hc686 => ?_) (fun hc => absurd (by decide) hc)
  refine lv_iload hx hb d_L_law_691 (lv_at hl 1 rfl) ?_
  refine lv_if_ne (tgt := 708) hx hb d_L_law_693 (by decide) (fun hc693 => ?_) (fun hc => absurd hc (by decide))
  refine lv_goto (tgt := 993) hx hb d_L_law_708 (by decide) ?_
  exact law_tail C0 hX hbl hr hlk htl (Nat.le_of_ble_eq_true rfl) (Nat.le_of_ble_eq_true rfl) w (lv_sub hl [2, 6] rfl)
set_option maxHeartbeats 4000000 in
set_option maxRecDepth 100000 in
theorem law_case10 {qm : Nat → Nat} {qn : Nat → Nat} {qp : Nat → Nat} {qr3 : Nat → Nat} {o1 : Nat} {o2 : Nat} {q4 : Nat} (C0 : Cx p s m #[Value.ref b] c code 7 "NameForgeLaw" D cI cB cJ) (hX : va_X b 6 xs s s.heap) (hbl : b < s.heap.size) (hr : meth.sig.returnType = ret) (hlk : meth.locks = false) (htl : l.stackTraces = false) (w : Wd D (lA s) s [(o1, .inr (0, fN 0 qn)), ((qn 0), .inr (1, fP 0 qp)), ((qn 5), .inr (6, fA 0 qm)), ((qp 1), .inl (cI, 10, .inl (fun _ => 0))), ((qp 6), .inl (cI, 10, .inl (fun _ => 0))), ((qp 7), .inl (cI, 10, .inl (fun _ => 0))), ((qp 8), .inl (cI, 10, .inl (fun _ => 0))), ((qp 9), .inl (cI, 10, .inl (fun _ => 0))), ((qm 5), .inl (cI, 16, .inl (fun _ => 0))), (o2, .inr (7, fR 0 0 0 0 qr3)), ((qr3 2), .inl (cI, 10, .inl (fun _ => 0))), ((qr3 7), .inl (cI, 10, .inl (fun _ => 0))), ((qr3 33), .inl (cI, 16, .inl (fun _ => 0))), (q4, .inl (cJ, 1, .inr (.inl (fun _ => 0))))] H locs) (hl : lv_has ls 7 [(4, .int 0), (3, .ref q4), (2, .ref o2), (1, .ref o1), (0, .ref b)]) : W p l e room_1 s m #[Value.ref b] below meth c H locs 165 3470 (lw_Z below #[Value.ref b] s) (F0 m 711 ls []) := by
  have hx := C0.1
  have hb := C0.2.1
  have hbA : ¬ lA s b := fun h => absurd hbl (Nat.not_lt.mpr h)
  refine lv_aload_n hx hb d_L_law_711 rfl (lv_at hl 3 rfl) ?_
  refine lv_aload_n hx hb d_L_law_712 rfl (lv_at hl 4 rfl) ?_
  refine lv_iload hx hb d_L_law_713 (lv_at hl 0 rfl) ?_
  refine lv_iconst (v := 1) hx hb d_L_law_715 (by decide) ?_
  refine lv_iadd hx hb d_L_law_716 ?_
  refine lv_cst (x := 0 + 1) (y := 1) (by decide) ?_
  refine va_sld hx hb hX hbl hbA w.2.2.1 (vin (by decide)) d_L_law_717 ?_
  refine lv_aload_n hx hb d_L_law_718 rfl (lv_at hl 4 rfl) ?_
  refine lv_iload hx hb d_L_law_719 (lv_at hl 0 rfl) ?_
  refine lv_iconst (v := 2) hx hb d_L_law_721 (by decide) ?_
  refine lv_iadd hx hb d_L_law_722 ?_
  refine lv_cst (x := 0 + 2) (y := 2) (by decide) ?_
  refine va_sld hx hb hX hbl hbA w.2.2.1 (vin (by decide)) d_L_law_723 ?_
  refine lv_aload_n hx hb d_L_law_724 rfl (lv_at hl 1 rfl) ?_
  refine R_sh C0 w (rest := []) (wr := [((qn 0), .inr (1, fP 0 qp)), ((qn 5), .inr (6, fA 0 qm)), ((qp 1), .inl (cI, 10, .inl (fun _ => 0))), ((qp 6), .inl (cI, 10, .inl (fun _ => 0))), ((qp 7), .inl (cI, 10, .inl (fun _ => 0))), ((qp 8), .inl (cI, 10, .inl (fun _ => 0))), ((qp 9), .inl (cI, 10, .inl (fun _ => 0))), ((qm 5), .inl (cI, 16, .inl (fun _ => 0))), (o2, .inr (7, fR 0 0 0 0 qr3)), ((qr3 2), .inl (cI, 10, .inl (fun _ => 0))), ((qr3 7), .inl (cI, 10, .inl (fun _ => 0))), ((qr3 33), .inl (cI, 16, .inl (fun _ => 0))), (q4, .inl (cJ, 1, .inr (.inl (fun _ => 0))))]) (w1 := []) [0] [1, 2, 3, 4, 5, 6, 7, 8, 9, 10, 11, 12, 13] (c_L_name l D cI cB cJ o1 qn (xs (1 : Int32).toNatClampNeg) (xs (2 : Int32).toNatClampNeg) q4 htl) rfl rfl rfl rfl (by decide) wd_750 wd_748 wd_749 wd_0 (n9 := 4) (by decide +kernel) rfl ⟨(Nat.le_of_ble_eq_true rfl), (Nat.le_of_ble_eq_true rfl)⟩ hl.1 rfl (Nat.le_of_ble_eq_true rfl) d_L_law_725 (Nat.le_of_ble_eq_true rfl) (Nat.le_of_ble_eq_true rfl) (fun H locs w => ?_)
  refine W.cs (cells' := 166) (slots' := 3476) rfl rfl ?_
  have w : Wd D (lA s) s [((qn 0), .inr (1, fP 0 qp)), ((qn 5), .inr (6, fA 0 qm)), ((qp 1), .inl (cI, 10, .inl (fun _ => 0))), ((qp 6), .inl (cI, 10, .inl (fun _ => 0))), ((qp 7), .inl (cI, 10, .inl (fun _ => 0))), ((qp 8), .inl (cI, 10, .inl (fun _ => 0))), ((qp 9), .inl (cI, 10, .inl (fun _ => 0))), ((qm 5), .inl (cI, 16, .inl (fun _ => 0))), (o2, .inr (7, fR 0 0 0 0 qr3)), ((qr3 2), .inl (cI, 10, .inl (fun _ => 0))), ((qr3 7), .inl (cI, 10, .inl (fun _ => 0))), ((qr3 33), .inl (cI, 16, .inl (fun _ => 0))), (q4, .inl (cJ, 1, .inr (.inl (fun _ => 0))))] H _ := w
  refine lv_istore hx hb d_L_law_728 hl (by decide) rfl (fun ls hl => ?_)
  have hl : lv_has ls 7 [(5, .int 2), (4, .int 0), (3, .ref q4), (2, .ref o2), (1, .ref o1), (0, .ref b)] := hl
  refine lv_aload_n hx hb d_L_law_730 rfl (lv_at hl 3 rfl) ?_
  refine lv_aload_n hx hb d_L_law_731 rfl (lv_at hl 5 rfl) ?_
  refine lv_iload hx hb d_L_law_732 (lv_at hl 1 rfl) ?_
  refine lv_iconst (v := 1) hx hb d_L_law_734 (by decide) ?_
  refine lv_iadd hx hb d_L_law_735 ?_
  refine lv_cst (x := 0 + 1) (y := 1) (by decide) ?_
  refine va_sld hx hb hX hbl hbA w.2.2.1 (vin (by decide)) d_L_law_736 ?_
  refine lv_aload_n hx hb d_L_law_737 rfl (lv_at hl 5 rfl) ?_
  refine lv_iload hx hb d_L_law_738 (lv_at hl 1 rfl) ?_
  refine lv_iconst (v := 2) hx hb d_L_law_740 (by decide) ?_
  refine lv_iadd hx hb d_L_law_741 ?_
  refine lv_cst (x := 0 + 2) (y := 2) (by decide) ?_
  refine va_sld hx hb hX hbl hbA w.2.2.1 (vin (by decide)) d_L_law_742 ?_
  refine R_vi C0 w (rest := []) (wr := [((qn 0), .inr (1, fP 0 qp)), ((qn 5), .inr (6, fA 0 qm)), ((qp 1), .inl (cI, 10, .inl (fun _ => 0))), ((qp 6), .inl (cI, 10, .inl (fun _ => 0))), ((qp 7), .inl (cI, 10, .inl (fun _ => 0))), ((qp 8), .inl (cI, 10, .inl (fun _ => 0))), ((qp 9), .inl (cI, 10, .inl (fun _ => 0))), ((qm 5), .inl (cI, 16, .inl (fun _ => 0))), ((qr3 2), .inl (cI, 10, .inl (fun _ => 0))), ((qr3 7), .inl (cI, 10, .inl (fun _ => 0))), ((qr3 33), .inl (cI, 16, .inl (fun _ => 0))), (q4, .inl (cJ, 1, .inr (.inl (fun _ => 0))))]) (w1 := [(o2, .inr (7, fR 2 0 0 0 qr3))]) 8 rfl rfl [8] [0, 1, 2, 3, 4, 5, 6, 7, 9, 10, 11, 12] (c_R_name l D cI cB cJ o2 qr3 (xs (1 : Int32).toNatClampNeg) (xs (2 : Int32).toNatClampNeg)) rfl rfl rfl rfl (by decide) wd_1109 wd_1106 wd_1107 wd_1108 wd_8 (n9 := 2) (by decide +kernel) rfl ⟨(Nat.le_of_ble_eq_true rfl), (Nat.le_of_ble_eq_true rfl)⟩ hl.1 rfl (Nat.le_of_ble_eq_true rfl) d_L_law_743 (Nat.le_of_ble_eq_true rfl) (Nat.le_of_ble_eq_true rfl) (fun H locs w => ?_)
  have w : Wd D (lA s) s [((qn 0), .inr (1, fP 0 qp)), ((qn 5), .inr (6, fA 0 qm)), ((qp 1), .inl (cI, 10, .inl (fun _ => 0))), ((qp 6), .inl (cI, 10, .inl (fun _ => 0))), ((qp 7), .inl (cI, 10, .inl (fun _ => 0))), ((qp 8), .inl (cI, 10, .inl (fun _ => 0))), ((qp 9), .inl (cI, 10, .inl (fun _ => 0))), ((qm 5), .inl (cI, 16, .inl (fun _ => 0))), ((qr3 2), .inl (cI, 10, .inl (fun _ => 0))), ((qr3 7), .inl (cI, 10, .inl (fun _ => 0))), ((qr3 33), .inl (cI, 16, .inl (fun _ => 0))), (q4, .inl (cJ, 1, .inr (.inl (fun _ => 0)))), (o2, .inr (7, fR 2 0 0 0 qr3))] H _ := w
  refine lv_istore hx hb d_L_law_746 hl (by decide) rfl (fun ls hl => ?_)
  have hl : lv_has ls 7 [(6, .int 0), (5, .int 2), (4, .int 0), (3, .ref q4), (2, .ref o2), (1, .ref o1), (0, .ref b)] := hl
  refine lv_aload_n hx hb d_L_law_748 rfl (lv_at hl 4 rfl) ?_
  refine R_ri C0 w (rest := []) 12 rfl rfl [12] (c_thrown l D cI cB cJ o2 qr3 2 0 0 0) rfl rfl wd_955 wd_952 wd_953 wd_954 wd_8 (n9 := 0) (by decide +kernel) rfl ⟨(Nat.le_of_ble_eq_true rfl), (Nat.le_of_ble_eq_true rfl)⟩ hl.1 rfl (Nat.le_of_ble_eq_true rfl) d_L_law_749 (Nat.le_of_ble_eq_true rfl) (Nat.le_of_ble_eq_true rfl) ?_
  refine lv_iload hx hb d_L_law_752 (lv_at hl 1 rfl) ?_
  refine lv_icmp_eq (tgt := 759) hx hb d_L_law_754 (by decide) (fun hc754 => ?_) (fun hc => absurd (by decide) hc)
  refine lv_iload hx hb d_L_law_759 (lv_at hl 1 rfl) ?_
  refine lv_if_ne (tgt := 776) hx hb d_L_law_761 (by decide) (fun hc761 => ?_) (fun hc => absurd hc (by decide))
  refine lv_goto (tgt := 993) hx hb d_L_law_776 (by decide) ?_
  exact law_tail C0 hX hbl hr hlk htl (Nat.le_of_ble_eq_true rfl) (Nat.le_of_ble_eq_true rfl) w (lv_sub hl [2, 6] rfl)
set_option maxHeartbeats 4000000 in
set_option maxRecDepth 100000 in
theorem law_case11 {qm : Nat → Nat} {qn : Nat → Nat} {qp : Nat → Nat} {qr3 : Nat → Nat} {o1 : Nat} {o2 : Nat} {q4 : Nat} (C0 : Cx p s m #[Value.ref b] c code 7 "NameForgeLaw" D cI cB cJ) (hX : va_X b 6 xs s s.heap) (hbl : b < s.heap.size) (hr : meth.sig.returnType = ret) (hlk : meth.locks = false) (htl : l.stackTraces = false) (w : Wd D (lA s) s [(o1, .inr (0, fN 0 qn)), ((qn 0), .inr (1, fP 0 qp)), ((qn 5), .inr (6, fA 0 qm)), ((qp 1), .inl (cI, 10, .inl (fun _ => 0))), ((qp 6), .inl (cI, 10, .inl (fun _ => 0))), ((qp 7), .inl (cI, 10, .inl (fun _ => 0))), ((qp 8), .inl (cI, 10, .inl (fun _ => 0))), ((qp 9), .inl (cI, 10, .inl (fun _ => 0))), ((qm 5), .inl (cI, 16, .inl (fun _ => 0))), (o2, .inr (7, fR 0 0 0 0 qr3)), ((qr3 2), .inl (cI, 10, .inl (fun _ => 0))), ((qr3 7), .inl (cI, 10, .inl (fun _ => 0))), ((qr3 33), .inl (cI, 16, .inl (fun _ => 0))), (q4, .inl (cJ, 1, .inr (.inl (fun _ => 0))))] H locs) (hl : lv_has ls 7 [(4, .int 0), (3, .ref q4), (2, .ref o2), (1, .ref o1), (0, .ref b)]) : W p l e room_1 s m #[Value.ref b] below meth c H locs 165 3470 (lw_Z below #[Value.ref b] s) (F0 m 779 ls []) := by
  have hx := C0.1
  have hb := C0.2.1
  have hbA : ¬ lA s b := fun h => absurd hbl (Nat.not_lt.mpr h)
  refine lv_aload_n hx hb d_L_law_779 rfl (lv_at hl 3 rfl) ?_
  refine lv_aload_n hx hb d_L_law_780 rfl (lv_at hl 4 rfl) ?_
  refine lv_iload hx hb d_L_law_781 (lv_at hl 0 rfl) ?_
  refine lv_iconst (v := 1) hx hb d_L_law_783 (by decide) ?_
  refine lv_iadd hx hb d_L_law_784 ?_
  refine lv_cst (x := 0 + 1) (y := 1) (by decide) ?_
  refine va_sld hx hb hX hbl hbA w.2.2.1 (vin (by decide)) d_L_law_785 ?_
  refine R_vi C0 w (rest := []) (wr := [((qn 0), .inr (1, fP 0 qp)), ((qp 1), .inl (cI, 10, .inl (fun _ => 0))), ((qp 6), .inl (cI, 10, .inl (fun _ => 0))), ((qp 7), .inl (cI, 10, .inl (fun _ => 0))), ((qp 8), .inl (cI, 10, .inl (fun _ => 0))), ((qp 9), .inl (cI, 10, .inl (fun _ => 0))), (o2, .inr (7, fR 0 0 0 0 qr3)), ((qr3 2), .inl (cI, 10, .inl (fun _ => 0))), ((qr3 7), .inl (cI, 10, .inl (fun _ => 0))), ((qr3 33), .inl (cI, 16, .inl (fun _ => 0))), (q4, .inl (cJ, 1, .inr (.inl (fun _ => 0))))]) (w1 := []) 0 rfl rfl [0, 2, 8] [1, 3, 4, 5, 6, 7, 9, 10, 11, 12, 13] (c_N_give l D cI cB cJ o1 qn qm (xs (1 : Int32).toNatClampNeg)) rfl rfl rfl rfl (by decide) wd_368 wd_365 wd_366 wd_367 wd_1 (n9 := 1) (by decide +kernel) rfl ⟨(Nat.le_of_ble_eq_true rfl), (Nat.le_of_ble_eq_true rfl)⟩ hl.1 rfl (Nat.le_of_ble_eq_true rfl) d_L_law_786 (Nat.le_of_ble_eq_true rfl) (Nat.le_of_ble_eq_true rfl) (fun H locs w => ?_)
  have w : Wd D (lA s) s [((qn 0), .inr (1, fP 0 qp)), ((qp 1), .inl (cI, 10, .inl (fun _ => 0))), ((qp 6), .inl (cI, 10, .inl (fun _ => 0))), ((qp 7), .inl (cI, 10, .inl (fun _ => 0))), ((qp 8), .inl (cI, 10, .inl (fun _ => 0))), ((qp 9), .inl (cI, 10, .inl (fun _ => 0))), (o2, .inr (7, fR 0 0 0 0 qr3)), ((qr3 2), .inl (cI, 10, .inl (fun _ => 0))), ((qr3 7), .inl (cI, 10, .inl (fun _ => 0))), ((qr3 33), .inl (cI, 16, .inl (fun _ => 0))), (q4, .inl (cJ, 1, .inr (.inl (fun _ => 0))))] H _ := w
  refine lv_aload_n hx hb d_L_law_789 rfl (lv_at hl 2 rfl) ?_
  refine lv_aload_n hx hb d_L_law_790 rfl (lv_at hl 4 rfl) ?_
  refine lv_iload hx hb d_L_law_791 (lv_at hl 0 rfl) ?_
  refine lv_iconst (v := 1) hx hb d_L_law_793 (by decide) ?_
  refine lv_iadd hx hb d_L_law_794 ?_
  refine lv_cst (x := 0 + 1) (y := 1) (by decide) ?_
  refine va_sld hx hb hX hbl hbA w.2.2.1 (vin (by decide)) d_L_law_795 ?_
  refine R_vi C0 w (rest := [.int 1]) (wr := [((qn 0), .inr (1, fP 0 qp)), ((qp 1), .inl (cI, 10, .inl (fun _ => 0))), ((qp 6), .inl (cI, 10, .inl (fun _ => 0))), ((qp 7), .inl (cI, 10, .inl (fun _ => 0))), ((qp 8), .inl (cI, 10, .inl (fun _ => 0))), ((qp 9), .inl (cI, 10, .inl (fun _ => 0))), ((qr3 2), .inl (cI, 10, .inl (fun _ => 0))), ((qr3 7), .inl (cI, 10, .inl (fun _ => 0))), (q4, .inl (cJ, 1, .inr (.inl (fun _ => 0))))]) (w1 := [(o2, .inr (7, fR 0 0 0 1 qr3))]) 6 rfl rfl [6, 9] [0, 1, 2, 3, 4, 5, 7, 8, 10] (c_R_give l D cI cB cJ o2 qr3 (xs (1 : Int32).toNatClampNeg)) rfl rfl rfl rfl (by decide) wd_1113 wd_1110 wd_1111 wd_1112 wd_8 (n9 := 1) (by decide +kernel) rfl ⟨(Nat.le_of_ble_eq_true rfl), (Nat.le_of_ble_eq_true rfl)⟩ hl.1 rfl (Nat.le_of_ble_eq_true rfl) d_L_law_796 (Nat.le_of_ble_eq_true rfl) (Nat.le_of_ble_eq_true rfl) (fun H locs w => ?_)
  have w : Wd D (lA s) s [((qn 0), .inr (1, fP 0 qp)), ((qp 1), .inl (cI, 10, .inl (fun _ => 0))), ((qp 6), .inl (cI, 10, .inl (fun _ => 0))), ((qp 7), .inl (cI, 10, .inl (fun _ => 0))), ((qp 8), .inl (cI, 10, .inl (fun _ => 0))), ((qp 9), .inl (cI, 10, .inl (fun _ => 0))), ((qr3 2), .inl (cI, 10, .inl (fun _ => 0))), ((qr3 7), .inl (cI, 10, .inl (fun _ => 0))), (q4, .inl (cJ, 1, .inr (.inl (fun _ => 0)))), (o2, .inr (7, fR 0 0 0 1 qr3))] H _ := w
  refine lv_icmp_eq (tgt := 993) hx hb d_L_law_799 (by decide) (fun hc799 => ?_) (fun hc => absurd (by decide) hc)
  exact law_tail C0 hX hbl hr hlk htl (Nat.le_of_ble_eq_true rfl) (Nat.le_of_ble_eq_true rfl) w (lv_sub hl [0, 4] rfl)
set_option maxHeartbeats 4000000 in
set_option maxRecDepth 100000 in
theorem law_case12 {qm : Nat → Nat} {qn : Nat → Nat} {qp : Nat → Nat} {qr3 : Nat → Nat} {o1 : Nat} {o2 : Nat} {q4 : Nat} (C0 : Cx p s m #[Value.ref b] c code 7 "NameForgeLaw" D cI cB cJ) (hX : va_X b 6 xs s s.heap) (hbl : b < s.heap.size) (hr : meth.sig.returnType = ret) (hlk : meth.locks = false) (htl : l.stackTraces = false) (w : Wd D (lA s) s [(o1, .inr (0, fN 0 qn)), ((qn 0), .inr (1, fP 0 qp)), ((qn 5), .inr (6, fA 0 qm)), ((qp 1), .inl (cI, 10, .inl (fun _ => 0))), ((qp 6), .inl (cI, 10, .inl (fun _ => 0))), ((qp 7), .inl (cI, 10, .inl (fun _ => 0))), ((qp 8), .inl (cI, 10, .inl (fun _ => 0))), ((qp 9), .inl (cI, 10, .inl (fun _ => 0))), ((qm 5), .inl (cI, 16, .inl (fun _ => 0))), (o2, .inr (7, fR 0 0 0 0 qr3)), ((qr3 2), .inl (cI, 10, .inl (fun _ => 0))), ((qr3 7), .inl (cI, 10, .inl (fun _ => 0))), ((qr3 33), .inl (cI, 16, .inl (fun _ => 0))), (q4, .inl (cJ, 1, .inr (.inl (fun _ => 0))))] H locs) (hl : lv_has ls 7 [(4, .int 0), (3, .ref q4), (2, .ref o2), (1, .ref o1), (0, .ref b)]) : W p l e room_1 s m #[Value.ref b] below meth c H locs 165 3470 (lw_Z below #[Value.ref b] s) (F0 m 804 ls []) := by
  have hx := C0.1
  have hb := C0.2.1
  have hbA : ¬ lA s b := fun h => absurd hbl (Nat.not_lt.mpr h)
  refine lv_aload_n hx hb d_L_law_804 rfl (lv_at hl 3 rfl) ?_
  refine R_vv C0 w (rest := []) (wr := [((qn 0), .inr (1, fP 0 qp)), ((qp 1), .inl (cI, 10, .inl (fun _ => 0))), ((qp 6), .inl (cI, 10, .inl (fun _ => 0))), ((qp 7), .inl (cI, 10, .inl (fun _ => 0))), ((qp 8), .inl (cI, 10, .inl (fun _ => 0))), ((qp 9), .inl (cI, 10, .inl (fun _ => 0))), ((qm 5), .inl (cI, 16, .inl (fun _ => 0))), (o2, .inr (7, fR 0 0 0 0 qr3)), ((qr3 2), .inl (cI, 10, .inl (fun _ => 0))), ((qr3 7), .inl (cI, 10, .inl (fun _ => 0))), ((qr3 33), .inl (cI, 16, .inl (fun _ => 0))), (q4, .inl (cJ, 1, .inr (.inl (fun _ => 0))))]) (w1 := []) 0 rfl rfl [0, 2] [1, 3, 4, 5, 6, 7, 8, 9, 10, 11, 12, 13] (c_N_take l D cI cB cJ o1 qn qm) rfl rfl rfl rfl (by decide) wd_376 wd_373 wd_374 wd_375 wd_1 (n9 := 0) (by decide +kernel) rfl ⟨(Nat.le_of_ble_eq_true rfl), (Nat.le_of_ble_eq_true rfl)⟩ hl.1 rfl (Nat.le_of_ble_eq_true rfl) d_L_law_805 (Nat.le_of_ble_eq_true rfl) (Nat.le_of_ble_eq_true rfl) (fun H locs w => ?_)
  have w : Wd D (lA s) s [((qn 0), .inr (1, fP 0 qp)), ((qp 1), .inl (cI, 10, .inl (fun _ => 0))), ((qp 6), .inl (cI, 10, .inl (fun _ => 0))), ((qp 7), .inl (cI, 10, .inl (fun _ => 0))), ((qp 8), .inl (cI, 10, .inl (fun _ => 0))), ((qp 9), .inl (cI, 10, .inl (fun _ => 0))), ((qm 5), .inl (cI, 16, .inl (fun _ => 0))), (o2, .inr (7, fR 0 0 0 0 qr3)), ((qr3 2), .inl (cI, 10, .inl (fun _ => 0))), ((qr3 7), .inl (cI, 10, .inl (fun _ => 0))), ((qr3 33), .inl (cI, 16, .inl (fun _ => 0))), (q4, .inl (cJ, 1, .inr (.inl (fun _ => 0))))] H _ := w
  refine lv_aload_n hx hb d_L_law_808 rfl (lv_at hl 2 rfl) ?_
  refine R_vv C0 w (rest := []) (wr := [((qn 0), .inr (1, fP 0 qp)), ((qp 1), .inl (cI, 10, .inl (fun _ => 0))), ((qp 6), .inl (cI, 10, .inl (fun _ => 0))), ((qp 7), .inl (cI, 10, .inl (fun _ => 0))), ((qp 8), .inl (cI, 10, .inl (fun _ => 0))), ((qp 9), .inl (cI, 10, .inl (fun _ => 0))), ((qm 5), .inl (cI, 16, .inl (fun _ => 0))), ((qr3 2), .inl (cI, 10, .inl (fun _ => 0))), ((qr3 7), .inl (cI, 10, .inl (fun _ => 0))), ((qr3 33), .inl (cI, 16, .inl (fun _ => 0))), (q4, .inl (cJ, 1, .inr (.inl (fun _ => 0))))]) (w1 := [(o2, .inr (7, fR 0 0 0 0 qr3))]) 7 rfl rfl [7] [0, 1, 2, 3, 4, 5, 6, 8, 9, 10, 11] (c_R_take l D cI cB cJ o2 qr3) rfl rfl rfl rfl (by decide) wd_1117 wd_1114 wd_1115 wd_1116 wd_8 (n9 := 0) (by decide +kernel) rfl ⟨(Nat.le_of_ble_eq_true rfl), (Nat.le_of_ble_eq_true rfl)⟩ hl.1 rfl (Nat.le_of_ble_eq_true rfl) d_L_law_809 (Nat.le_of_ble_eq_true rfl) (Nat.le_of_ble_eq_true rfl) (fun H locs w => ?_)
  have w : Wd D (lA s) s [((qn 0), .inr (1, fP 0 qp)), ((qp 1), .inl (cI, 10, .inl (fun _ => 0))), ((qp 6), .inl (cI, 10, .inl (fun _ => 0))), ((qp 7), .inl (cI, 10, .inl (fun _ => 0))), ((qp 8), .inl (cI, 10, .inl (fun _ => 0))), ((qp 9), .inl (cI, 10, .inl (fun _ => 0))), ((qm 5), .inl (cI, 16, .inl (fun _ => 0))), ((qr3 2), .inl (cI, 10, .inl (fun _ => 0))), ((qr3 7), .inl (cI, 10, .inl (fun _ => 0))), ((qr3 33), .inl (cI, 16, .inl (fun _ => 0))), (q4, .inl (cJ, 1, .inr (.inl (fun _ => 0)))), (o2, .inr (7, fR 0 0 0 0 qr3))] H _ := w
  refine lv_goto (tgt := 993) hx hb d_L_law_812 (by decide) ?_
  exact law_tail C0 hX hbl hr hlk htl (Nat.le_of_ble_eq_true rfl) (Nat.le_of_ble_eq_true rfl) w (lv_sub hl [0, 4] rfl)
set_option maxHeartbeats 4000000 in
set_option maxRecDepth 100000 in
theorem law_case13A {qm : Nat → Nat} {qn : Nat → Nat} {qp : Nat → Nat} {qr3 : Nat → Nat} {o1 : Nat} {o2 : Nat} {q4 : Nat} (C0 : Cx p s m #[Value.ref b] c code 7 "NameForgeLaw" D cI cB cJ) (hX : va_X b 6 xs s s.heap) (hbl : b < s.heap.size) (hr : meth.sig.returnType = ret) (hlk : meth.locks = false) (htl : l.stackTraces = false) (hs : xs (2 : Int32).toNatClampNeg < 0) (w : Wd D (lA s) s [(o1, .inr (0, fN 0 qn)), ((qn 0), .inr (1, fP 0 qp)), ((qn 5), .inr (6, fA 0 qm)), ((qp 1), .inl (cI, 10, .inl (fun _ => 0))), ((qp 6), .inl (cI, 10, .inl (fun _ => 0))), ((qp 7), .inl (cI, 10, .inl (fun _ => 0))), ((qp 8), .inl (cI, 10, .inl (fun _ => 0))), ((qp 9), .inl (cI, 10, .inl (fun _ => 0))), ((qm 5), .inl (cI, 16, .inl (fun _ => 0))), (o2, .inr (7, fR 0 0 0 0 qr3)), ((qr3 2), .inl (cI, 10, .inl (fun _ => 0))), ((qr3 7), .inl (cI, 10, .inl (fun _ => 0))), ((qr3 33), .inl (cI, 16, .inl (fun _ => 0))), (q4, .inl (cJ, 1, .inr (.inl (fun _ => 0))))] H locs) (hl : lv_has ls 7 [(4, .int 0), (3, .ref q4), (2, .ref o2), (1, .ref o1), (0, .ref b)]) : W p l e room_1 s m #[Value.ref b] below meth c H locs 165 3470 (lw_Z below #[Value.ref b] s) (F0 m 815 ls []) := by
  have hx := C0.1
  have hb := C0.2.1
  have hbA : ¬ lA s b := fun h => absurd hbl (Nat.not_lt.mpr h)
  refine lv_aload_n hx hb d_L_law_815 rfl (lv_at hl 3 rfl) ?_
  refine lv_aload_n hx hb d_L_law_816 rfl (lv_at hl 4 rfl) ?_
  refine lv_iload hx hb d_L_law_817 (lv_at hl 0 rfl) ?_
  refine lv_iconst (v := 1) hx hb d_L_law_819 (by decide) ?_
  refine lv_iadd hx hb d_L_law_820 ?_
  refine lv_cst (x := 0 + 1) (y := 1) (by decide) ?_
  refine va_sld hx hb hX hbl hbA w.2.2.1 (vin (by decide)) d_L_law_821 ?_
  refine lv_if_eq (tgt := 829) hx hb d_L_law_822 (by decide) (fun hc822 => ?_) (fun hc822 => ?_)
  · refine lv_iconst (v := 0) hx hb d_L_law_829 (by decide) ?_
    refine lv_aload_n hx hb d_L_law_830 rfl (lv_at hl 4 rfl) ?_
    refine lv_iload hx hb d_L_law_831 (lv_at hl 0 rfl) ?_
    refine lv_iconst (v := 2) hx hb d_L_law_833 (by decide) ?_
    refine lv_iadd hx hb d_L_law_834 ?_
    refine lv_cst (x := 0 + 2) (y := 2) (by decide) ?_
    refine va_sld hx hb hX hbl hbA w.2.2.1 (vin (by decide)) d_L_law_835 ?_
    refine lv_aload_n hx hb d_L_law_836 rfl (lv_at hl 1 rfl) ?_
    refine R_sh C0 w (rest := []) (wr := [((qn 0), .inr (1, fP 0 qp)), ((qn 5), .inr (6, fA 0 qm)), ((qp 1), .inl (cI, 10, .inl (fun _ => 0))), ((qp 6), .inl (cI, 10, .inl (fun _ => 0))), ((qp 7), .inl (cI, 10, .inl (fun _ => 0))), ((qp 8), .inl (cI, 10, .inl (fun _ => 0))), ((qp 9), .inl (cI, 10, .inl (fun _ => 0))), ((qm 5), .inl (cI, 16, .inl (fun _ => 0))), (o2, .inr (7, fR 0 0 0 0 qr3)), ((qr3 2), .inl (cI, 10, .inl (fun _ => 0))), ((qr3 7), .inl (cI, 10, .inl (fun _ => 0))), ((qr3 33), .inl (cI, 16, .inl (fun _ => 0))), (q4, .inl (cJ, 1, .inr (.inl (fun _ => 0))))]) (w1 := []) [0] [1, 2, 3, 4, 5, 6, 7, 8, 9, 10, 11, 12, 13] (c_L_runA l D cI cB cJ o1 qn 0 (xs (2 : Int32).toNatClampNeg) q4 htl hs) rfl rfl rfl rfl (by decide) wd_758 wd_756 wd_757 wd_0 (n9 := 4) (by decide +kernel) rfl ⟨(Nat.le_of_ble_eq_true rfl), (Nat.le_of_ble_eq_true rfl)⟩ hl.1 rfl (Nat.le_of_ble_eq_true rfl) d_L_law_837 (Nat.le_of_ble_eq_true rfl) (Nat.le_of_ble_eq_true rfl) (fun H locs w => ?_)
    refine W.cs (cells' := 166) (slots' := 3476) rfl rfl ?_
    have w : Wd D (lA s) s [((qn 0), .inr (1, fP 0 qp)), ((qn 5), .inr (6, fA 0 qm)), ((qp 1), .inl (cI, 10, .inl (fun _ => 0))), ((qp 6), .inl (cI, 10, .inl (fun _ => 0))), ((qp 7), .inl (cI, 10, .inl (fun _ => 0))), ((qp 8), .inl (cI, 10, .inl (fun _ => 0))), ((qp 9), .inl (cI, 10, .inl (fun _ => 0))), ((qm 5), .inl (cI, 16, .inl (fun _ => 0))), (o2, .inr (7, fR 0 0 0 0 qr3)), ((qr3 2), .inl (cI, 10, .inl (fun _ => 0))), ((qr3 7), .inl (cI, 10, .inl (fun _ => 0))), ((qr3 33), .inl (cI, 16, .inl (fun _ => 0))), (q4, .inl (cJ, 1, .inr (.inl (fun _ => 0))))] H _ := w
    refine lv_istore hx hb d_L_law_840 hl (by decide) rfl (fun ls hl => ?_)
    have hl : lv_has ls 7 [(5, .int 1), (4, .int 0), (3, .ref q4), (2, .ref o2), (1, .ref o1), (0, .ref b)] := hl
    refine lv_aload_n hx hb d_L_law_842 rfl (lv_at hl 3 rfl) ?_
    refine lv_aload_n hx hb d_L_law_843 rfl (lv_at hl 5 rfl) ?_
    refine lv_iload hx hb d_L_law_844 (lv_at hl 1 rfl) ?_
    refine lv_iconst (v := 1) hx hb d_L_law_846 (by decide) ?_
    refine lv_iadd hx hb d_L_law_847 ?_
    refine lv_cst (x := 0 + 1) (y := 1) (by decide) ?_
    refine va_sld hx hb hX hbl hbA w.2.2.1 (vin (by decide)) d_L_law_848 ?_
    refine lv_if_eq (tgt := 856) hx hb d_L_law_849 (by decide) (fun hc849 => ?_) (fun hc849 => ?_)
    · refine lv_iconst (v := 0) hx hb d_L_law_856 (by decide) ?_
      refine lv_aload_n hx hb d_L_law_857 rfl (lv_at hl 5 rfl) ?_
      refine lv_iload hx hb d_L_law_858 (lv_at hl 1 rfl) ?_
      refine lv_iconst (v := 2) hx hb d_L_law_860 (by decide) ?_
      refine lv_iadd hx hb d_L_law_861 ?_
      refine lv_cst (x := 0 + 2) (y := 2) (by decide) ?_
      refine va_sld hx hb hX hbl hbA w.2.2.1 (vin (by decide)) d_L_law_862 ?_
      refine R_vi C0 w (rest := []) (wr := [((qn 0), .inr (1, fP 0 qp)), ((qn 5), .inr (6, fA 0 qm)), ((qp 1), .inl (cI, 10, .inl (fun _ => 0))), ((qp 6), .inl (cI, 10, .inl (fun _ => 0))), ((qp 7), .inl (cI, 10, .inl (fun _ => 0))), ((qp 8), .inl (cI, 10, .inl (fun _ => 0))), ((qp 9), .inl (cI, 10, .inl (fun _ => 0))), ((qm 5), .inl (cI, 16, .inl (fun _ => 0))), ((qr3 2), .inl (cI, 10, .inl (fun _ => 0))), ((qr3 7), .inl (cI, 10, .inl (fun _ => 0))), ((qr3 33), .inl (cI, 16, .inl (fun _ => 0))), (q4, .inl (cJ, 1, .inr (.inl (fun _ => 0))))]) (w1 := [(o2, .inr (7, fR 1 0 0 0 qr3))]) 8 rfl rfl [8] [0, 1, 2, 3, 4, 5, 6, 7, 9, 10, 11, 12] (c_R_runA l D cI cB cJ o2 qr3 0 (xs (2 : Int32).toNatClampNeg) hs) rfl rfl rfl rfl (by decide) wd_1121 wd_1118 wd_1119 wd_1120 wd_8 (n9 := 2) (by decide +kernel) rfl ⟨(Nat.le_of_ble_eq_true rfl), (Nat.le_of_ble_eq_true rfl)⟩ hl.1 rfl (Nat.le_of_ble_eq_true rfl) d_L_law_863 (Nat.le_of_ble_eq_true rfl) (Nat.le_of_ble_eq_true rfl) (fun H locs w => ?_)
      have w : Wd D (lA s) s [((qn 0), .inr (1, fP 0 qp)), ((qn 5), .inr (6, fA 0 qm)), ((qp 1), .inl (cI, 10, .inl (fun _ => 0))), ((qp 6), .inl (cI, 10, .inl (fun _ => 0))), ((qp 7), .inl (cI, 10, .inl (fun _ => 0))), ((qp 8), .inl (cI, 10, .inl (fun _ => 0))), ((qp 9), .inl (cI, 10, .inl (fun _ => 0))), ((qm 5), .inl (cI, 16, .inl (fun _ => 0))), ((qr3 2), .inl (cI, 10, .inl (fun _ => 0))), ((qr3 7), .inl (cI, 10, .inl (fun _ => 0))), ((qr3 33), .inl (cI, 16, .inl (fun _ => 0))), (q4, .inl (cJ, 1, .inr (.inl (fun _ => 0)))), (o2, .inr (7, fR 1 0 0 0 qr3))] H _ := w
      refine lv_istore hx hb d_L_law_866 hl (by decide) rfl (fun ls hl => ?_)
      have hl : lv_has ls 7 [(6, .int 0), (5, .int 1), (4, .int 0), (3, .ref q4), (2, .ref o2), (1, .ref o1), (0, .ref b)] := hl
      refine lv_aload_n hx hb d_L_law_868 rfl (lv_at hl 4 rfl) ?_
      refine R_ri C0 w (rest := []) 12 rfl rfl [12] (c_thrown l D cI cB cJ o2 qr3 1 0 0 0) rfl rfl wd_955 wd_952 wd_953 wd_954 wd_8 (n9 := 0) (by decide +kernel) rfl ⟨(Nat.le_of_ble_eq_true rfl), (Nat.le_of_ble_eq_true rfl)⟩ hl.1 rfl (Nat.le_of_ble_eq_true rfl) d_L_law_869 (Nat.le_of_ble_eq_true rfl) (Nat.le_of_ble_eq_true rfl) ?_
      refine lv_iload hx hb d_L_law_872 (lv_at hl 1 rfl) ?_
      refine lv_icmp_eq (tgt := 879) hx hb d_L_law_874 (by decide) (fun hc874 => ?_) (fun hc => absurd (by decide) hc)
      refine lv_iload hx hb d_L_law_879 (lv_at hl 1 rfl) ?_
      refine lv_if_ne (tgt := 896) hx hb d_L_law_881 (by decide) (fun hc881 => ?_) (fun hc => absurd hc (by decide))
      refine lv_goto (tgt := 993) hx hb d_L_law_896 (by decide) ?_
      exact law_tail C0 hX hbl hr hlk htl (Nat.le_of_ble_eq_true rfl) (Nat.le_of_ble_eq_true rfl) w (lv_sub hl [2, 6] rfl)
    · refine lv_iconst (v := 1) hx hb d_L_law_852 (by decide) ?_
      refine lv_goto (tgt := 857) hx hb d_L_law_853 (by decide) ?_
      refine lv_aload_n hx hb d_L_law_857 rfl (lv_at hl 5 rfl) ?_
      refine lv_iload hx hb d_L_law_858 (lv_at hl 1 rfl) ?_
      refine lv_iconst (v := 2) hx hb d_L_law_860 (by decide) ?_
      refine lv_iadd hx hb d_L_law_861 ?_
      refine lv_cst (x := 0 + 2) (y := 2) (by decide) ?_
      refine va_sld hx hb hX hbl hbA w.2.2.1 (vin (by decide)) d_L_law_862 ?_
      refine R_vi C0 w (rest := []) (wr := [((qn 0), .inr (1, fP 0 qp)), ((qn 5), .inr (6, fA 0 qm)), ((qp 1), .inl (cI, 10, .inl (fun _ => 0))), ((qp 6), .inl (cI, 10, .inl (fun _ => 0))), ((qp 7), .inl (cI, 10, .inl (fun _ => 0))), ((qp 8), .inl (cI, 10, .inl (fun _ => 0))), ((qp 9), .inl (cI, 10, .inl (fun _ => 0))), ((qm 5), .inl (cI, 16, .inl (fun _ => 0))), ((qr3 2), .inl (cI, 10, .inl (fun _ => 0))), ((qr3 7), .inl (cI, 10, .inl (fun _ => 0))), ((qr3 33), .inl (cI, 16, .inl (fun _ => 0))), (q4, .inl (cJ, 1, .inr (.inl (fun _ => 0))))]) (w1 := [(o2, .inr (7, fR 1 0 0 0 qr3))]) 8 rfl rfl [8] [0, 1, 2, 3, 4, 5, 6, 7, 9, 10, 11, 12] (c_R_runA l D cI cB cJ o2 qr3 1 (xs (2 : Int32).toNatClampNeg) hs) rfl rfl rfl rfl (by decide) wd_1121 wd_1118 wd_1119 wd_1120 wd_8 (n9 := 2) (by decide +kernel) rfl ⟨(Nat.le_of_ble_eq_true rfl), (Nat.le_of_ble_eq_true rfl)⟩ hl.1 rfl (Nat.le_of_ble_eq_true rfl) d_L_law_863 (Nat.le_of_ble_eq_true rfl) (Nat.le_of_ble_eq_true rfl) (fun H locs w => ?_)
      have w : Wd D (lA s) s [((qn 0), .inr (1, fP 0 qp)), ((qn 5), .inr (6, fA 0 qm)), ((qp 1), .inl (cI, 10, .inl (fun _ => 0))), ((qp 6), .inl (cI, 10, .inl (fun _ => 0))), ((qp 7), .inl (cI, 10, .inl (fun _ => 0))), ((qp 8), .inl (cI, 10, .inl (fun _ => 0))), ((qp 9), .inl (cI, 10, .inl (fun _ => 0))), ((qm 5), .inl (cI, 16, .inl (fun _ => 0))), ((qr3 2), .inl (cI, 10, .inl (fun _ => 0))), ((qr3 7), .inl (cI, 10, .inl (fun _ => 0))), ((qr3 33), .inl (cI, 16, .inl (fun _ => 0))), (q4, .inl (cJ, 1, .inr (.inl (fun _ => 0)))), (o2, .inr (7, fR 1 0 0 0 qr3))] H _ := w
      refine lv_istore hx hb d_L_law_866 hl (by decide) rfl (fun ls hl => ?_)
      have hl : lv_has ls 7 [(6, .int 0), (5, .int 1), (4, .int 0), (3, .ref q4), (2, .ref o2), (1, .ref o1), (0, .ref b)] := hl
      refine lv_aload_n hx hb d_L_law_868 rfl (lv_at hl 4 rfl) ?_
      refine R_ri C0 w (rest := []) 12 rfl rfl [12] (c_thrown l D cI cB cJ o2 qr3 1 0 0 0) rfl rfl wd_955 wd_952 wd_953 wd_954 wd_8 (n9 := 0) (by decide +kernel) rfl ⟨(Nat.le_of_ble_eq_true rfl), (Nat.le_of_ble_eq_true rfl)⟩ hl.1 rfl (Nat.le_of_ble_eq_true rfl) d_L_law_869 (Nat.le_of_ble_eq_true rfl) (Nat.le_of_ble_eq_true rfl) ?_
      refine lv_iload hx hb d_L_law_872 (lv_at hl 1 rfl) ?_
      refine lv_icmp_eq (tgt := 879) hx hb d_L_law_874 (by decide) (fun hc874 => ?_) (fun hc => absurd (by decide) hc)
      refine lv_iload hx hb d_L_law_879 (lv_at hl 1 rfl) ?_
      refine lv_if_ne (tgt := 896) hx hb d_L_law_881 (by decide) (fun hc881 => ?_) (fun hc => absurd hc (by decide))
      refine lv_goto (tgt := 993) hx hb d_L_law_896 (by decide) ?_
      exact law_tail C0 hX hbl hr hlk htl (Nat.le_of_ble_eq_true rfl) (Nat.le_of_ble_eq_true rfl) w (lv_sub hl [2, 6] rfl)
  · refine lv_iconst (v := 1) hx hb d_L_law_825 (by decide) ?_
    refine lv_goto (tgt := 830) hx hb d_L_law_826 (by decide) ?_
    refine lv_aload_n hx hb d_L_law_830 rfl (lv_at hl 4 rfl) ?_
    refine lv_iload hx hb d_L_law_831 (lv_at hl 0 rfl) ?_
    refine lv_iconst (v := 2) hx hb d_L_law_833 (by decide) ?_
    refine lv_iadd hx hb d_L_law_834 ?_
    refine lv_cst (x := 0 + 2) (y := 2) (by decide) ?_
    refine va_sld hx hb hX hbl hbA w.2.2.1 (vin (by decide)) d_L_law_835 ?_
    refine lv_aload_n hx hb d_L_law_836 rfl (lv_at hl 1 rfl) ?_
    refine R_sh C0 w (rest := []) (wr := [((qn 0), .inr (1, fP 0 qp)), ((qn 5), .inr (6, fA 0 qm)), ((qp 1), .inl (cI, 10, .inl (fun _ => 0))), ((qp 6), .inl (cI, 10, .inl (fun _ => 0))), ((qp 7), .inl (cI, 10, .inl (fun _ => 0))), ((qp 8), .inl (cI, 10, .inl (fun _ => 0))), ((qp 9), .inl (cI, 10, .inl (fun _ => 0))), ((qm 5), .inl (cI, 16, .inl (fun _ => 0))), (o2, .inr (7, fR 0 0 0 0 qr3)), ((qr3 2), .inl (cI, 10, .inl (fun _ => 0))), ((qr3 7), .inl (cI, 10, .inl (fun _ => 0))), ((qr3 33), .inl (cI, 16, .inl (fun _ => 0))), (q4, .inl (cJ, 1, .inr (.inl (fun _ => 0))))]) (w1 := []) [0] [1, 2, 3, 4, 5, 6, 7, 8, 9, 10, 11, 12, 13] (c_L_runA l D cI cB cJ o1 qn 1 (xs (2 : Int32).toNatClampNeg) q4 htl hs) rfl rfl rfl rfl (by decide) wd_758 wd_756 wd_757 wd_0 (n9 := 4) (by decide +kernel) rfl ⟨(Nat.le_of_ble_eq_true rfl), (Nat.le_of_ble_eq_true rfl)⟩ hl.1 rfl (Nat.le_of_ble_eq_true rfl) d_L_law_837 (Nat.le_of_ble_eq_true rfl) (Nat.le_of_ble_eq_true rfl) (fun H locs w => ?_)
    refine W.cs (cells' := 166) (slots' := 3476) rfl rfl ?_
    have w : Wd D (lA s) s [((qn 0), .inr (1, fP 0 qp)), ((qn 5), .inr (6, fA 0 qm)), ((qp 1), .inl (cI, 10, .inl (fun _ => 0))), ((qp 6), .inl (cI, 10, .inl (fun _ => 0))), ((qp 7), .inl (cI, 10, .inl (fun _ => 0))), ((qp 8), .inl (cI, 10, .inl (fun _ => 0))), ((qp 9), .inl (cI, 10, .inl (fun _ => 0))), ((qm 5), .inl (cI, 16, .inl (fun _ => 0))), (o2, .inr (7, fR 0 0 0 0 qr3)), ((qr3 2), .inl (cI, 10, .inl (fun _ => 0))), ((qr3 7), .inl (cI, 10, .inl (fun _ => 0))), ((qr3 33), .inl (cI, 16, .inl (fun _ => 0))), (q4, .inl (cJ, 1, .inr (.inl (fun _ => 0))))] H _ := w
    refine lv_istore hx hb d_L_law_840 hl (by decide) rfl (fun ls hl => ?_)
    have hl : lv_has ls 7 [(5, .int 1), (4, .int 0), (3, .ref q4), (2, .ref o2), (1, .ref o1), (0, .ref b)] := hl
    refine lv_aload_n hx hb d_L_law_842 rfl (lv_at hl 3 rfl) ?_
    refine lv_aload_n hx hb d_L_law_843 rfl (lv_at hl 5 rfl) ?_
    refine lv_iload hx hb d_L_law_844 (lv_at hl 1 rfl) ?_
    refine lv_iconst (v := 1) hx hb d_L_law_846 (by decide) ?_
    refine lv_iadd hx hb d_L_law_847 ?_
    refine lv_cst (x := 0 + 1) (y := 1) (by decide) ?_
    refine va_sld hx hb hX hbl hbA w.2.2.1 (vin (by decide)) d_L_law_848 ?_
    refine lv_if_eq (tgt := 856) hx hb d_L_law_849 (by decide) (fun hc849 => ?_) (fun hc849 => ?_)
    · refine lv_iconst (v := 0) hx hb d_L_law_856 (by decide) ?_
      refine lv_aload_n hx hb d_L_law_857 rfl (lv_at hl 5 rfl) ?_
      refine lv_iload hx hb d_L_law_858 (lv_at hl 1 rfl) ?_
      refine lv_iconst (v := 2) hx hb d_L_law_860 (by decide) ?_
      refine lv_iadd hx hb d_L_law_861 ?_
      refine lv_cst (x := 0 + 2) (y := 2) (by decide) ?_
      refine va_sld hx hb hX hbl hbA w.2.2.1 (vin (by decide)) d_L_law_862 ?_
      refine R_vi C0 w (rest := []) (wr := [((qn 0), .inr (1, fP 0 qp)), ((qn 5), .inr (6, fA 0 qm)), ((qp 1), .inl (cI, 10, .inl (fun _ => 0))), ((qp 6), .inl (cI, 10, .inl (fun _ => 0))), ((qp 7), .inl (cI, 10, .inl (fun _ => 0))), ((qp 8), .inl (cI, 10, .inl (fun _ => 0))), ((qp 9), .inl (cI, 10, .inl (fun _ => 0))), ((qm 5), .inl (cI, 16, .inl (fun _ => 0))), ((qr3 2), .inl (cI, 10, .inl (fun _ => 0))), ((qr3 7), .inl (cI, 10, .inl (fun _ => 0))), ((qr3 33), .inl (cI, 16, .inl (fun _ => 0))), (q4, .inl (cJ, 1, .inr (.inl (fun _ => 0))))]) (w1 := [(o2, .inr (7, fR 1 0 0 0 qr3))]) 8 rfl rfl [8] [0, 1, 2, 3, 4, 5, 6, 7, 9, 10, 11, 12] (c_R_runA l D cI cB cJ o2 qr3 0 (xs (2 : Int32).toNatClampNeg) hs) rfl rfl rfl rfl (by decide) wd_1121 wd_1118 wd_1119 wd_1120 wd_8 (n9 := 2) (by decide +kernel) rfl ⟨(Nat.le_of_ble_eq_true rfl), (Nat.le_of_ble_eq_true rfl)⟩ hl.1 rfl (Nat.le_of_ble_eq_true rfl) d_L_law_863 (Nat.le_of_ble_eq_true rfl) (Nat.le_of_ble_eq_true rfl) (fun H locs w => ?_)
      have w : Wd D (lA s) s [((qn 0), .inr (1, fP 0 qp)), ((qn 5), .inr (6, fA 0 qm)), ((qp 1), .inl (cI, 10, .inl (fun _ => 0))), ((qp 6), .inl (cI, 10, .inl (fun _ => 0))), ((qp 7), .inl (cI, 10, .inl (fun _ => 0))), ((qp 8), .inl (cI, 10, .inl (fun _ => 0))), ((qp 9), .inl (cI, 10, .inl (fun _ => 0))), ((qm 5), .inl (cI, 16, .inl (fun _ => 0))), ((qr3 2), .inl (cI, 10, .inl (fun _ => 0))), ((qr3 7), .inl (cI, 10, .inl (fun _ => 0))), ((qr3 33), .inl (cI, 16, .inl (fun _ => 0))), (q4, .inl (cJ, 1, .inr (.inl (fun _ => 0)))), (o2, .inr (7, fR 1 0 0 0 qr3))] H _ := w
      refine lv_istore hx hb d_L_law_866 hl (by decide) rfl (fun ls hl => ?_)
      have hl : lv_has ls 7 [(6, .int 0), (5, .int 1), (4, .int 0), (3, .ref q4), (2, .ref o2), (1, .ref o1), (0, .ref b)] := hl
      refine lv_aload_n hx hb d_L_law_868 rfl (lv_at hl 4 rfl) ?_
      refine R_ri C0 w (rest := []) 12 rfl rfl [12] (c_thrown l D cI cB cJ o2 qr3 1 0 0 0) rfl rfl wd_955 wd_952 wd_953 wd_954 wd_8 (n9 := 0) (by decide +kernel) rfl ⟨(Nat.le_of_ble_eq_true rfl), (Nat.le_of_ble_eq_true rfl)⟩ hl.1 rfl (Nat.le_of_ble_eq_true rfl) d_L_law_869 (Nat.le_of_ble_eq_true rfl) (Nat.le_of_ble_eq_true rfl) ?_
      refine lv_iload hx hb d_L_law_872 (lv_at hl 1 rfl) ?_
      refine lv_icmp_eq (tgt := 879) hx hb d_L_law_874 (by decide) (fun hc874 => ?_) (fun hc => absurd (by decide) hc)
      refine lv_iload hx hb d_L_law_879 (lv_at hl 1 rfl) ?_
      refine lv_if_ne (tgt := 896) hx hb d_L_law_881 (by decide) (fun hc881 => ?_) (fun hc => absurd hc (by decide))
      refine lv_goto (tgt := 993) hx hb d_L_law_896 (by decide) ?_
      exact law_tail C0 hX hbl hr hlk htl (Nat.le_of_ble_eq_true rfl) (Nat.le_of_ble_eq_true rfl) w (lv_sub hl [2, 6] rfl)
    · refine lv_iconst (v := 1) hx hb d_L_law_852 (by decide) ?_
      refine lv_goto (tgt := 857) hx hb d_L_law_853 (by decide) ?_
      refine lv_aload_n hx hb d_L_law_857 rfl (lv_at hl 5 rfl) ?_
      refine lv_iload hx hb d_L_law_858 (lv_at hl 1 rfl) ?_
      refine lv_iconst (v := 2) hx hb d_L_law_860 (by decide) ?_
      refine lv_iadd hx hb d_L_law_861 ?_
      refine lv_cst (x := 0 + 2) (y := 2) (by decide) ?_
      refine va_sld hx hb hX hbl hbA w.2.2.1 (vin (by decide)) d_L_law_862 ?_
      refine R_vi C0 w (rest := []) (wr := [((qn 0), .inr (1, fP 0 qp)), ((qn 5), .inr (6, fA 0 qm)), ((qp 1), .inl (cI, 10, .inl (fun _ => 0))), ((qp 6), .inl (cI, 10, .inl (fun _ => 0))), ((qp 7), .inl (cI, 10, .inl (fun _ => 0))), ((qp 8), .inl (cI, 10, .inl (fun _ => 0))), ((qp 9), .inl (cI, 10, .inl (fun _ => 0))), ((qm 5), .inl (cI, 16, .inl (fun _ => 0))), ((qr3 2), .inl (cI, 10, .inl (fun _ => 0))), ((qr3 7), .inl (cI, 10, .inl (fun _ => 0))), ((qr3 33), .inl (cI, 16, .inl (fun _ => 0))), (q4, .inl (cJ, 1, .inr (.inl (fun _ => 0))))]) (w1 := [(o2, .inr (7, fR 1 0 0 0 qr3))]) 8 rfl rfl [8] [0, 1, 2, 3, 4, 5, 6, 7, 9, 10, 11, 12] (c_R_runA l D cI cB cJ o2 qr3 1 (xs (2 : Int32).toNatClampNeg) hs) rfl rfl rfl rfl (by decide) wd_1121 wd_1118 wd_1119 wd_1120 wd_8 (n9 := 2) (by decide +kernel) rfl ⟨(Nat.le_of_ble_eq_true rfl), (Nat.le_of_ble_eq_true rfl)⟩ hl.1 rfl (Nat.le_of_ble_eq_true rfl) d_L_law_863 (Nat.le_of_ble_eq_true rfl) (Nat.le_of_ble_eq_true rfl) (fun H locs w => ?_)
      have w : Wd D (lA s) s [((qn 0), .inr (1, fP 0 qp)), ((qn 5), .inr (6, fA 0 qm)), ((qp 1), .inl (cI, 10, .inl (fun _ => 0))), ((qp 6), .inl (cI, 10, .inl (fun _ => 0))), ((qp 7), .inl (cI, 10, .inl (fun _ => 0))), ((qp 8), .inl (cI, 10, .inl (fun _ => 0))), ((qp 9), .inl (cI, 10, .inl (fun _ => 0))), ((qm 5), .inl (cI, 16, .inl (fun _ => 0))), ((qr3 2), .inl (cI, 10, .inl (fun _ => 0))), ((qr3 7), .inl (cI, 10, .inl (fun _ => 0))), ((qr3 33), .inl (cI, 16, .inl (fun _ => 0))), (q4, .inl (cJ, 1, .inr (.inl (fun _ => 0)))), (o2, .inr (7, fR 1 0 0 0 qr3))] H _ := w
      refine lv_istore hx hb d_L_law_866 hl (by decide) rfl (fun ls hl => ?_)
      have hl : lv_has ls 7 [(6, .int 0), (5, .int 1), (4, .int 0), (3, .ref q4), (2, .ref o2), (1, .ref o1), (0, .ref b)] := hl
      refine lv_aload_n hx hb d_L_law_868 rfl (lv_at hl 4 rfl) ?_
      refine R_ri C0 w (rest := []) 12 rfl rfl [12] (c_thrown l D cI cB cJ o2 qr3 1 0 0 0) rfl rfl wd_955 wd_952 wd_953 wd_954 wd_8 (n9 := 0) (by decide +kernel) rfl ⟨(Nat.le_of_ble_eq_true rfl), (Nat.le_of_ble_eq_true rfl)⟩ hl.1 rfl (Nat.le_of_ble_eq_true rfl) d_L_law_869 (Nat.le_of_ble_eq_true rfl) (Nat.le_of_ble_eq_true rfl) ?_
      refine lv_iload hx hb d_L_law_872 (lv_at hl 1 rfl) ?_
      refine lv_icmp_eq (tgt := 879) hx hb d_L_law_874 (by decide) (fun hc874 => ?_) (fun hc => absurd (by decide) hc)
      refine lv_iload hx hb d_L_law_879 (lv_at hl 1 rfl) ?_
      refine lv_if_ne (tgt := 896) hx hb d_L_law_881 (by decide) (fun hc881 => ?_) (fun hc => absurd hc (by decide))
      refine lv_goto (tgt := 993) hx hb d_L_law_896 (by decide) ?_
      exact law_tail C0 hX hbl hr hlk htl (Nat.le_of_ble_eq_true rfl) (Nat.le_of_ble_eq_true rfl) w (lv_sub hl [2, 6] rfl)
set_option maxHeartbeats 4000000 in
set_option maxRecDepth 100000 in
theorem law_case13B {qm : Nat → Nat} {qn : Nat → Nat} {qp : Nat → Nat} {qr3 : Nat → Nat} {o1 : Nat} {o2 : Nat} {q4 : Nat} (C0 : Cx p s m #[Value.ref b] c code 7 "NameForgeLaw" D cI cB cJ) (hX : va_X b 6 xs s s.heap) (hbl : b < s.heap.size) (hr : meth.sig.returnType = ret) (hlk : meth.locks = false) (htl : l.stackTraces = false) (hs : ¬ xs (2 : Int32).toNatClampNeg < 0) (ht : ¬ xs (2 : Int32).toNatClampNeg ≤ 200) (w : Wd D (lA s) s [(o1, .inr (0, fN 0 qn)), ((qn 0), .inr (1, fP 0 qp)), ((qn 5), .inr (6, fA 0 qm)), ((qp 1), .inl (cI, 10, .inl (fun _ => 0))), ((qp 6), .inl (cI, 10, .inl (fun _ => 0))), ((qp 7), .inl (cI, 10, .inl (fun _ => 0))), ((qp 8), .inl (cI, 10, .inl (fun _ => 0))), ((qp 9), .inl (cI, 10, .inl (fun _ => 0))), ((qm 5), .inl (cI, 16, .inl (fun _ => 0))), (o2, .inr (7, fR 0 0 0 0 qr3)), ((qr3 2), .inl (cI, 10, .inl (fun _ => 0))), ((qr3 7), .inl (cI, 10, .inl (fun _ => 0))), ((qr3 33), .inl (cI, 16, .inl (fun _ => 0))), (q4, .inl (cJ, 1, .inr (.inl (fun _ => 0))))] H locs) (hl : lv_has ls 7 [(4, .int 0), (3, .ref q4), (2, .ref o2), (1, .ref o1), (0, .ref b)]) : W p l e room_1 s m #[Value.ref b] below meth c H locs 165 3470 (lw_Z below #[Value.ref b] s) (F0 m 815 ls []) := by
  have hx := C0.1
  have hb := C0.2.1
  have hbA : ¬ lA s b := fun h => absurd hbl (Nat.not_lt.mpr h)
  refine lv_aload_n hx hb d_L_law_815 rfl (lv_at hl 3 rfl) ?_
  refine lv_aload_n hx hb d_L_law_816 rfl (lv_at hl 4 rfl) ?_
  refine lv_iload hx hb d_L_law_817 (lv_at hl 0 rfl) ?_
  refine lv_iconst (v := 1) hx hb d_L_law_819 (by decide) ?_
  refine lv_iadd hx hb d_L_law_820 ?_
  refine lv_cst (x := 0 + 1) (y := 1) (by decide) ?_
  refine va_sld hx hb hX hbl hbA w.2.2.1 (vin (by decide)) d_L_law_821 ?_
  refine lv_if_eq (tgt := 829) hx hb d_L_law_822 (by decide) (fun hc822 => ?_) (fun hc822 => ?_)
  · refine lv_iconst (v := 0) hx hb d_L_law_829 (by decide) ?_
    refine lv_aload_n hx hb d_L_law_830 rfl (lv_at hl 4 rfl) ?_
    refine lv_iload hx hb d_L_law_831 (lv_at hl 0 rfl) ?_
    refine lv_iconst (v := 2) hx hb d_L_law_833 (by decide) ?_
    refine lv_iadd hx hb d_L_law_834 ?_
    refine lv_cst (x := 0 + 2) (y := 2) (by decide) ?_
    refine va_sld hx hb hX hbl hbA w.2.2.1 (vin (by decide)) d_L_law_835 ?_
    refine lv_aload_n hx hb d_L_law_836 rfl (lv_at hl 1 rfl) ?_
    refine R_sh C0 w (rest := []) (wr := [((qn 0), .inr (1, fP 0 qp)), ((qn 5), .inr (6, fA 0 qm)), ((qp 1), .inl (cI, 10, .inl (fun _ => 0))), ((qp 6), .inl (cI, 10, .inl (fun _ => 0))), ((qp 7), .inl (cI, 10, .inl (fun _ => 0))), ((qp 8), .inl (cI, 10, .inl (fun _ => 0))), ((qp 9), .inl (cI, 10, .inl (fun _ => 0))), ((qm 5), .inl (cI, 16, .inl (fun _ => 0))), (o2, .inr (7, fR 0 0 0 0 qr3)), ((qr3 2), .inl (cI, 10, .inl (fun _ => 0))), ((qr3 7), .inl (cI, 10, .inl (fun _ => 0))), ((qr3 33), .inl (cI, 16, .inl (fun _ => 0))), (q4, .inl (cJ, 1, .inr (.inl (fun _ => 0))))]) (w1 := []) [0] [1, 2, 3, 4, 5, 6, 7, 8, 9, 10, 11, 12, 13] (c_L_runB l D cI cB cJ o1 qn 0 (xs (2 : Int32).toNatClampNeg) q4 htl hs ht) rfl rfl rfl rfl (by decide) wd_758 wd_756 wd_757 wd_0 (n9 := 4) (by decide +kernel) rfl ⟨(Nat.le_of_ble_eq_true rfl), (Nat.le_of_ble_eq_true rfl)⟩ hl.1 rfl (Nat.le_of_ble_eq_true rfl) d_L_law_837 (Nat.le_of_ble_eq_true rfl) (Nat.le_of_ble_eq_true rfl) (fun H locs w => ?_)
    refine W.cs (cells' := 166) (slots' := 3476) rfl rfl ?_
    have w : Wd D (lA s) s [((qn 0), .inr (1, fP 0 qp)), ((qn 5), .inr (6, fA 0 qm)), ((qp 1), .inl (cI, 10, .inl (fun _ => 0))), ((qp 6), .inl (cI, 10, .inl (fun _ => 0))), ((qp 7), .inl (cI, 10, .inl (fun _ => 0))), ((qp 8), .inl (cI, 10, .inl (fun _ => 0))), ((qp 9), .inl (cI, 10, .inl (fun _ => 0))), ((qm 5), .inl (cI, 16, .inl (fun _ => 0))), (o2, .inr (7, fR 0 0 0 0 qr3)), ((qr3 2), .inl (cI, 10, .inl (fun _ => 0))), ((qr3 7), .inl (cI, 10, .inl (fun _ => 0))), ((qr3 33), .inl (cI, 16, .inl (fun _ => 0))), (q4, .inl (cJ, 1, .inr (.inl (fun _ => 0))))] H _ := w
    refine lv_istore hx hb d_L_law_840 hl (by decide) rfl (fun ls hl => ?_)
    have hl : lv_has ls 7 [(5, .int 1), (4, .int 0), (3, .ref q4), (2, .ref o2), (1, .ref o1), (0, .ref b)] := hl
    refine lv_aload_n hx hb d_L_law_842 rfl (lv_at hl 3 rfl) ?_
    refine lv_aload_n hx hb d_L_law_843 rfl (lv_at hl 5 rfl) ?_
    refine lv_iload hx hb d_L_law_844 (lv_at hl 1 rfl) ?_
    refine lv_iconst (v := 1) hx hb d_L_law_846 (by decide) ?_
    refine lv_iadd hx hb d_L_law_847 ?_
    refine lv_cst (x := 0 + 1) (y := 1) (by decide) ?_
    refine va_sld hx hb hX hbl hbA w.2.2.1 (vin (by decide)) d_L_law_848 ?_
    refine lv_if_eq (tgt := 856) hx hb d_L_law_849 (by decide) (fun hc849 => ?_) (fun hc849 => ?_)
    · refine lv_iconst (v := 0) hx hb d_L_law_856 (by decide) ?_
      refine lv_aload_n hx hb d_L_law_857 rfl (lv_at hl 5 rfl) ?_
      refine lv_iload hx hb d_L_law_858 (lv_at hl 1 rfl) ?_
      refine lv_iconst (v := 2) hx hb d_L_law_860 (by decide) ?_
      refine lv_iadd hx hb d_L_law_861 ?_
      refine lv_cst (x := 0 + 2) (y := 2) (by decide) ?_
      refine va_sld hx hb hX hbl hbA w.2.2.1 (vin (by decide)) d_L_law_862 ?_
      refine R_vi C0 w (rest := []) (wr := [((qn 0), .inr (1, fP 0 qp)), ((qn 5), .inr (6, fA 0 qm)), ((qp 1), .inl (cI, 10, .inl (fun _ => 0))), ((qp 6), .inl (cI, 10, .inl (fun _ => 0))), ((qp 7), .inl (cI, 10, .inl (fun _ => 0))), ((qp 8), .inl (cI, 10, .inl (fun _ => 0))), ((qp 9), .inl (cI, 10, .inl (fun _ => 0))), ((qm 5), .inl (cI, 16, .inl (fun _ => 0))), ((qr3 2), .inl (cI, 10, .inl (fun _ => 0))), ((qr3 7), .inl (cI, 10, .inl (fun _ => 0))), ((qr3 33), .inl (cI, 16, .inl (fun _ => 0))), (q4, .inl (cJ, 1, .inr (.inl (fun _ => 0))))]) (w1 := [(o2, .inr (7, fR 1 0 0 0 qr3))]) 8 rfl rfl [8] [0, 1, 2, 3, 4, 5, 6, 7, 9, 10, 11, 12] (c_R_runB l D cI cB cJ o2 qr3 0 (xs (2 : Int32).toNatClampNeg) hs ht) rfl rfl rfl rfl (by decide) wd_1121 wd_1118 wd_1119 wd_1120 wd_8 (n9 := 2) (by decide +kernel) rfl ⟨(Nat.le_of_ble_eq_true rfl), (Nat.le_of_ble_eq_true rfl)⟩ hl.1 rfl (Nat.le_of_ble_eq_true rfl) d_L_law_863 (Nat.le_of_ble_eq_true rfl) (Nat.le_of_ble_eq_true rfl) (fun H locs w => ?_)
      have w : Wd D (lA s) s [((qn 0), .inr (1, fP 0 qp)), ((qn 5), .inr (6, fA 0 qm)), ((qp 1), .inl (cI, 10, .inl (fun _ => 0))), ((qp 6), .inl (cI, 10, .inl (fun _ => 0))), ((qp 7), .inl (cI, 10, .inl (fun _ => 0))), ((qp 8), .inl (cI, 10, .inl (fun _ => 0))), ((qp 9), .inl (cI, 10, .inl (fun _ => 0))), ((qm 5), .inl (cI, 16, .inl (fun _ => 0))), ((qr3 2), .inl (cI, 10, .inl (fun _ => 0))), ((qr3 7), .inl (cI, 10, .inl (fun _ => 0))), ((qr3 33), .inl (cI, 16, .inl (fun _ => 0))), (q4, .inl (cJ, 1, .inr (.inl (fun _ => 0)))), (o2, .inr (7, fR 1 0 0 0 qr3))] H _ := w
      refine lv_istore hx hb d_L_law_866 hl (by decide) rfl (fun ls hl => ?_)
      have hl : lv_has ls 7 [(6, .int 0), (5, .int 1), (4, .int 0), (3, .ref q4), (2, .ref o2), (1, .ref o1), (0, .ref b)] := hl
      refine lv_aload_n hx hb d_L_law_868 rfl (lv_at hl 4 rfl) ?_
      refine R_ri C0 w (rest := []) 12 rfl rfl [12] (c_thrown l D cI cB cJ o2 qr3 1 0 0 0) rfl rfl wd_955 wd_952 wd_953 wd_954 wd_8 (n9 := 0) (by decide +kernel) rfl ⟨(Nat.le_of_ble_eq_true rfl), (Nat.le_of_ble_eq_true rfl)⟩ hl.1 rfl (Nat.le_of_ble_eq_true rfl) d_L_law_869 (Nat.le_of_ble_eq_true rfl) (Nat.le_of_ble_eq_true rfl) ?_
      refine lv_iload hx hb d_L_law_872 (lv_at hl 1 rfl) ?_
      refine lv_icmp_eq (tgt := 879) hx hb d_L_law_874 (by decide) (fun hc874 => ?_) (fun hc => absurd (by decide) hc)
      refine lv_iload hx hb d_L_law_879 (lv_at hl 1 rfl) ?_
      refine lv_if_ne (tgt := 896) hx hb d_L_law_881 (by decide) (fun hc881 => ?_) (fun hc => absurd hc (by decide))
      refine lv_goto (tgt := 993) hx hb d_L_law_896 (by decide) ?_
      exact law_tail C0 hX hbl hr hlk htl (Nat.le_of_ble_eq_true rfl) (Nat.le_of_ble_eq_true rfl) w (lv_sub hl [2, 6] rfl)
    · refine lv_iconst (v := 1) hx hb d_L_law_852 (by decide) ?_
      refine lv_goto (tgt := 857) hx hb d_L_law_853 (by decide) ?_
      refine lv_aload_n hx hb d_L_law_857 rfl (lv_at hl 5 rfl) ?_
      refine lv_iload hx hb d_L_law_858 (lv_at hl 1 rfl) ?_
      refine lv_iconst (v := 2) hx hb d_L_law_860 (by decide) ?_
      refine lv_iadd hx hb d_L_law_861 ?_
      refine lv_cst (x := 0 + 2) (y := 2) (by decide) ?_
      refine va_sld hx hb hX hbl hbA w.2.2.1 (vin (by decide)) d_L_law_862 ?_
      refine R_vi C0 w (rest := []) (wr := [((qn 0), .inr (1, fP 0 qp)), ((qn 5), .inr (6, fA 0 qm)), ((qp 1), .inl (cI, 10, .inl (fun _ => 0))), ((qp 6), .inl (cI, 10, .inl (fun _ => 0))), ((qp 7), .inl (cI, 10, .inl (fun _ => 0))), ((qp 8), .inl (cI, 10, .inl (fun _ => 0))), ((qp 9), .inl (cI, 10, .inl (fun _ => 0))), ((qm 5), .inl (cI, 16, .inl (fun _ => 0))), ((qr3 2), .inl (cI, 10, .inl (fun _ => 0))), ((qr3 7), .inl (cI, 10, .inl (fun _ => 0))), ((qr3 33), .inl (cI, 16, .inl (fun _ => 0))), (q4, .inl (cJ, 1, .inr (.inl (fun _ => 0))))]) (w1 := [(o2, .inr (7, fR 1 0 0 0 qr3))]) 8 rfl rfl [8] [0, 1, 2, 3, 4, 5, 6, 7, 9, 10, 11, 12] (c_R_runB l D cI cB cJ o2 qr3 1 (xs (2 : Int32).toNatClampNeg) hs ht) rfl rfl rfl rfl (by decide) wd_1121 wd_1118 wd_1119 wd_1120 wd_8 (n9 := 2) (by decide +kernel) rfl ⟨(Nat.le_of_ble_eq_true rfl), (Nat.le_of_ble_eq_true rfl)⟩ hl.1 rfl (Nat.le_of_ble_eq_true rfl) d_L_law_863 (Nat.le_of_ble_eq_true rfl) (Nat.le_of_ble_eq_true rfl) (fun H locs w => ?_)
      have w : Wd D (lA s) s [((qn 0), .inr (1, fP 0 qp)), ((qn 5), .inr (6, fA 0 qm)), ((qp 1), .inl (cI, 10, .inl (fun _ => 0))), ((qp 6), .inl (cI, 10, .inl (fun _ => 0))), ((qp 7), .inl (cI, 10, .inl (fun _ => 0))), ((qp 8), .inl (cI, 10, .inl (fun _ => 0))), ((qp 9), .inl (cI, 10, .inl (fun _ => 0))), ((qm 5), .inl (cI, 16, .inl (fun _ => 0))), ((qr3 2), .inl (cI, 10, .inl (fun _ => 0))), ((qr3 7), .inl (cI, 10, .inl (fun _ => 0))), ((qr3 33), .inl (cI, 16, .inl (fun _ => 0))), (q4, .inl (cJ, 1, .inr (.inl (fun _ => 0)))), (o2, .inr (7, fR 1 0 0 0 qr3))] H _ := w
      refine lv_istore hx hb d_L_law_866 hl (by decide) rfl (fun ls hl => ?_)
      have hl : lv_has ls 7 [(6, .int 0), (5, .int 1), (4, .int 0), (3, .ref q4), (2, .ref o2), (1, .ref o1), (0, .ref b)] := hl
      refine lv_aload_n hx hb d_L_law_868 rfl (lv_at hl 4 rfl) ?_
      refine R_ri C0 w (rest := []) 12 rfl rfl [12] (c_thrown l D cI cB cJ o2 qr3 1 0 0 0) rfl rfl wd_955 wd_952 wd_953 wd_954 wd_8 (n9 := 0) (by decide +kernel) rfl ⟨(Nat.le_of_ble_eq_true rfl), (Nat.le_of_ble_eq_true rfl)⟩ hl.1 rfl (Nat.le_of_ble_eq_true rfl) d_L_law_869 (Nat.le_of_ble_eq_true rfl) (Nat.le_of_ble_eq_true rfl) ?_
      refine lv_iload hx hb d_L_law_872 (lv_at hl 1 rfl) ?_
      refine lv_icmp_eq (tgt := 879) hx hb d_L_law_874 (by decide) (fun hc874 => ?_) (fun hc => absurd (by decide) hc)
      refine lv_iload hx hb d_L_law_879 (lv_at hl 1 rfl) ?_
      refine lv_if_ne (tgt := 896) hx hb d_L_law_881 (by decide) (fun hc881 => ?_) (fun hc => absurd hc (by decide))
      refine lv_goto (tgt := 993) hx hb d_L_law_896 (by decide) ?_
      exact law_tail C0 hX hbl hr hlk htl (Nat.le_of_ble_eq_true rfl) (Nat.le_of_ble_eq_true rfl) w (lv_sub hl [2, 6] rfl)
  · refine lv_iconst (v := 1) hx hb d_L_law_825 (by decide) ?_
    refine lv_goto (tgt := 830) hx hb d_L_law_826 (by decide) ?_
    refine lv_aload_n hx hb d_L_law_830 rfl (lv_at hl 4 rfl) ?_
    refine lv_iload hx hb d_L_law_831 (lv_at hl 0 rfl) ?_
    refine lv_iconst (v := 2) hx hb d_L_law_833 (by decide) ?_
    refine lv_iadd hx hb d_L_law_834 ?_
    refine lv_cst (x := 0 + 2) (y := 2) (by decide) ?_
    refine va_sld hx hb hX hbl hbA w.2.2.1 (vin (by decide)) d_L_law_835 ?_
    refine lv_aload_n hx hb d_L_law_836 rfl (lv_at hl 1 rfl) ?_
    refine R_sh C0 w (rest := []) (wr := [((qn 0), .inr (1, fP 0 qp)), ((qn 5), .inr (6, fA 0 qm)), ((qp 1), .inl (cI, 10, .inl (fun _ => 0))), ((qp 6), .inl (cI, 10, .inl (fun _ => 0))), ((qp 7), .inl (cI, 10, .inl (fun _ => 0))), ((qp 8), .inl (cI, 10, .inl (fun _ => 0))), ((qp 9), .inl (cI, 10, .inl (fun _ => 0))), ((qm 5), .inl (cI, 16, .inl (fun _ => 0))), (o2, .inr (7, fR 0 0 0 0 qr3)), ((qr3 2), .inl (cI, 10, .inl (fun _ => 0))), ((qr3 7), .inl (cI, 10, .inl (fun _ => 0))), ((qr3 33), .inl (cI, 16, .inl (fun _ => 0))), (q4, .inl (cJ, 1, .inr (.inl (fun _ => 0))))]) (w1 := []) [0] [1, 2, 3, 4, 5, 6, 7, 8, 9, 10, 11, 12, 13] (c_L_runB l D cI cB cJ o1 qn 1 (xs (2 : Int32).toNatClampNeg) q4 htl hs ht) rfl rfl rfl rfl (by decide) wd_758 wd_756 wd_757 wd_0 (n9 := 4) (by decide +kernel) rfl ⟨(Nat.le_of_ble_eq_true rfl), (Nat.le_of_ble_eq_true rfl)⟩ hl.1 rfl (Nat.le_of_ble_eq_true rfl) d_L_law_837 (Nat.le_of_ble_eq_true rfl) (Nat.le_of_ble_eq_true rfl) (fun H locs w => ?_)
    refine W.cs (cells' := 166) (slots' := 3476) rfl rfl ?_
    have w : Wd D (lA s) s [((qn 0), .inr (1, fP 0 qp)), ((qn 5), .inr (6, fA 0 qm)), ((qp 1), .inl (cI, 10, .inl (fun _ => 0))), ((qp 6), .inl (cI, 10, .inl (fun _ => 0))), ((qp 7), .inl (cI, 10, .inl (fun _ => 0))), ((qp 8), .inl (cI, 10, .inl (fun _ => 0))), ((qp 9), .inl (cI, 10, .inl (fun _ => 0))), ((qm 5), .inl (cI, 16, .inl (fun _ => 0))), (o2, .inr (7, fR 0 0 0 0 qr3)), ((qr3 2), .inl (cI, 10, .inl (fun _ => 0))), ((qr3 7), .inl (cI, 10, .inl (fun _ => 0))), ((qr3 33), .inl (cI, 16, .inl (fun _ => 0))), (q4, .inl (cJ, 1, .inr (.inl (fun _ => 0))))] H _ := w
    refine lv_istore hx hb d_L_law_840 hl (by decide) rfl (fun ls hl => ?_)
    have hl : lv_has ls 7 [(5, .int 1), (4, .int 0), (3, .ref q4), (2, .ref o2), (1, .ref o1), (0, .ref b)] := hl
    refine lv_aload_n hx hb d_L_law_842 rfl (lv_at hl 3 rfl) ?_
    refine lv_aload_n hx hb d_L_law_843 rfl (lv_at hl 5 rfl) ?_
    refine lv_iload hx hb d_L_law_844 (lv_at hl 1 rfl) ?_
    refine lv_iconst (v := 1) hx hb d_L_law_846 (by decide) ?_
    refine lv_iadd hx hb d_L_law_847 ?_
    refine lv_cst (x := 0 + 1) (y := 1) (by decide) ?_
    refine va_sld hx hb hX hbl hbA w.2.2.1 (vin (by decide)) d_L_law_848 ?_
    refine lv_if_eq (tgt := 856) hx hb d_L_law_849 (by decide) (fun hc849 => ?_) (fun hc849 => ?_)
    · refine lv_iconst (v := 0) hx hb d_L_law_856 (by decide) ?_
      refine lv_aload_n hx hb d_L_law_857 rfl (lv_at hl 5 rfl) ?_
      refine lv_iload hx hb d_L_law_858 (lv_at hl 1 rfl) ?_
      refine lv_iconst (v := 2) hx hb d_L_law_860 (by decide) ?_
      refine lv_iadd hx hb d_L_law_861 ?_
      refine lv_cst (x := 0 + 2) (y := 2) (by decide) ?_
      refine va_sld hx hb hX hbl hbA w.2.2.1 (vin (by decide)) d_L_law_862 ?_
      refine R_vi C0 w (rest := []) (wr := [((qn 0), .inr (1, fP 0 qp)), ((qn 5), .inr (6, fA 0 qm)), ((qp 1), .inl (cI, 10, .inl (fun _ => 0))), ((qp 6), .inl (cI, 10, .inl (fun _ => 0))), ((qp 7), .inl (cI, 10, .inl (fun _ => 0))), ((qp 8), .inl (cI, 10, .inl (fun _ => 0))), ((qp 9), .inl (cI, 10, .inl (fun _ => 0))), ((qm 5), .inl (cI, 16, .inl (fun _ => 0))), ((qr3 2), .inl (cI, 10, .inl (fun _ => 0))), ((qr3 7), .inl (cI, 10, .inl (fun _ => 0))), ((qr3 33), .inl (cI, 16, .inl (fun _ => 0))), (q4, .inl (cJ, 1, .inr (.inl (fun _ => 0))))]) (w1 := [(o2, .inr (7, fR 1 0 0 0 qr3))]) 8 rfl rfl [8] [0, 1, 2, 3, 4, 5, 6, 7, 9, 10, 11, 12] (c_R_runB l D cI cB cJ o2 qr3 0 (xs (2 : Int32).toNatClampNeg) hs ht) rfl rfl rfl rfl (by decide) wd_1121 wd_1118 wd_1119 wd_1120 wd_8 (n9 := 2) (by decide +kernel) rfl ⟨(Nat.le_of_ble_eq_true rfl), (Nat.le_of_ble_eq_true rfl)⟩ hl.1 rfl (Nat.le_of_ble_eq_true rfl) d_L_law_863 (Nat.le_of_ble_eq_true rfl) (Nat.le_of_ble_eq_true rfl) (fun H locs w => ?_)
      have w : Wd D (lA s) s [((qn 0), .inr (1, fP 0 qp)), ((qn 5), .inr (6, fA 0 qm)), ((qp 1), .inl (cI, 10, .inl (fun _ => 0))), ((qp 6), .inl (cI, 10, .inl (fun _ => 0))), ((qp 7), .inl (cI, 10, .inl (fun _ => 0))), ((qp 8), .inl (cI, 10, .inl (fun _ => 0))), ((qp 9), .inl (cI, 10, .inl (fun _ => 0))), ((qm 5), .inl (cI, 16, .inl (fun _ => 0))), ((qr3 2), .inl (cI, 10, .inl (fun _ => 0))), ((qr3 7), .inl (cI, 10, .inl (fun _ => 0))), ((qr3 33), .inl (cI, 16, .inl (fun _ => 0))), (q4, .inl (cJ, 1, .inr (.inl (fun _ => 0)))), (o2, .inr (7, fR 1 0 0 0 qr3))] H _ := w
      refine lv_istore hx hb d_L_law_866 hl (by decide) rfl (fun ls hl => ?_)
      have hl : lv_has ls 7 [(6, .int 0), (5, .int 1), (4, .int 0), (3, .ref q4), (2, .ref o2), (1, .ref o1), (0, .ref b)] := hl
      refine lv_aload_n hx hb d_L_law_868 rfl (lv_at hl 4 rfl) ?_
      refine R_ri C0 w (rest := []) 12 rfl rfl [12] (c_thrown l D cI cB cJ o2 qr3 1 0 0 0) rfl rfl wd_955 wd_952 wd_953 wd_954 wd_8 (n9 := 0) (by decide +kernel) rfl ⟨(Nat.le_of_ble_eq_true rfl), (Nat.le_of_ble_eq_true rfl)⟩ hl.1 rfl (Nat.le_of_ble_eq_true rfl) d_L_law_869 (Nat.le_of_ble_eq_true rfl) (Nat.le_of_ble_eq_true rfl) ?_
      refine lv_iload hx hb d_L_law_872 (lv_at hl 1 rfl) ?_
      refine lv_icmp_eq (tgt := 879) hx hb d_L_law_874 (by decide) (fun hc874 => ?_) (fun hc => absurd (by decide) hc)
      refine lv_iload hx hb d_L_law_879 (lv_at hl 1 rfl) ?_
      refine lv_if_ne (tgt := 896) hx hb d_L_law_881 (by decide) (fun hc881 => ?_) (fun hc => absurd hc (by decide))
      refine lv_goto (tgt := 993) hx hb d_L_law_896 (by decide) ?_
      exact law_tail C0 hX hbl hr hlk htl (Nat.le_of_ble_eq_true rfl) (Nat.le_of_ble_eq_true rfl) w (lv_sub hl [2, 6] rfl)
    · refine lv_iconst (v := 1) hx hb d_L_law_852 (by decide) ?_
      refine lv_goto (tgt := 857) hx hb d_L_law_853 (by decide) ?_
      refine lv_aload_n hx hb d_L_law_857 rfl (lv_at hl 5 rfl) ?_
      refine lv_iload hx hb d_L_law_858 (lv_at hl 1 rfl) ?_
      refine lv_iconst (v := 2) hx hb d_L_law_860 (by decide) ?_
      refine lv_iadd hx hb d_L_law_861 ?_
      refine lv_cst (x := 0 + 2) (y := 2) (by decide) ?_
      refine va_sld hx hb hX hbl hbA w.2.2.1 (vin (by decide)) d_L_law_862 ?_
      refine R_vi C0 w (rest := []) (wr := [((qn 0), .inr (1, fP 0 qp)), ((qn 5), .inr (6, fA 0 qm)), ((qp 1), .inl (cI, 10, .inl (fun _ => 0))), ((qp 6), .inl (cI, 10, .inl (fun _ => 0))), ((qp 7), .inl (cI, 10, .inl (fun _ => 0))), ((qp 8), .inl (cI, 10, .inl (fun _ => 0))), ((qp 9), .inl (cI, 10, .inl (fun _ => 0))), ((qm 5), .inl (cI, 16, .inl (fun _ => 0))), ((qr3 2), .inl (cI, 10, .inl (fun _ => 0))), ((qr3 7), .inl (cI, 10, .inl (fun _ => 0))), ((qr3 33), .inl (cI, 16, .inl (fun _ => 0))), (q4, .inl (cJ, 1, .inr (.inl (fun _ => 0))))]) (w1 := [(o2, .inr (7, fR 1 0 0 0 qr3))]) 8 rfl rfl [8] [0, 1, 2, 3, 4, 5, 6, 7, 9, 10, 11, 12] (c_R_runB l D cI cB cJ o2 qr3 1 (xs (2 : Int32).toNatClampNeg) hs ht) rfl rfl rfl rfl (by decide) wd_1121 wd_1118 wd_1119 wd_1120 wd_8 (n9 := 2) (by decide +kernel) rfl ⟨(Nat.le_of_ble_eq_true rfl), (Nat.le_of_ble_eq_true rfl)⟩ hl.1 rfl (Nat.le_of_ble_eq_true rfl) d_L_law_863 (Nat.le_of_ble_eq_true rfl) (Nat.le_of_ble_eq_true rfl) (fun H locs w => ?_)
      have w : Wd D (lA s) s [((qn 0), .inr (1, fP 0 qp)), ((qn 5), .inr (6, fA 0 qm)), ((qp 1), .inl (cI, 10, .inl (fun _ => 0))), ((qp 6), .inl (cI, 10, .inl (fun _ => 0))), ((qp 7), .inl (cI, 10, .inl (fun _ => 0))), ((qp 8), .inl (cI, 10, .inl (fun _ => 0))), ((qp 9), .inl (cI, 10, .inl (fun _ => 0))), ((qm 5), .inl (cI, 16, .inl (fun _ => 0))), ((qr3 2), .inl (cI, 10, .inl (fun _ => 0))), ((qr3 7), .inl (cI, 10, .inl (fun _ => 0))), ((qr3 33), .inl (cI, 16, .inl (fun _ => 0))), (q4, .inl (cJ, 1, .inr (.inl (fun _ => 0)))), (o2, .inr (7, fR 1 0 0 0 qr3))] H _ := w
      refine lv_istore hx hb d_L_law_866 hl (by decide) rfl (fun ls hl => ?_)
      have hl : lv_has ls 7 [(6, .int 0), (5, .int 1), (4, .int 0), (3, .ref q4), (2, .ref o2), (1, .ref o1), (0, .ref b)] := hl
      refine lv_aload_n hx hb d_L_law_868 rfl (lv_at hl 4 rfl) ?_
      refine R_ri C0 w (rest := []) 12 rfl rfl [12] (c_thrown l D cI cB cJ o2 qr3 1 0 0 0) rfl rfl wd_955 wd_952 wd_953 wd_954 wd_8 (n9 := 0) (by decide +kernel) rfl ⟨(Nat.le_of_ble_eq_true rfl), (Nat.le_of_ble_eq_true rfl)⟩ hl.1 rfl (Nat.le_of_ble_eq_true rfl) d_L_law_869 (Nat.le_of_ble_eq_true rfl) (Nat.le_of_ble_eq_true rfl) ?_
      refine lv_iload hx hb d_L_law_872 (lv_at hl 1 rfl) ?_
      refine lv_icmp_eq (tgt := 879) hx hb d_L_law_874 (by decide) (fun hc874 => ?_) (fun hc => absurd (by decide) hc)
      refine lv_iload hx hb d_L_law_879 (lv_at hl 1 rfl) ?_
      refine lv_if_ne (tgt := 896) hx hb d_L_law_881 (by decide) (fun hc881 => ?_) (fun hc => absurd hc (by decide))
      refine lv_goto (tgt := 993) hx hb d_L_law_896 (by decide) ?_
      exact law_tail C0 hX hbl hr hlk htl (Nat.le_of_ble_eq_true rfl) (Nat.le_of_ble_eq_true rfl) w (lv_sub hl [2, 6] rfl)
set_option maxHeartbeats 4000000 in
set_option maxRecDepth 100000 in
theorem law_case13C {qm : Nat → Nat} {qn : Nat → Nat} {qp : Nat → Nat} {qr3 : Nat → Nat} {o1 : Nat} {o2 : Nat} {q4 : Nat} (C0 : Cx p s m #[Value.ref b] c code 7 "NameForgeLaw" D cI cB cJ) (hX : va_X b 6 xs s s.heap) (hbl : b < s.heap.size) (hr : meth.sig.returnType = ret) (hlk : meth.locks = false) (htl : l.stackTraces = false) (hs : ¬ xs (2 : Int32).toNatClampNeg < 0) (ht : xs (2 : Int32).toNatClampNeg ≤ 200) (w : Wd D (lA s) s [(o1, .inr (0, fN 0 qn)), ((qn 0), .inr (1, fP 0 qp)), ((qn 5), .inr (6, fA 0 qm)), ((qp 1), .inl (cI, 10, .inl (fun _ => 0))), ((qp 6), .inl (cI, 10, .inl (fun _ => 0))), ((qp 7), .inl (cI, 10, .inl (fun _ => 0))), ((qp 8), .inl (cI, 10, .inl (fun _ => 0))), ((qp 9), .inl (cI, 10, .inl (fun _ => 0))), ((qm 5), .inl (cI, 16, .inl (fun _ => 0))), (o2, .inr (7, fR 0 0 0 0 qr3)), ((qr3 2), .inl (cI, 10, .inl (fun _ => 0))), ((qr3 7), .inl (cI, 10, .inl (fun _ => 0))), ((qr3 33), .inl (cI, 16, .inl (fun _ => 0))), (q4, .inl (cJ, 1, .inr (.inl (fun _ => 0))))] H locs) (hl : lv_has ls 7 [(4, .int 0), (3, .ref q4), (2, .ref o2), (1, .ref o1), (0, .ref b)]) : W p l e room_1 s m #[Value.ref b] below meth c H locs 165 3470 (lw_Z below #[Value.ref b] s) (F0 m 815 ls []) := by
  have hx := C0.1
  have hb := C0.2.1
  have hbA : ¬ lA s b := fun h => absurd hbl (Nat.not_lt.mpr h)
  refine lv_aload_n hx hb d_L_law_815 rfl (lv_at hl 3 rfl) ?_
  refine lv_aload_n hx hb d_L_law_816 rfl (lv_at hl 4 rfl) ?_
  refine lv_iload hx hb d_L_law_817 (lv_at hl 0 rfl) ?_
  refine lv_iconst (v := 1) hx hb d_L_law_819 (by decide) ?_
  refine lv_iadd hx hb d_L_law_820 ?_
  refine lv_cst (x := 0 + 1) (y := 1) (by decide) ?_
  refine va_sld hx hb hX hbl hbA w.2.2.1 (vin (by decide)) d_L_law_821 ?_
  refine lv_if_eq (tgt := 829) hx hb d_L_law_822 (by decide) (fun hc822 => ?_) (fun hc822 => ?_)
  · refine lv_iconst (v := 0) hx hb d_L_law_829 (by decide) ?_
    refine lv_aload_n hx hb d_L_law_830 rfl (lv_at hl 4 rfl) ?_
    refine lv_iload hx hb d_L_law_831 (lv_at hl 0 rfl) ?_
    refine lv_iconst (v := 2) hx hb d_L_law_833 (by decide) ?_
    refine lv_iadd hx hb d_L_law_834 ?_
    refine lv_cst (x := 0 + 2) (y := 2) (by decide) ?_
    refine va_sld hx hb hX hbl hbA w.2.2.1 (vin (by decide)) d_L_law_835 ?_
    refine lv_aload_n hx hb d_L_law_836 rfl (lv_at hl 1 rfl) ?_
    refine R_sh C0 w (rest := []) (wr := [((qn 0), .inr (1, fP 0 qp)), ((qn 5), .inr (6, fA 0 qm)), ((qp 1), .inl (cI, 10, .inl (fun _ => 0))), ((qp 6), .inl (cI, 10, .inl (fun _ => 0))), ((qp 7), .inl (cI, 10, .inl (fun _ => 0))), ((qp 8), .inl (cI, 10, .inl (fun _ => 0))), ((qp 9), .inl (cI, 10, .inl (fun _ => 0))), ((qm 5), .inl (cI, 16, .inl (fun _ => 0))), (o2, .inr (7, fR 0 0 0 0 qr3)), ((qr3 2), .inl (cI, 10, .inl (fun _ => 0))), ((qr3 7), .inl (cI, 10, .inl (fun _ => 0))), ((qr3 33), .inl (cI, 16, .inl (fun _ => 0))), (q4, .inl (cJ, 1, .inr (.inl (fun _ => 0))))]) (w1 := []) [0] [1, 2, 3, 4, 5, 6, 7, 8, 9, 10, 11, 12, 13] (c_L_runC l D cI cB cJ o1 qn 0 (xs (2 : Int32).toNatClampNeg) q4 htl hs ht) rfl rfl rfl rfl (by decide) wd_758 wd_756 wd_757 wd_0 (n9 := 4) (by decide +kernel) rfl ⟨(Nat.le_of_ble_eq_true rfl), (Nat.le_of_ble_eq_true rfl)⟩ hl.1 rfl (Nat.le_of_ble_eq_true rfl) d_L_law_837 (Nat.le_of_ble_eq_true rfl) (Nat.le_of_ble_eq_true rfl) (fun H locs w => ?_)
    refine W.cs (cells' := 166) (slots' := 3476) rfl rfl ?_
    have w : Wd D (lA s) s [((qn 0), .inr (1, fP 0 qp)), ((qn 5), .inr (6, fA 0 qm)), ((qp 1), .inl (cI, 10, .inl (fun _ => 0))), ((qp 6), .inl (cI, 10, .inl (fun _ => 0))), ((qp 7), .inl (cI, 10, .inl (fun _ => 0))), ((qp 8), .inl (cI, 10, .inl (fun _ => 0))), ((qp 9), .inl (cI, 10, .inl (fun _ => 0))), ((qm 5), .inl (cI, 16, .inl (fun _ => 0))), (o2, .inr (7, fR 0 0 0 0 qr3)), ((qr3 2), .inl (cI, 10, .inl (fun _ => 0))), ((qr3 7), .inl (cI, 10, .inl (fun _ => 0))), ((qr3 33), .inl (cI, 16, .inl (fun _ => 0))), (q4, .inl (cJ, 1, .inr (.inl (fun _ => 0))))] H _ := w
    refine lv_istore hx hb d_L_law_840 hl (by decide) rfl (fun ls hl => ?_)
    have hl : lv_has ls 7 [(5, .int 2), (4, .int 0), (3, .ref q4), (2, .ref o2), (1, .ref o1), (0, .ref b)] := hl
    refine lv_aload_n hx hb d_L_law_842 rfl (lv_at hl 3 rfl) ?_
    refine lv_aload_n hx hb d_L_law_843 rfl (lv_at hl 5 rfl) ?_
    refine lv_iload hx hb d_L_law_844 (lv_at hl 1 rfl) ?_
    refine lv_iconst (v := 1) hx hb d_L_law_846 (by decide) ?_
    refine lv_iadd hx hb d_L_law_847 ?_
    refine lv_cst (x := 0 + 1) (y := 1) (by decide) ?_
    refine va_sld hx hb hX hbl hbA w.2.2.1 (vin (by decide)) d_L_law_848 ?_
    refine lv_if_eq (tgt := 856) hx hb d_L_law_849 (by decide) (fun hc849 => ?_) (fun hc849 => ?_)
    · refine lv_iconst (v := 0) hx hb d_L_law_856 (by decide) ?_
      refine lv_aload_n hx hb d_L_law_857 rfl (lv_at hl 5 rfl) ?_
      refine lv_iload hx hb d_L_law_858 (lv_at hl 1 rfl) ?_
      refine lv_iconst (v := 2) hx hb d_L_law_860 (by decide) ?_
      refine lv_iadd hx hb d_L_law_861 ?_
      refine lv_cst (x := 0 + 2) (y := 2) (by decide) ?_
      refine va_sld hx hb hX hbl hbA w.2.2.1 (vin (by decide)) d_L_law_862 ?_
      refine R_vi C0 w (rest := []) (wr := [((qn 0), .inr (1, fP 0 qp)), ((qn 5), .inr (6, fA 0 qm)), ((qp 1), .inl (cI, 10, .inl (fun _ => 0))), ((qp 6), .inl (cI, 10, .inl (fun _ => 0))), ((qp 7), .inl (cI, 10, .inl (fun _ => 0))), ((qp 8), .inl (cI, 10, .inl (fun _ => 0))), ((qp 9), .inl (cI, 10, .inl (fun _ => 0))), ((qm 5), .inl (cI, 16, .inl (fun _ => 0))), ((qr3 2), .inl (cI, 10, .inl (fun _ => 0))), ((qr3 7), .inl (cI, 10, .inl (fun _ => 0))), ((qr3 33), .inl (cI, 16, .inl (fun _ => 0))), (q4, .inl (cJ, 1, .inr (.inl (fun _ => 0))))]) (w1 := [(o2, .inr (7, fR 2 0 0 0 qr3))]) 8 rfl rfl [8] [0, 1, 2, 3, 4, 5, 6, 7, 9, 10, 11, 12] (c_R_runC l D cI cB cJ o2 qr3 0 (xs (2 : Int32).toNatClampNeg) hs ht) rfl rfl rfl rfl (by decide) wd_1121 wd_1118 wd_1119 wd_1120 wd_8 (n9 := 2) (by decide +kernel) rfl ⟨(Nat.le_of_ble_eq_true rfl), (Nat.le_of_ble_eq_true rfl)⟩ hl.1 rfl (Nat.le_of_ble_eq_true rfl) d_L_law_863 (Nat.le_of_ble_eq_true rfl) (Nat.le_of_ble_eq_true rfl) (fun H locs w => ?_)
      have w : Wd D (lA s) s [((qn 0), .inr (1, fP 0 qp)), ((qn 5), .inr (6, fA 0 qm)), ((qp 1), .inl (cI, 10, .inl (fun _ => 0))), ((qp 6), .inl (cI, 10, .inl (fun _ => 0))), ((qp 7), .inl (cI, 10, .inl (fun _ => 0))), ((qp 8), .inl (cI, 10, .inl (fun _ => 0))), ((qp 9), .inl (cI, 10, .inl (fun _ => 0))), ((qm 5), .inl (cI, 16, .inl (fun _ => 0))), ((qr3 2), .inl (cI, 10, .inl (fun _ => 0))), ((qr3 7), .inl (cI, 10, .inl (fun _ => 0))), ((qr3 33), .inl (cI, 16, .inl (fun _ => 0))), (q4, .inl (cJ, 1, .inr (.inl (fun _ => 0)))), (o2, .inr (7, fR 2 0 0 0 qr3))] H _ := w
      refine lv_istore hx hb d_L_law_866 hl (by decide) rfl (fun ls hl => ?_)
      have hl : lv_has ls 7 [(6, .int 0), (5, .int 2), (4, .int 0), (3, .ref q4), (2, .ref o2), (1, .ref o1), (0, .ref b)] := hl
      refine lv_aload_n hx hb d_L_law_868 rfl (lv_at hl 4 rfl) ?_
      refine R_ri C0 w (rest := []) 12 rfl rfl [12] (c_thrown l D cI cB cJ o2 qr3 2 0 0 0) rfl rfl wd_955 wd_952 wd_953 wd_954 wd_8 (n9 := 0) (by decide +kernel) rfl ⟨(Nat.le_of_ble_eq_true rfl), (Nat.le_of_ble_eq_true rfl)⟩ hl.1 rfl (Nat.le_of_ble_eq_true rfl) d_L_law_869 (Nat.le_of_ble_eq_true rfl) (Nat.le_of_ble_eq_true rfl) ?_
      refine lv_iload hx hb d_L_law_872 (lv_at hl 1 rfl) ?_
      refine lv_icmp_eq (tgt := 879) hx hb d_L_law_874 (by decide) (fun hc874 => ?_) (fun hc => absurd (by decide) hc)
      refine lv_iload hx hb d_L_law_879 (lv_at hl 1 rfl) ?_
      refine lv_if_ne (tgt := 896) hx hb d_L_law_881 (by decide) (fun hc881 => ?_) (fun hc => absurd hc (by decide))
      refine lv_goto (tgt := 993) hx hb d_L_law_896 (by decide) ?_
      exact law_tail C0 hX hbl hr hlk htl (Nat.le_of_ble_eq_true rfl) (Nat.le_of_ble_eq_true rfl) w (lv_sub hl [2, 6] rfl)
    · refine lv_iconst (v := 1) hx hb d_L_law_852 (by decide) ?_
      refine lv_goto (tgt := 857) hx hb d_L_law_853 (by decide) ?_
      refine lv_aload_n hx hb d_L_law_857 rfl (lv_at hl 5 rfl) ?_
      refine lv_iload hx hb d_L_law_858 (lv_at hl 1 rfl) ?_
      refine lv_iconst (v := 2) hx hb d_L_law_860 (by decide) ?_
      refine lv_iadd hx hb d_L_law_861 ?_
      refine lv_cst (x := 0 + 2) (y := 2) (by decide) ?_
      refine va_sld hx hb hX hbl hbA w.2.2.1 (vin (by decide)) d_L_law_862 ?_
      refine R_vi C0 w (rest := []) (wr := [((qn 0), .inr (1, fP 0 qp)), ((qn 5), .inr (6, fA 0 qm)), ((qp 1), .inl (cI, 10, .inl (fun _ => 0))), ((qp 6), .inl (cI, 10, .inl (fun _ => 0))), ((qp 7), .inl (cI, 10, .inl (fun _ => 0))), ((qp 8), .inl (cI, 10, .inl (fun _ => 0))), ((qp 9), .inl (cI, 10, .inl (fun _ => 0))), ((qm 5), .inl (cI, 16, .inl (fun _ => 0))), ((qr3 2), .inl (cI, 10, .inl (fun _ => 0))), ((qr3 7), .inl (cI, 10, .inl (fun _ => 0))), ((qr3 33), .inl (cI, 16, .inl (fun _ => 0))), (q4, .inl (cJ, 1, .inr (.inl (fun _ => 0))))]) (w1 := [(o2, .inr (7, fR 2 0 0 0 qr3))]) 8 rfl rfl [8] [0, 1, 2, 3, 4, 5, 6, 7, 9, 10, 11, 12] (c_R_runC l D cI cB cJ o2 qr3 1 (xs (2 : Int32).toNatClampNeg) hs ht) rfl rfl rfl rfl (by decide) wd_1121 wd_1118 wd_1119 wd_1120 wd_8 (n9 := 2) (by decide +kernel) rfl ⟨(Nat.le_of_ble_eq_true rfl), (Nat.le_of_ble_eq_true rfl)⟩ hl.1 rfl (Nat.le_of_ble_eq_true rfl) d_L_law_863 (Nat.le_of_ble_eq_true rfl) (Nat.le_of_ble_eq_true rfl) (fun H locs w => ?_)
      have w : Wd D (lA s) s [((qn 0), .inr (1, fP 0 qp)), ((qn 5), .inr (6, fA 0 qm)), ((qp 1), .inl (cI, 10, .inl (fun _ => 0))), ((qp 6), .inl (cI, 10, .inl (fun _ => 0))), ((qp 7), .inl (cI, 10, .inl (fun _ => 0))), ((qp 8), .inl (cI, 10, .inl (fun _ => 0))), ((qp 9), .inl (cI, 10, .inl (fun _ => 0))), ((qm 5), .inl (cI, 16, .inl (fun _ => 0))), ((qr3 2), .inl (cI, 10, .inl (fun _ => 0))), ((qr3 7), .inl (cI, 10, .inl (fun _ => 0))), ((qr3 33), .inl (cI, 16, .inl (fun _ => 0))), (q4, .inl (cJ, 1, .inr (.inl (fun _ => 0)))), (o2, .inr (7, fR 2 0 0 0 qr3))] H _ := w
      refine lv_istore hx hb d_L_law_866 hl (by decide) rfl (fun ls hl => ?_)
      have hl : lv_has ls 7 [(6, .int 0), (5, .int 2), (4, .int 0), (3, .ref q4), (2, .ref o2), (1, .ref o1), (0, .ref b)] := hl
      refine lv_aload_n hx hb d_L_law_868 rfl (lv_at hl 4 rfl) ?_
      refine R_ri C0 w (rest := []) 12 rfl rfl [12] (c_thrown l D cI cB cJ o2 qr3 2 0 0 0) rfl rfl wd_955 wd_952 wd_953 wd_954 wd_8 (n9 := 0) (by decide +kernel) rfl ⟨(Nat.le_of_ble_eq_true rfl), (Nat.le_of_ble_eq_true rfl)⟩ hl.1 rfl (Nat.le_of_ble_eq_true rfl) d_L_law_869 (Nat.le_of_ble_eq_true rfl) (Nat.le_of_ble_eq_true rfl) ?_
      refine lv_iload hx hb d_L_law_872 (lv_at hl 1 rfl) ?_
      refine lv_icmp_eq (tgt := 879) hx hb d_L_law_874 (by decide) (fun hc874 => ?_) (fun hc => absurd (by decide) hc)
      refine lv_iload hx hb d_L_law_879 (lv_at hl 1 rfl) ?_
      refine lv_if_ne (tgt := 896) hx hb d_L_law_881 (by decide) (fun hc881 => ?_) (fun hc => absurd hc (by decide))
      refine lv_goto (tgt := 993) hx hb d_L_law_896 (by decide) ?_
      exact law_tail C0 hX hbl hr hlk htl (Nat.le_of_ble_eq_true rfl) (Nat.le_of_ble_eq_true rfl) w (lv_sub hl [2, 6] rfl)
  · refine lv_iconst (v := 1) hx hb d_L_law_825 (by decide) ?_
    refine lv_goto (tgt := 830) hx hb d_L_law_826 (by decide) ?_
    refine lv_aload_n hx hb d_L_law_830 rfl (lv_at hl 4 rfl) ?_
    refine lv_iload hx hb d_L_law_831 (lv_at hl 0 rfl) ?_
    refine lv_iconst (v := 2) hx hb d_L_law_833 (by decide) ?_
    refine lv_iadd hx hb d_L_law_834 ?_
    refine lv_cst (x := 0 + 2) (y := 2) (by decide) ?_
    refine va_sld hx hb hX hbl hbA w.2.2.1 (vin (by decide)) d_L_law_835 ?_
    refine lv_aload_n hx hb d_L_law_836 rfl (lv_at hl 1 rfl) ?_
    refine R_sh C0 w (rest := []) (wr := [((qn 0), .inr (1, fP 0 qp)), ((qn 5), .inr (6, fA 0 qm)), ((qp 1), .inl (cI, 10, .inl (fun _ => 0))), ((qp 6), .inl (cI, 10, .inl (fun _ => 0))), ((qp 7), .inl (cI, 10, .inl (fun _ => 0))), ((qp 8), .inl (cI, 10, .inl (fun _ => 0))), ((qp 9), .inl (cI, 10, .inl (fun _ => 0))), ((qm 5), .inl (cI, 16, .inl (fun _ => 0))), (o2, .inr (7, fR 0 0 0 0 qr3)), ((qr3 2), .inl (cI, 10, .inl (fun _ => 0))), ((qr3 7), .inl (cI, 10, .inl (fun _ => 0))), ((qr3 33), .inl (cI, 16, .inl (fun _ => 0))), (q4, .inl (cJ, 1, .inr (.inl (fun _ => 0))))]) (w1 := []) [0] [1, 2, 3, 4, 5, 6, 7, 8, 9, 10, 11, 12, 13] (c_L_runC l D cI cB cJ o1 qn 1 (xs (2 : Int32).toNatClampNeg) q4 htl hs ht) rfl rfl rfl rfl (by decide) wd_758 wd_756 wd_757 wd_0 (n9 := 4) (by decide +kernel) rfl ⟨(Nat.le_of_ble_eq_true rfl), (Nat.le_of_ble_eq_true rfl)⟩ hl.1 rfl (Nat.le_of_ble_eq_true rfl) d_L_law_837 (Nat.le_of_ble_eq_true rfl) (Nat.le_of_ble_eq_true rfl) (fun H locs w => ?_)
    refine W.cs (cells' := 166) (slots' := 3476) rfl rfl ?_
    have w : Wd D (lA s) s [((qn 0), .inr (1, fP 0 qp)), ((qn 5), .inr (6, fA 0 qm)), ((qp 1), .inl (cI, 10, .inl (fun _ => 0))), ((qp 6), .inl (cI, 10, .inl (fun _ => 0))), ((qp 7), .inl (cI, 10, .inl (fun _ => 0))), ((qp 8), .inl (cI, 10, .inl (fun _ => 0))), ((qp 9), .inl (cI, 10, .inl (fun _ => 0))), ((qm 5), .inl (cI, 16, .inl (fun _ => 0))), (o2, .inr (7, fR 0 0 0 0 qr3)), ((qr3 2), .inl (cI, 10, .inl (fun _ => 0))), ((qr3 7), .inl (cI, 10, .inl (fun _ => 0))), ((qr3 33), .inl (cI, 16, .inl (fun _ => 0))), (q4, .inl (cJ, 1, .inr (.inl (fun _ => 0))))] H _ := w
    refine lv_istore hx hb d_L_law_840 hl (by decide) rfl (fun ls hl => ?_)
    have hl : lv_has ls 7 [(5, .int 2), (4, .int 0), (3, .ref q4), (2, .ref o2), (1, .ref o1), (0, .ref b)] := hl
    refine lv_aload_n hx hb d_L_law_842 rfl (lv_at hl 3 rfl) ?_
    refine lv_aload_n hx hb d_L_law_843 rfl (lv_at hl 5 rfl) ?_
    refine lv_iload hx hb d_L_law_844 (lv_at hl 1 rfl) ?_
    refine lv_iconst (v := 1) hx hb d_L_law_846 (by decide) ?_
    refine lv_iadd hx hb d_L_law_847 ?_
    refine lv_cst (x := 0 + 1) (y := 1) (by decide) ?_
    refine va_sld hx hb hX hbl hbA w.2.2.1 (vin (by decide)) d_L_law_848 ?_
    refine lv_if_eq (tgt := 856) hx hb d_L_law_849 (by decide) (fun hc849 => ?_) (fun hc849 => ?_)
    · refine lv_iconst (v := 0) hx hb d_L_law_856 (by decide) ?_
      refine lv_aload_n hx hb d_L_law_857 rfl (lv_at hl 5 rfl) ?_
      refine lv_iload hx hb d_L_law_858 (lv_at hl 1 rfl) ?_
      refine lv_iconst (v := 2) hx hb d_L_law_860 (by decide) ?_
      refine lv_iadd hx hb d_L_law_861 ?_
      refine lv_cst (x := 0 + 2) (y := 2) (by decide) ?_
      refine va_sld hx hb hX hbl hbA w.2.2.1 (vin (by decide)) d_L_law_862 ?_
      refine R_vi C0 w (rest := []) (wr := [((qn 0), .inr (1, fP 0 qp)), ((qn 5), .inr (6, fA 0 qm)), ((qp 1), .inl (cI, 10, .inl (fun _ => 0))), ((qp 6), .inl (cI, 10, .inl (fun _ => 0))), ((qp 7), .inl (cI, 10, .inl (fun _ => 0))), ((qp 8), .inl (cI, 10, .inl (fun _ => 0))), ((qp 9), .inl (cI, 10, .inl (fun _ => 0))), ((qm 5), .inl (cI, 16, .inl (fun _ => 0))), ((qr3 2), .inl (cI, 10, .inl (fun _ => 0))), ((qr3 7), .inl (cI, 10, .inl (fun _ => 0))), ((qr3 33), .inl (cI, 16, .inl (fun _ => 0))), (q4, .inl (cJ, 1, .inr (.inl (fun _ => 0))))]) (w1 := [(o2, .inr (7, fR 2 0 0 0 qr3))]) 8 rfl rfl [8] [0, 1, 2, 3, 4, 5, 6, 7, 9, 10, 11, 12] (c_R_runC l D cI cB cJ o2 qr3 0 (xs (2 : Int32).toNatClampNeg) hs ht) rfl rfl rfl rfl (by decide) wd_1121 wd_1118 wd_1119 wd_1120 wd_8 (n9 := 2) (by decide +kernel) rfl ⟨(Nat.le_of_ble_eq_true rfl), (Nat.le_of_ble_eq_true rfl)⟩ hl.1 rfl (Nat.le_of_ble_eq_true rfl) d_L_law_863 (Nat.le_of_ble_eq_true rfl) (Nat.le_of_ble_eq_true rfl) (fun H locs w => ?_)
      have w : Wd D (lA s) s [((qn 0), .inr (1, fP 0 qp)), ((qn 5), .inr (6, fA 0 qm)), ((qp 1), .inl (cI, 10, .inl (fun _ => 0))), ((qp 6), .inl (cI, 10, .inl (fun _ => 0))), ((qp 7), .inl (cI, 10, .inl (fun _ => 0))), ((qp 8), .inl (cI, 10, .inl (fun _ => 0))), ((qp 9), .inl (cI, 10, .inl (fun _ => 0))), ((qm 5), .inl (cI, 16, .inl (fun _ => 0))), ((qr3 2), .inl (cI, 10, .inl (fun _ => 0))), ((qr3 7), .inl (cI, 10, .inl (fun _ => 0))), ((qr3 33), .inl (cI, 16, .inl (fun _ => 0))), (q4, .inl (cJ, 1, .inr (.inl (fun _ => 0)))), (o2, .inr (7, fR 2 0 0 0 qr3))] H _ := w
      refine lv_istore hx hb d_L_law_866 hl (by decide) rfl (fun ls hl => ?_)
      have hl : lv_has ls 7 [(6, .int 0), (5, .int 2), (4, .int 0), (3, .ref q4), (2, .ref o2), (1, .ref o1), (0, .ref b)] := hl
      refine lv_aload_n hx hb d_L_law_868 rfl (lv_at hl 4 rfl) ?_
      refine R_ri C0 w (rest := []) 12 rfl rfl [12] (c_thrown l D cI cB cJ o2 qr3 2 0 0 0) rfl rfl wd_955 wd_952 wd_953 wd_954 wd_8 (n9 := 0) (by decide +kernel) rfl ⟨(Nat.le_of_ble_eq_true rfl), (Nat.le_of_ble_eq_true rfl)⟩ hl.1 rfl (Nat.le_of_ble_eq_true rfl) d_L_law_869 (Nat.le_of_ble_eq_true rfl) (Nat.le_of_ble_eq_true rfl) ?_
      refine lv_iload hx hb d_L_law_872 (lv_at hl 1 rfl) ?_
      refine lv_icmp_eq (tgt := 879) hx hb d_L_law_874 (by decide) (fun hc874 => ?_) (fun hc => absurd (by decide) hc)
      refine lv_iload hx hb d_L_law_879 (lv_at hl 1 rfl) ?_
      refine lv_if_ne (tgt := 896) hx hb d_L_law_881 (by decide) (fun hc881 => ?_) (fun hc => absurd hc (by decide))
      refine lv_goto (tgt := 993) hx hb d_L_law_896 (by decide) ?_
      exact law_tail C0 hX hbl hr hlk htl (Nat.le_of_ble_eq_true rfl) (Nat.le_of_ble_eq_true rfl) w (lv_sub hl [2, 6] rfl)
    · refine lv_iconst (v := 1) hx hb d_L_law_852 (by decide) ?_
      refine lv_goto (tgt := 857) hx hb d_L_law_853 (by decide) ?_
      refine lv_aload_n hx hb d_L_law_857 rfl (lv_at hl 5 rfl) ?_
      refine lv_iload hx hb d_L_law_858 (lv_at hl 1 rfl) ?_
      refine lv_iconst (v := 2) hx hb d_L_law_860 (by decide) ?_
      refine lv_iadd hx hb d_L_law_861 ?_
      refine lv_cst (x := 0 + 2) (y := 2) (by decide) ?_
      refine va_sld hx hb hX hbl hbA w.2.2.1 (vin (by decide)) d_L_law_862 ?_
      refine R_vi C0 w (rest := []) (wr := [((qn 0), .inr (1, fP 0 qp)), ((qn 5), .inr (6, fA 0 qm)), ((qp 1), .inl (cI, 10, .inl (fun _ => 0))), ((qp 6), .inl (cI, 10, .inl (fun _ => 0))), ((qp 7), .inl (cI, 10, .inl (fun _ => 0))), ((qp 8), .inl (cI, 10, .inl (fun _ => 0))), ((qp 9), .inl (cI, 10, .inl (fun _ => 0))), ((qm 5), .inl (cI, 16, .inl (fun _ => 0))), ((qr3 2), .inl (cI, 10, .inl (fun _ => 0))), ((qr3 7), .inl (cI, 10, .inl (fun _ => 0))), ((qr3 33), .inl (cI, 16, .inl (fun _ => 0))), (q4, .inl (cJ, 1, .inr (.inl (fun _ => 0))))]) (w1 := [(o2, .inr (7, fR 2 0 0 0 qr3))]) 8 rfl rfl [8] [0, 1, 2, 3, 4, 5, 6, 7, 9, 10, 11, 12] (c_R_runC l D cI cB cJ o2 qr3 1 (xs (2 : Int32).toNatClampNeg) hs ht) rfl rfl rfl rfl (by decide) wd_1121 wd_1118 wd_1119 wd_1120 wd_8 (n9 := 2) (by decide +kernel) rfl ⟨(Nat.le_of_ble_eq_true rfl), (Nat.le_of_ble_eq_true rfl)⟩ hl.1 rfl (Nat.le_of_ble_eq_true rfl) d_L_law_863 (Nat.le_of_ble_eq_true rfl) (Nat.le_of_ble_eq_true rfl) (fun H locs w => ?_)
      have w : Wd D (lA s) s [((qn 0), .inr (1, fP 0 qp)), ((qn 5), .inr (6, fA 0 qm)), ((qp 1), .inl (cI, 10, .inl (fun _ => 0))), ((qp 6), .inl (cI, 10, .inl (fun _ => 0))), ((qp 7), .inl (cI, 10, .inl (fun _ => 0))), ((qp 8), .inl (cI, 10, .inl (fun _ => 0))), ((qp 9), .inl (cI, 10, .inl (fun _ => 0))), ((qm 5), .inl (cI, 16, .inl (fun _ => 0))), ((qr3 2), .inl (cI, 10, .inl (fun _ => 0))), ((qr3 7), .inl (cI, 10, .inl (fun _ => 0))), ((qr3 33), .inl (cI, 16, .inl (fun _ => 0))), (q4, .inl (cJ, 1, .inr (.inl (fun _ => 0)))), (o2, .inr (7, fR 2 0 0 0 qr3))] H _ := w
      refine lv_istore hx hb d_L_law_866 hl (by decide) rfl (fun ls hl => ?_)
      have hl : lv_has ls 7 [(6, .int 0), (5, .int 2), (4, .int 0), (3, .ref q4), (2, .ref o2), (1, .ref o1), (0, .ref b)] := hl
      refine lv_aload_n hx hb d_L_law_868 rfl (lv_at hl 4 rfl) ?_
      refine R_ri C0 w (rest := []) 12 rfl rfl [12] (c_thrown l D cI cB cJ o2 qr3 2 0 0 0) rfl rfl wd_955 wd_952 wd_953 wd_954 wd_8 (n9 := 0) (by decide +kernel) rfl ⟨(Nat.le_of_ble_eq_true rfl), (Nat.le_of_ble_eq_true rfl)⟩ hl.1 rfl (Nat.le_of_ble_eq_true rfl) d_L_law_869 (Nat.le_of_ble_eq_true rfl) (Nat.le_of_ble_eq_true rfl) ?_
      refine lv_iload hx hb d_L_law_872 (lv_at hl 1 rfl) ?_
      refine lv_icmp_eq (tgt := 879) hx hb d_L_law_874 (by decide) (fun hc874 => ?_) (fun hc => absurd (by decide) hc)
      refine lv_iload hx hb d_L_law_879 (lv_at hl 1 rfl) ?_
      refine lv_if_ne (tgt := 896) hx hb d_L_law_881 (by decide) (fun hc881 => ?_) (fun hc => absurd hc (by decide))
      refine lv_goto (tgt := 993) hx hb d_L_law_896 (by decide) ?_
      exact law_tail C0 hX hbl hr hlk htl (Nat.le_of_ble_eq_true rfl) (Nat.le_of_ble_eq_true rfl) w (lv_sub hl [2, 6] rfl)
theorem law_case13 {qm : Nat → Nat} {qn : Nat → Nat} {qp : Nat → Nat} {qr3 : Nat → Nat} {o1 : Nat} {o2 : Nat} {q4 : Nat} (C0 : Cx p s m #[Value.ref b] c code 7 "NameForgeLaw" D cI cB cJ) (hX : va_X b 6 xs s s.heap) (hbl : b < s.heap.size) (hr : meth.sig.returnType = ret) (hlk : meth.locks = false) (htl : l.stackTraces = false) (w : Wd D (lA s) s [(o1, .inr (0, fN 0 qn)), ((qn 0), .inr (1, fP 0 qp)), ((qn 5), .inr (6, fA 0 qm)), ((qp 1), .inl (cI, 10, .inl (fun _ => 0))), ((qp 6), .inl (cI, 10, .inl (fun _ => 0))), ((qp 7), .inl (cI, 10, .inl (fun _ => 0))), ((qp 8), .inl (cI, 10, .inl (fun _ => 0))), ((qp 9), .inl (cI, 10, .inl (fun _ => 0))), ((qm 5), .inl (cI, 16, .inl (fun _ => 0))), (o2, .inr (7, fR 0 0 0 0 qr3)), ((qr3 2), .inl (cI, 10, .inl (fun _ => 0))), ((qr3 7), .inl (cI, 10, .inl (fun _ => 0))), ((qr3 33), .inl (cI, 16, .inl (fun _ => 0))), (q4, .inl (cJ, 1, .inr (.inl (fun _ => 0))))] H locs) (hl : lv_has ls 7 [(4, .int 0), (3, .ref q4), (2, .ref o2), (1, .ref o1), (0, .ref b)]) : W p l e room_1 s m #[Value.ref b] below meth c H locs 165 3470 (lw_Z below #[Value.ref b] s) (F0 m 815 ls []) := by
  by_cases hs : xs (2 : Int32).toNatClampNeg < 0
  · exact law_case13A C0 hX hbl hr hlk htl hs w hl
  by_cases ht : xs (2 : Int32).toNatClampNeg ≤ 200
  · exact law_case13C C0 hX hbl hr hlk htl hs ht w hl
  exact law_case13B C0 hX hbl hr hlk htl hs ht w hl
set_option maxHeartbeats 4000000 in
set_option maxRecDepth 100000 in
theorem law_case14 {qm : Nat → Nat} {qn : Nat → Nat} {qp : Nat → Nat} {qr3 : Nat → Nat} {o1 : Nat} {o2 : Nat} {q4 : Nat} (C0 : Cx p s m #[Value.ref b] c code 7 "NameForgeLaw" D cI cB cJ) (hX : va_X b 6 xs s s.heap) (hbl : b < s.heap.size) (hr : meth.sig.returnType = ret) (hlk : meth.locks = false) (htl : l.stackTraces = false) (w : Wd D (lA s) s [(o1, .inr (0, fN 0 qn)), ((qn 0), .inr (1, fP 0 qp)), ((qn 5), .inr (6, fA 0 qm)), ((qp 1), .inl (cI, 10, .inl (fun _ => 0))), ((qp 6), .inl (cI, 10, .inl (fun _ => 0))), ((qp 7), .inl (cI, 10, .inl (fun _ => 0))), ((qp 8), .inl (cI, 10, .inl (fun _ => 0))), ((qp 9), .inl (cI, 10, .inl (fun _ => 0))), ((qm 5), .inl (cI, 16, .inl (fun _ => 0))), (o2, .inr (7, fR 0 0 0 0 qr3)), ((qr3 2), .inl (cI, 10, .inl (fun _ => 0))), ((qr3 7), .inl (cI, 10, .inl (fun _ => 0))), ((qr3 33), .inl (cI, 16, .inl (fun _ => 0))), (q4, .inl (cJ, 1, .inr (.inl (fun _ => 0))))] H locs) (hl : lv_has ls 7 [(4, .int 0), (3, .ref q4), (2, .ref o2), (1, .ref o1), (0, .ref b)]) : W p l e room_1 s m #[Value.ref b] below meth c H locs 165 3470 (lw_Z below #[Value.ref b] s) (F0 m 899 ls []) := by
  have hx := C0.1
  have hb := C0.2.1
  have hbA : ¬ lA s b := fun h => absurd hbl (Nat.not_lt.mpr h)
  refine lv_aload_n hx hb d_L_law_899 rfl (lv_at hl 3 rfl) ?_
  refine R_ri C0 w (rest := []) 0 rfl rfl [0, 2] (c_N_told l D cI cB cJ o1 qn qm) rfl rfl wd_380 wd_377 wd_378 wd_379 wd_1 (n9 := 0) (by decide +kernel) rfl ⟨(Nat.le_of_ble_eq_true rfl), (Nat.le_of_ble_eq_true rfl)⟩ hl.1 rfl (Nat.le_of_ble_eq_true rfl) d_L_law_900 (Nat.le_of_ble_eq_true rfl) (Nat.le_of_ble_eq_true rfl) ?_
  refine lv_aload_n hx hb d_L_law_903 rfl (lv_at hl 2 rfl) ?_
  refine R_vi C0 w (rest := [.int 0]) (wr := [(o1, .inr (0, fN 0 qn)), ((qn 0), .inr (1, fP 0 qp)), ((qn 5), .inr (6, fA 0 qm)), ((qp 1), .inl (cI, 10, .inl (fun _ => 0))), ((qp 6), .inl (cI, 10, .inl (fun _ => 0))), ((qp 7), .inl (cI, 10, .inl (fun _ => 0))), ((qp 8), .inl (cI, 10, .inl (fun _ => 0))), ((qp 9), .inl (cI, 10, .inl (fun _ => 0))), ((qm 5), .inl (cI, 16, .inl (fun _ => 0))), ((qr3 2), .inl (cI, 10, .inl (fun _ => 0))), ((qr3 7), .inl (cI, 10, .inl (fun _ => 0))), ((qr3 33), .inl (cI, 16, .inl (fun _ => 0))), (q4, .inl (cJ, 1, .inr (.inl (fun _ => 0))))]) (w1 := [(o2, .inr (7, fR 0 0 0 0 qr3))]) 9 rfl rfl [9] [0, 1, 2, 3, 4, 5, 6, 7, 8, 10, 11, 12, 13] (c_R_told l D cI cB cJ o2 qr3) rfl rfl rfl rfl (by decide) wd_1153 wd_1150 wd_1151 wd_1152 wd_8 (n9 := 0) (by decide +kernel) rfl ⟨(Nat.le_of_ble_eq_true rfl), (Nat.le_of_ble_eq_true rfl)⟩ hl.1 rfl (Nat.le_of_ble_eq_true rfl) d_L_law_904 (Nat.le_of_ble_eq_true rfl) (Nat.le_of_ble_eq_true rfl) (fun H locs w => ?_)
  have w : Wd D (lA s) s [(o1, .inr (0, fN 0 qn)), ((qn 0), .inr (1, fP 0 qp)), ((qn 5), .inr (6, fA 0 qm)), ((qp 1), .inl (cI, 10, .inl (fun _ => 0))), ((qp 6), .inl (cI, 10, .inl (fun _ => 0))), ((qp 7), .inl (cI, 10, .inl (fun _ => 0))), ((qp 8), .inl (cI, 10, .inl (fun _ => 0))), ((qp 9), .inl (cI, 10, .inl (fun _ => 0))), ((qm 5), .inl (cI, 16, .inl (fun _ => 0))), ((qr3 2), .inl (cI, 10, .inl (fun _ => 0))), ((qr3 7), .inl (cI, 10, .inl (fun _ => 0))), ((qr3 33), .inl (cI, 16, .inl (fun _ => 0))), (q4, .inl (cJ, 1, .inr (.inl (fun _ => 0)))), (o2, .inr (7, fR 0 0 0 0 qr3))] H _ := w
  refine lv_icmp_eq (tgt := 993) hx hb d_L_law_907 (by decide) (fun hc907 => ?_) (fun hc => absurd (by decide) hc)
  exact law_tail C0 hX hbl hr hlk htl (Nat.le_of_ble_eq_true rfl) (Nat.le_of_ble_eq_true rfl) w (lv_sub hl [0, 4] rfl)
set_option maxHeartbeats 4000000 in
set_option maxRecDepth 100000 in
theorem law_case15 {qm : Nat → Nat} {qn : Nat → Nat} {qp : Nat → Nat} {qr3 : Nat → Nat} {o1 : Nat} {o2 : Nat} {q4 : Nat} (C0 : Cx p s m #[Value.ref b] c code 7 "NameForgeLaw" D cI cB cJ) (hX : va_X b 6 xs s s.heap) (hbl : b < s.heap.size) (hr : meth.sig.returnType = ret) (hlk : meth.locks = false) (htl : l.stackTraces = false) (w : Wd D (lA s) s [(o1, .inr (0, fN 0 qn)), ((qn 0), .inr (1, fP 0 qp)), ((qn 5), .inr (6, fA 0 qm)), ((qp 1), .inl (cI, 10, .inl (fun _ => 0))), ((qp 6), .inl (cI, 10, .inl (fun _ => 0))), ((qp 7), .inl (cI, 10, .inl (fun _ => 0))), ((qp 8), .inl (cI, 10, .inl (fun _ => 0))), ((qp 9), .inl (cI, 10, .inl (fun _ => 0))), ((qm 5), .inl (cI, 16, .inl (fun _ => 0))), (o2, .inr (7, fR 0 0 0 0 qr3)), ((qr3 2), .inl (cI, 10, .inl (fun _ => 0))), ((qr3 7), .inl (cI, 10, .inl (fun _ => 0))), ((qr3 33), .inl (cI, 16, .inl (fun _ => 0))), (q4, .inl (cJ, 1, .inr (.inl (fun _ => 0))))] H locs) (hl : lv_has ls 7 [(4, .int 0), (3, .ref q4), (2, .ref o2), (1, .ref o1), (0, .ref b)]) : W p l e room_1 s m #[Value.ref b] below meth c H locs 165 3470 (lw_Z below #[Value.ref b] s) (F0 m 912 ls []) := by
  have hx := C0.1
  have hb := C0.2.1
  have hbA : ¬ lA s b := fun h => absurd hbl (Nat.not_lt.mpr h)
  refine lv_aload_n hx hb d_L_law_912 rfl (lv_at hl 3 rfl) ?_
  refine lv_aload_n hx hb d_L_law_913 rfl (lv_at hl 4 rfl) ?_
  refine lv_iload hx hb d_L_law_914 (lv_at hl 0 rfl) ?_
  refine lv_iconst (v := 1) hx hb d_L_law_916 (by decide) ?_
  refine lv_iadd hx hb d_L_law_917 ?_
  refine lv_cst (x := 0 + 1) (y := 1) (by decide) ?_
  refine va_sld hx hb hX hbl hbA w.2.2.1 (vin (by decide)) d_L_law_918 ?_
  refine lv_aload_n hx hb d_L_law_919 rfl (lv_at hl 1 rfl) ?_
  refine R_sh C0 w (rest := []) (wr := [((qn 0), .inr (1, fP 0 qp)), ((qp 1), .inl (cI, 10, .inl (fun _ => 0))), ((qp 6), .inl (cI, 10, .inl (fun _ => 0))), ((qp 7), .inl (cI, 10, .inl (fun _ => 0))), ((qp 8), .inl (cI, 10, .inl (fun _ => 0))), ((qp 9), .inl (cI, 10, .inl (fun _ => 0))), ((qm 5), .inl (cI, 16, .inl (fun _ => 0))), (o2, .inr (7, fR 0 0 0 0 qr3)), ((qr3 2), .inl (cI, 10, .inl (fun _ => 0))), ((qr3 7), .inl (cI, 10, .inl (fun _ => 0))), ((qr3 33), .inl (cI, 16, .inl (fun _ => 0))), (q4, .inl (cJ, 1, .inr (.inl (fun _ => 0))))]) (w1 := []) [0, 2] [1, 3, 4, 5, 6, 7, 8, 9, 10, 11, 12, 13] (c_L_heard l D cI cB cJ o1 qn qm (xs (1 : Int32).toNatClampNeg) q4 htl) rfl rfl rfl rfl (by decide) wd_816 wd_814 wd_815 wd_0 (n9 := 3) (by decide +kernel) rfl ⟨(Nat.le_of_ble_eq_true rfl), (Nat.le_of_ble_eq_true rfl)⟩ hl.1 rfl (Nat.le_of_ble_eq_true rfl) d_L_law_920 (Nat.le_of_ble_eq_true rfl) (Nat.le_of_ble_eq_true rfl) (fun H locs w => ?_)
  refine W.cs (cells' := 166) (slots' := 3476) rfl rfl ?_
  have w : Wd D (lA s) s [((qn 0), .inr (1, fP 0 qp)), ((qp 1), .inl (cI, 10, .inl (fun _ => 0))), ((qp 6), .inl (cI, 10, .inl (fun _ => 0))), ((qp 7), .inl (cI, 10, .inl (fun _ => 0))), ((qp 8), .inl (cI, 10, .inl (fun _ => 0))), ((qp 9), .inl (cI, 10, .inl (fun _ => 0))), ((qm 5), .inl (cI, 16, .inl (fun _ => 0))), (o2, .inr (7, fR 0 0 0 0 qr3)), ((qr3 2), .inl (cI, 10, .inl (fun _ => 0))), ((qr3 7), .inl (cI, 10, .inl (fun _ => 0))), ((qr3 33), .inl (cI, 16, .inl (fun _ => 0))), (q4, .inl (cJ, 1, .inr (.inl (fun _ => 0))))] H _ := w
  refine lv_istore hx hb d_L_law_923 hl (by decide) rfl (fun ls hl => ?_)
  have hl : lv_has ls 7 [(5, .int 1), (4, .int 0), (3, .ref q4), (2, .ref o2), (1, .ref o1), (0, .ref b)] := hl
  refine lv_aload_n hx hb d_L_law_925 rfl (lv_at hl 3 rfl) ?_
  refine lv_aload_n hx hb d_L_law_926 rfl (lv_at hl 5 rfl) ?_
  refine lv_iload hx hb d_L_law_927 (lv_at hl 1 rfl) ?_
  refine lv_iconst (v := 1) hx hb d_L_law_929 (by decide) ?_
  refine lv_iadd hx hb d_L_law_930 ?_
  refine lv_cst (x := 0 + 1) (y := 1) (by decide) ?_
  refine va_sld hx hb hX hbl hbA w.2.2.1 (vin (by decide)) d_L_law_931 ?_
  refine R_vi C0 w (rest := []) (wr := [((qn 0), .inr (1, fP 0 qp)), ((qp 1), .inl (cI, 10, .inl (fun _ => 0))), ((qp 6), .inl (cI, 10, .inl (fun _ => 0))), ((qp 7), .inl (cI, 10, .inl (fun _ => 0))), ((qp 8), .inl (cI, 10, .inl (fun _ => 0))), ((qp 9), .inl (cI, 10, .inl (fun _ => 0))), ((qm 5), .inl (cI, 16, .inl (fun _ => 0))), ((qr3 2), .inl (cI, 10, .inl (fun _ => 0))), ((qr3 7), .inl (cI, 10, .inl (fun _ => 0))), ((qr3 33), .inl (cI, 16, .inl (fun _ => 0))), (q4, .inl (cJ, 1, .inr (.inl (fun _ => 0))))]) (w1 := [(o2, .inr (7, fR 1 0 0 0 qr3))]) 7 rfl rfl [7] [0, 1, 2, 3, 4, 5, 6, 8, 9, 10, 11] (c_R_heard l D cI cB cJ o2 qr3 (xs (1 : Int32).toNatClampNeg)) rfl rfl rfl rfl (by decide) wd_1157 wd_1154 wd_1155 wd_1156 wd_8 (n9 := 1) (by decide +kernel) rfl ⟨(Nat.le_of_ble_eq_true rfl), (Nat.le_of_ble_eq_true rfl)⟩ hl.1 rfl (Nat.le_of_ble_eq_true rfl) d_L_law_932 (Nat.le_of_ble_eq_true rfl) (Nat.le_of_ble_eq_true rfl) (fun H locs w => ?_)
  have w : Wd D (lA s) s [((qn 0), .inr (1, fP 0 qp)), ((qp 1), .inl (cI, 10, .inl (fun _ => 0))), ((qp 6), .inl (cI, 10, .inl (fun _ => 0))), ((qp 7), .inl (cI, 10, .inl (fun _ => 0))), ((qp 8), .inl (cI, 10, .inl (fun _ => 0))), ((qp 9), .inl (cI, 10, .inl (fun _ => 0))), ((qm 5), .inl (cI, 16, .inl (fun _ => 0))), ((qr3 2), .inl (cI, 10, .inl (fun _ => 0))), ((qr3 7), .inl (cI, 10, .inl (fun _ => 0))), ((qr3 33), .inl (cI, 16, .inl (fun _ => 0))), (q4, .inl (cJ, 1, .inr (.inl (fun _ => 0)))), (o2, .inr (7, fR 1 0 0 0 qr3))] H _ := w
  refine lv_istore hx hb d_L_law_935 hl (by decide) rfl (fun ls hl => ?_)
  have hl : lv_has ls 7 [(6, .int 0), (5, .int 1), (4, .int 0), (3, .ref q4), (2, .ref o2), (1, .ref o1), (0, .ref b)] := hl
  refine lv_aload_n hx hb d_L_law_937 rfl (lv_at hl 4 rfl) ?_
  refine R_ri C0 w (rest := []) 11 rfl rfl [11] (c_thrown l D cI cB cJ o2 qr3 1 0 0 0) rfl rfl wd_955 wd_952 wd_953 wd_954 wd_8 (n9 := 0) (by decide +kernel) rfl ⟨(Nat.le_of_ble_eq_true rfl), (Nat.le_of_ble_eq_true rfl)⟩ hl.1 rfl (Nat.le_of_ble_eq_true rfl) d_L_law_938 (Nat.le_of_ble_eq_true rfl) (Nat.le_of_ble_eq_true rfl) ?_
  refine lv_iload hx hb d_L_law_941 (lv_at hl 1 rfl) ?_
  refine lv_icmp_eq (tgt := 948) hx hb d_L_law_943 (by decide) (fun hc943 => ?_) (fun hc => absurd (by decide) hc)
  refine lv_iload hx hb d_L_law_948 (lv_at hl 1 rfl) ?_
  refine lv_if_ne (tgt := 965) hx hb d_L_law_950 (by decide) (fun hc950 => ?_) (fun hc => absurd hc (by decide))
  refine lv_goto (tgt := 993) hx hb d_L_law_965 (by decide) ?_
  exact law_tail C0 hX hbl hr hlk htl (Nat.le_of_ble_eq_true rfl) (Nat.le_of_ble_eq_true rfl) w (lv_sub hl [2, 6] rfl)
set_option maxHeartbeats 4000000 in
set_option maxRecDepth 100000 in
theorem law_case16_0 {qm : Nat → Nat} {qn : Nat → Nat} {qp : Nat → Nat} {qr3 : Nat → Nat} {o1 : Nat} {o2 : Nat} {q4 : Nat} (C0 : Cx p s m #[Value.ref b] c code 7 "NameForgeLaw" D cI cB cJ) (hX : va_X b 6 xs s s.heap) (hbl : b < s.heap.size) (hr : meth.sig.returnType = ret) (hlk : meth.locks = false) (htl : l.stackTraces = false) (hv : xs (1 : Int32).toNatClampNeg = 0) (w : Wd D (lA s) s [(o1, .inr (0, fN 0 qn)), ((qn 0), .inr (1, fP 0 qp)), ((qn 5), .inr (6, fA 0 qm)), ((qp 1), .inl (cI, 10, .inl (fun _ => 0))), ((qp 6), .inl (cI, 10, .inl (fun _ => 0))), ((qp 7), .inl (cI, 10, .inl (fun _ => 0))), ((qp 8), .inl (cI, 10, .inl (fun _ => 0))), ((qp 9), .inl (cI, 10, .inl (fun _ => 0))), ((qm 5), .inl (cI, 16, .inl (fun _ => 0))), (o2, .inr (7, fR 0 0 0 0 qr3)), ((qr3 2), .inl (cI, 10, .inl (fun _ => 0))), ((qr3 7), .inl (cI, 10, .inl (fun _ => 0))), ((qr3 33), .inl (cI, 16, .inl (fun _ => 0))), (q4, .inl (cJ, 1, .inr (.inl (fun _ => 0))))] H locs) (hl : lv_has ls 7 [(4, .int 0), (3, .ref q4), (2, .ref o2), (1, .ref o1), (0, .ref b)]) : W p l e room_1 s m #[Value.ref b] below meth c H locs 165 3470 (lw_Z below #[Value.ref b] s) (F0 m 968 ls []) := by
  have hx := C0.1
  have hb := C0.2.1
  have hbA : ¬ lA s b := fun h => absurd hbl (Nat.not_lt.mpr h)
  refine lv_aload_n hx hb d_L_law_968 rfl (lv_at hl 3 rfl) ?_
  refine lv_aload_n hx hb d_L_law_969 rfl (lv_at hl 4 rfl) ?_
  refine lv_iload hx hb d_L_law_970 (lv_at hl 0 rfl) ?_
  refine lv_iconst (v := 1) hx hb d_L_law_972 (by decide) ?_
  refine lv_iadd hx hb d_L_law_973 ?_
  refine lv_cst (x := 0 + 1) (y := 1) (by decide) ?_
  refine va_sld hx hb hX hbl hbA w.2.2.1 (vin (by decide)) d_L_law_974 ?_
  refine lv_cst (x := xs (1 : Int32).toNatClampNeg) (y := 0) hv ?_
  refine R_ri C0 w (rest := []) 0 rfl rfl [0, 2] (c_N_spent0 l D cI cB cJ o1 qn qm) rfl rfl wd_384 wd_381 wd_382 wd_383 wd_1 (n9 := 1) (by decide +kernel) rfl ⟨(Nat.le_of_ble_eq_true rfl), (Nat.le_of_ble_eq_true rfl)⟩ hl.1 rfl (Nat.le_of_ble_eq_true rfl) d_L_law_975 (Nat.le_of_ble_eq_true rfl) (Nat.le_of_ble_eq_true rfl) ?_
  refine lv_aload_n hx hb d_L_law_978 rfl (lv_at hl 2 rfl) ?_
  refine lv_aload_n hx hb d_L_law_979 rfl (lv_at hl 4 rfl) ?_
  refine lv_iload hx hb d_L_law_980 (lv_at hl 0 rfl) ?_
  refine lv_iconst (v := 1) hx hb d_L_law_982 (by decide) ?_
  refine lv_iadd hx hb d_L_law_983 ?_
  refine lv_cst (x := 0 + 1) (y := 1) (by decide) ?_
  refine va_sld hx hb hX hbl hbA w.2.2.1 (vin (by decide)) d_L_law_984 ?_
  refine lv_cst (x := xs (1 : Int32).toNatClampNeg) (y := 0) hv ?_
  refine R_vi C0 w (rest := [.int 0]) (wr := [(o1, .inr (0, fN 0 qn)), ((qn 0), .inr (1, fP 0 qp)), ((qn 5), .inr (6, fA 0 qm)), ((qp 1), .inl (cI, 10, .inl (fun _ => 0))), ((qp 6), .inl (cI, 10, .inl (fun _ => 0))), ((qp 7), .inl (cI, 10, .inl (fun _ => 0))), ((qp 8), .inl (cI, 10, .inl (fun _ => 0))), ((qp 9), .inl (cI, 10, .inl (fun _ => 0))), ((qm 5), .inl (cI, 16, .inl (fun _ => 0))), ((qr3 2), .inl (cI, 10, .inl (fun _ => 0))), ((qr3 7), .inl (cI, 10, .inl (fun _ => 0))), ((qr3 33), .inl (cI, 16, .inl (fun _ => 0))), (q4, .inl (cJ, 1, .inr (.inl (fun _ => 0))))]) (w1 := [(o2, .inr (7, fR 0 0 0 0 qr3))]) 9 rfl rfl [9] [0, 1, 2, 3, 4, 5, 6, 7, 8, 10, 11, 12, 13] (c_R_spent0 l D cI cB cJ o2 qr3) rfl rfl rfl rfl (by decide) wd_1161 wd_1158 wd_1159 wd_1160 wd_8 (n9 := 1) (by decide +kernel) rfl ⟨(Nat.le_of_ble_eq_true rfl), (Nat.le_of_ble_eq_true rfl)⟩ hl.1 rfl (Nat.le_of_ble_eq_true rfl) d_L_law_985 (Nat.le_of_ble_eq_true rfl) (Nat.le_of_ble_eq_true rfl) (fun H locs w => ?_)
  have w : Wd D (lA s) s [(o1, .inr (0, fN 0 qn)), ((qn 0), .inr (1, fP 0 qp)), ((qn 5), .inr (6, fA 0 qm)), ((qp 1), .inl (cI, 10, .inl (fun _ => 0))), ((qp 6), .inl (cI, 10, .inl (fun _ => 0))), ((qp 7), .inl (cI, 10, .inl (fun _ => 0))), ((qp 8), .inl (cI, 10, .inl (fun _ => 0))), ((qp 9), .inl (cI, 10, .inl (fun _ => 0))), ((qm 5), .inl (cI, 16, .inl (fun _ => 0))), ((qr3 2), .inl (cI, 10, .inl (fun _ => 0))), ((qr3 7), .inl (cI, 10, .inl (fun _ => 0))), ((qr3 33), .inl (cI, 16, .inl (fun _ => 0))), (q4, .inl (cJ, 1, .inr (.inl (fun _ => 0)))), (o2, .inr (7, fR 0 0 0 0 qr3))] H _ := w
  refine lv_icmp_eq (tgt := 993) hx hb d_L_law_988 (by decide) (fun hc988 => ?_) (fun hc => absurd (by decide) hc)
  exact law_tail C0 hX hbl hr hlk htl (Nat.le_of_ble_eq_true rfl) (Nat.le_of_ble_eq_true rfl) w (lv_sub hl [0, 4] rfl)
set_option maxHeartbeats 4000000 in
set_option maxRecDepth 100000 in
theorem law_case16_1 {qm : Nat → Nat} {qn : Nat → Nat} {qp : Nat → Nat} {qr3 : Nat → Nat} {o1 : Nat} {o2 : Nat} {q4 : Nat} (C0 : Cx p s m #[Value.ref b] c code 7 "NameForgeLaw" D cI cB cJ) (hX : va_X b 6 xs s s.heap) (hbl : b < s.heap.size) (hr : meth.sig.returnType = ret) (hlk : meth.locks = false) (htl : l.stackTraces = false) (hv : xs (1 : Int32).toNatClampNeg = 1) (w : Wd D (lA s) s [(o1, .inr (0, fN 0 qn)), ((qn 0), .inr (1, fP 0 qp)), ((qn 5), .inr (6, fA 0 qm)), ((qp 1), .inl (cI, 10, .inl (fun _ => 0))), ((qp 6), .inl (cI, 10, .inl (fun _ => 0))), ((qp 7), .inl (cI, 10, .inl (fun _ => 0))), ((qp 8), .inl (cI, 10, .inl (fun _ => 0))), ((qp 9), .inl (cI, 10, .inl (fun _ => 0))), ((qm 5), .inl (cI, 16, .inl (fun _ => 0))), (o2, .inr (7, fR 0 0 0 0 qr3)), ((qr3 2), .inl (cI, 10, .inl (fun _ => 0))), ((qr3 7), .inl (cI, 10, .inl (fun _ => 0))), ((qr3 33), .inl (cI, 16, .inl (fun _ => 0))), (q4, .inl (cJ, 1, .inr (.inl (fun _ => 0))))] H locs) (hl : lv_has ls 7 [(4, .int 0), (3, .ref q4), (2, .ref o2), (1, .ref o1), (0, .ref b)]) : W p l e room_1 s m #[Value.ref b] below meth c H locs 165 3470 (lw_Z below #[Value.ref b] s) (F0 m 968 ls []) := by
  have hx := C0.1
  have hb := C0.2.1
  have hbA : ¬ lA s b := fun h => absurd hbl (Nat.not_lt.mpr h)
  refine lv_aload_n hx hb d_L_law_968 rfl (lv_at hl 3 rfl) ?_
  refine lv_aload_n hx hb d_L_law_969 rfl (lv_at hl 4 rfl) ?_
  refine lv_iload hx hb d_L_law_970 (lv_at hl 0 rfl) ?_
  refine lv_iconst (v := 1) hx hb d_L_law_972 (by decide) ?_
  refine lv_iadd hx hb d_L_law_973 ?_
  refine lv_cst (x := 0 + 1) (y := 1) (by decide) ?_
  refine va_sld hx hb hX hbl hbA w.2.2.1 (vin (by decide)) d_L_law_974 ?_
  refine lv_cst (x := xs (1 : Int32).toNatClampNeg) (y := 1) hv ?_
  refine R_ri C0 w (rest := []) 0 rfl rfl [0, 2] (c_N_spent1 l D cI cB cJ o1 qn qm) rfl rfl wd_384 wd_381 wd_382 wd_383 wd_1 (n9 := 1) (by decide +kernel) rfl ⟨(Nat.le_of_ble_eq_true rfl), (Nat.le_of_ble_eq_true rfl)⟩ hl.1 rfl (Nat.le_of_ble_eq_true rfl) d_L_law_975 (Nat.le_of_ble_eq_true rfl) (Nat.le_of_ble_eq_true rfl) ?_
  refine lv_aload_n hx hb d_L_law_978 rfl (lv_at hl 2 rfl) ?_
  refine lv_aload_n hx hb d_L_law_979 rfl (lv_at hl 4 rfl) ?_
  refine lv_iload hx hb d_L_law_980 (lv_at hl 0 rfl) ?_
  refine lv_iconst (v := 1) hx hb d_L_law_982 (by decide) ?_
  refine lv_iadd hx hb d_L_law_983 ?_
  refine lv_cst (x := 0 + 1) (y := 1) (by decide) ?_
  refine va_sld hx hb hX hbl hbA w.2.2.1 (vin (by decide)) d_L_law_984 ?_
  refine lv_cst (x := xs (1 : Int32).toNatClampNeg) (y := 1) hv ?_
  refine R_vi C0 w (rest := [.int 0]) (wr := [(o1, .inr (0, fN 0 qn)), ((qn 0), .inr (1, fP 0 qp)), ((qn 5), .inr (6, fA 0 qm)), ((qp 1), .inl (cI, 10, .inl (fun _ => 0))), ((qp 6), .inl (cI, 10, .inl (fun _ => 0))), ((qp 7), .inl (cI, 10, .inl (fun _ => 0))), ((qp 8), .inl (cI, 10, .inl (fun _ => 0))), ((qp 9), .inl (cI, 10, .inl (fun _ => 0))), ((qm 5), .inl (cI, 16, .inl (fun _ => 0))), ((qr3 2), .inl (cI, 10, .inl (fun _ => 0))), ((qr3 7), .inl (cI, 10, .inl (fun _ => 0))), ((qr3 33), .inl (cI, 16, .inl (fun _ => 0))), (q4, .inl (cJ, 1, .inr (.inl (fun _ => 0))))]) (w1 := [(o2, .inr (7, fR 0 0 0 0 qr3))]) 9 rfl rfl [9] [0, 1, 2, 3, 4, 5, 6, 7, 8, 10, 11, 12, 13] (c_R_spent1 l D cI cB cJ o2 qr3) rfl rfl rfl rfl (by decide) wd_1161 wd_1158 wd_1159 wd_1160 wd_8 (n9 := 1) (by decide +kernel) rfl ⟨(Nat.le_of_ble_eq_true rfl), (Nat.le_of_ble_eq_true rfl)⟩ hl.1 rfl (Nat.le_of_ble_eq_true rfl) d_L_law_985 (Nat.le_of_ble_eq_true rfl) (Nat.le_of_ble_eq_true rfl) (fun H locs w => ?_)
  have w : Wd D (lA s) s [(o1, .inr (0, fN 0 qn)), ((qn 0), .inr (1, fP 0 qp)), ((qn 5), .inr (6, fA 0 qm)), ((qp 1), .inl (cI, 10, .inl (fun _ => 0))), ((qp 6), .inl (cI, 10, .inl (fun _ => 0))), ((qp 7), .inl (cI, 10, .inl (fun _ => 0))), ((qp 8), .inl (cI, 10, .inl (fun _ => 0))), ((qp 9), .inl (cI, 10, .inl (fun _ => 0))), ((qm 5), .inl (cI, 16, .inl (fun _ => 0))), ((qr3 2), .inl (cI, 10, .inl (fun _ => 0))), ((qr3 7), .inl (cI, 10, .inl (fun _ => 0))), ((qr3 33), .inl (cI, 16, .inl (fun _ => 0))), (q4, .inl (cJ, 1, .inr (.inl (fun _ => 0)))), (o2, .inr (7, fR 0 0 0 0 qr3))] H _ := w
  refine lv_icmp_eq (tgt := 993) hx hb d_L_law_988 (by decide) (fun hc988 => ?_) (fun hc => absurd (by decide) hc)
  exact law_tail C0 hX hbl hr hlk htl (Nat.le_of_ble_eq_true rfl) (Nat.le_of_ble_eq_true rfl) w (lv_sub hl [0, 4] rfl)
set_option maxHeartbeats 4000000 in
set_option maxRecDepth 100000 in
theorem law_case16_2 {qm : Nat → Nat} {qn : Nat → Nat} {qp : Nat → Nat} {qr3 : Nat → Nat} {o1 : Nat} {o2 : Nat} {q4 : Nat} (C0 : Cx p s m #[Value.ref b] c code 7 "NameForgeLaw" D cI cB cJ) (hX : va_X b 6 xs s s.heap) (hbl : b < s.heap.size) (hr : meth.sig.returnType = ret) (hlk : meth.locks = false) (htl : l.stackTraces = false) (hv : xs (1 : Int32).toNatClampNeg = 2) (w : Wd D (lA s) s [(o1, .inr (0, fN 0 qn)), ((qn 0), .inr (1, fP 0 qp)), ((qn 5), .inr (6, fA 0 qm)), ((qp 1), .inl (cI, 10, .inl (fun _ => 0))), ((qp 6), .inl (cI, 10, .inl (fun _ => 0))), ((qp 7), .inl (cI, 10, .inl (fun _ => 0))), ((qp 8), .inl (cI, 10, .inl (fun _ => 0))), ((qp 9), .inl (cI, 10, .inl (fun _ => 0))), ((qm 5), .inl (cI, 16, .inl (fun _ => 0))), (o2, .inr (7, fR 0 0 0 0 qr3)), ((qr3 2), .inl (cI, 10, .inl (fun _ => 0))), ((qr3 7), .inl (cI, 10, .inl (fun _ => 0))), ((qr3 33), .inl (cI, 16, .inl (fun _ => 0))), (q4, .inl (cJ, 1, .inr (.inl (fun _ => 0))))] H locs) (hl : lv_has ls 7 [(4, .int 0), (3, .ref q4), (2, .ref o2), (1, .ref o1), (0, .ref b)]) : W p l e room_1 s m #[Value.ref b] below meth c H locs 165 3470 (lw_Z below #[Value.ref b] s) (F0 m 968 ls []) := by
  have hx := C0.1
  have hb := C0.2.1
  have hbA : ¬ lA s b := fun h => absurd hbl (Nat.not_lt.mpr h)
  refine lv_aload_n hx hb d_L_law_968 rfl (lv_at hl 3 rfl) ?_
  refine lv_aload_n hx hb d_L_law_969 rfl (lv_at hl 4 rfl) ?_
  refine lv_iload hx hb d_L_law_970 (lv_at hl 0 rfl) ?_
  refine lv_iconst (v := 1) hx hb d_L_law_972 (by decide) ?_
  refine lv_iadd hx hb d_L_law_973 ?_
  refine lv_cst (x := 0 + 1) (y := 1) (by decide) ?_
  refine va_sld hx hb hX hbl hbA w.2.2.1 (vin (by decide)) d_L_law_974 ?_
  refine lv_cst (x := xs (1 : Int32).toNatClampNeg) (y := 2) hv ?_
  refine R_ri C0 w (rest := []) 0 rfl rfl [0, 2] (c_N_spent2 l D cI cB cJ o1 qn qm) rfl rfl wd_384 wd_381 wd_382 wd_383 wd_1 (n9 := 1) (by decide +kernel) rfl ⟨(Nat.le_of_ble_eq_true rfl), (Nat.le_of_ble_eq_true rfl)⟩ hl.1 rfl (Nat.le_of_ble_eq_true rfl) d_L_law_975 (Nat.le_of_ble_eq_true rfl) (Nat.le_of_ble_eq_true rfl) ?_
  refine lv_aload_n hx hb d_L_law_978 rfl (lv_at hl 2 rfl) ?_
  refine lv_aload_n hx hb d_L_law_979 rfl (lv_at hl 4 rfl) ?_
  refine lv_iload hx hb d_L_law_980 (lv_at hl 0 rfl) ?_
  refine lv_iconst (v := 1) hx hb d_L_law_982 (by decide) ?_
  refine lv_iadd hx hb d_L_law_983 ?_
  refine lv_cst (x := 0 + 1) (y := 1) (by decide) ?_
  refine va_sld hx hb hX hbl hbA w.2.2.1 (vin (by decide)) d_L_law_984 ?_
  refine lv_cst (x := xs (1 : Int32).toNatClampNeg) (y := 2) hv ?_
  refine R_vi C0 w (rest := [.int 0]) (wr := [(o1, .inr (0, fN 0 qn)), ((qn 0), .inr (1, fP 0 qp)), ((qn 5), .inr (6, fA 0 qm)), ((qp 1), .inl (cI, 10, .inl (fun _ => 0))), ((qp 6), .inl (cI, 10, .inl (fun _ => 0))), ((qp 7), .inl (cI, 10, .inl (fun _ => 0))), ((qp 8), .inl (cI, 10, .inl (fun _ => 0))), ((qp 9), .inl (cI, 10, .inl (fun _ => 0))), ((qm 5), .inl (cI, 16, .inl (fun _ => 0))), ((qr3 2), .inl (cI, 10, .inl (fun _ => 0))), ((qr3 7), .inl (cI, 10, .inl (fun _ => 0))), ((qr3 33), .inl (cI, 16, .inl (fun _ => 0))), (q4, .inl (cJ, 1, .inr (.inl (fun _ => 0))))]) (w1 := [(o2, .inr (7, fR 0 0 0 0 qr3))]) 9 rfl rfl [9] [0, 1, 2, 3, 4, 5, 6, 7, 8, 10, 11, 12, 13] (c_R_spent2 l D cI cB cJ o2 qr3) rfl rfl rfl rfl (by decide) wd_1161 wd_1158 wd_1159 wd_1160 wd_8 (n9 := 1) (by decide +kernel) rfl ⟨(Nat.le_of_ble_eq_true rfl), (Nat.le_of_ble_eq_true rfl)⟩ hl.1 rfl (Nat.le_of_ble_eq_true rfl) d_L_law_985 (Nat.le_of_ble_eq_true rfl) (Nat.le_of_ble_eq_true rfl) (fun H locs w => ?_)
  have w : Wd D (lA s) s [(o1, .inr (0, fN 0 qn)), ((qn 0), .inr (1, fP 0 qp)), ((qn 5), .inr (6, fA 0 qm)), ((qp 1), .inl (cI, 10, .inl (fun _ => 0))), ((qp 6), .inl (cI, 10, .inl (fun _ => 0))), ((qp 7), .inl (cI, 10, .inl (fun _ => 0))), ((qp 8), .inl (cI, 10, .inl (fun _ => 0))), ((qp 9), .inl (cI, 10, .inl (fun _ => 0))), ((qm 5), .inl (cI, 16, .inl (fun _ => 0))), ((qr3 2), .inl (cI, 10, .inl (fun _ => 0))), ((qr3 7), .inl (cI, 10, .inl (fun _ => 0))), ((qr3 33), .inl (cI, 16, .inl (fun _ => 0))), (q4, .inl (cJ, 1, .inr (.inl (fun _ => 0)))), (o2, .inr (7, fR 0 0 0 0 qr3))] H _ := w
  refine lv_icmp_eq (tgt := 993) hx hb d_L_law_988 (by decide) (fun hc988 => ?_) (fun hc => absurd (by decide) hc)
  exact law_tail C0 hX hbl hr hlk htl (Nat.le_of_ble_eq_true rfl) (Nat.le_of_ble_eq_true rfl) w (lv_sub hl [0, 4] rfl)
set_option maxHeartbeats 4000000 in
set_option maxRecDepth 100000 in
theorem law_case16_D {qm : Nat → Nat} {qn : Nat → Nat} {qp : Nat → Nat} {qr3 : Nat → Nat} {o1 : Nat} {o2 : Nat} {q4 : Nat} (C0 : Cx p s m #[Value.ref b] c code 7 "NameForgeLaw" D cI cB cJ) (hX : va_X b 6 xs s s.heap) (hbl : b < s.heap.size) (hr : meth.sig.returnType = ret) (hlk : meth.locks = false) (htl : l.stackTraces = false) (h0 : ¬ xs (1 : Int32).toNatClampNeg = 0) (h1 : ¬ xs (1 : Int32).toNatClampNeg = 1) (h2 : ¬ xs (1 : Int32).toNatClampNeg = 2) (w : Wd D (lA s) s [(o1, .inr (0, fN 0 qn)), ((qn 0), .inr (1, fP 0 qp)), ((qn 5), .inr (6, fA 0 qm)), ((qp 1), .inl (cI, 10, .inl (fun _ => 0))), ((qp 6), .inl (cI, 10, .inl (fun _ => 0))), ((qp 7), .inl (cI, 10, .inl (fun _ => 0))), ((qp 8), .inl (cI, 10, .inl (fun _ => 0))), ((qp 9), .inl (cI, 10, .inl (fun _ => 0))), ((qm 5), .inl (cI, 16, .inl (fun _ => 0))), (o2, .inr (7, fR 0 0 0 0 qr3)), ((qr3 2), .inl (cI, 10, .inl (fun _ => 0))), ((qr3 7), .inl (cI, 10, .inl (fun _ => 0))), ((qr3 33), .inl (cI, 16, .inl (fun _ => 0))), (q4, .inl (cJ, 1, .inr (.inl (fun _ => 0))))] H locs) (hl : lv_has ls 7 [(4, .int 0), (3, .ref q4), (2, .ref o2), (1, .ref o1), (0, .ref b)]) : W p l e room_1 s m #[Value.ref b] below meth c H locs 165 3470 (lw_Z below #[Value.ref b] s) (F0 m 968 ls []) := by
  have hx := C0.1
  have hb := C0.2.1
  have hbA : ¬ lA s b := fun h => absurd hbl (Nat.not_lt.mpr h)
  refine lv_aload_n hx hb d_L_law_968 rfl (lv_at hl 3 rfl) ?_
  refine lv_aload_n hx hb d_L_law_969 rfl (lv_at hl 4 rfl) ?_
  refine lv_iload hx hb d_L_law_970 (lv_at hl 0 rfl) ?_
  refine lv_iconst (v := 1) hx hb d_L_law_972 (by decide) ?_
  refine lv_iadd hx hb d_L_law_973 ?_
  refine lv_cst (x := 0 + 1) (y := 1) (by decide) ?_
  refine va_sld hx hb hX hbl hbA w.2.2.1 (vin (by decide)) d_L_law_974 ?_
  refine R_ri C0 w (rest := []) 0 rfl rfl [0, 2] (c_N_spentD l D cI cB cJ o1 qn qm (xs (1 : Int32).toNatClampNeg) h0 h1 h2) rfl rfl wd_384 wd_381 wd_382 wd_383 wd_1 (n9 := 1) (by decide +kernel) rfl ⟨(Nat.le_of_ble_eq_true rfl), (Nat.le_of_ble_eq_true rfl)⟩ hl.1 rfl (Nat.le_of_ble_eq_true rfl) d_L_law_975 (Nat.le_of_ble_eq_true rfl) (Nat.le_of_ble_eq_true rfl) ?_
  refine lv_aload_n hx hb d_L_law_978 rfl (lv_at hl 2 rfl) ?_
  refine lv_aload_n hx hb d_L_law_979 rfl (lv_at hl 4 rfl) ?_
  refine lv_iload hx hb d_L_law_980 (lv_at hl 0 rfl) ?_
  refine lv_iconst (v := 1) hx hb d_L_law_982 (by decide) ?_
  refine lv_iadd hx hb d_L_law_983 ?_
  refine lv_cst (x := 0 + 1) (y := 1) (by decide) ?_
  refine va_sld hx hb hX hbl hbA w.2.2.1 (vin (by decide)) d_L_law_984 ?_
  refine R_vi C0 w (rest := [.int (-1)]) (wr := [(o1, .inr (0, fN 0 qn)), ((qn 0), .inr (1, fP 0 qp)), ((qn 5), .inr (6, fA 0 qm)), ((qp 1), .inl (cI, 10, .inl (fun _ => 0))), ((qp 6), .inl (cI, 10, .inl (fun _ => 0))), ((qp 7), .inl (cI, 10, .inl (fun _ => 0))), ((qp 8), .inl (cI, 10, .inl (fun _ => 0))), ((qp 9), .inl (cI, 10, .inl (fun _ => 0))), ((qm 5), .inl (cI, 16, .inl (fun _ => 0))), ((qr3 2), .inl (cI, 10, .inl (fun _ => 0))), ((qr3 7), .inl (cI, 10, .inl (fun _ => 0))), ((qr3 33), .inl (cI, 16, .inl (fun _ => 0))), (q4, .inl (cJ, 1, .inr (.inl (fun _ => 0))))]) (w1 := [(o2, .inr (7, fR 0 0 0 0 qr3))]) 9 rfl rfl [9] [0, 1, 2, 3, 4, 5, 6, 7, 8, 10, 11, 12, 13] (c_R_spentD l D cI cB cJ o2 qr3 (xs (1 : Int32).toNatClampNeg) h0 h1 h2) rfl rfl rfl rfl (by decide) wd_1161 wd_1158 wd_1159 wd_1160 wd_8 (n9 := 1) (by decide +kernel) rfl ⟨(Nat.le_of_ble_eq_true rfl), (Nat.le_of_ble_eq_true rfl)⟩ hl.1 rfl (Nat.le_of_ble_eq_true rfl) d_L_law_985 (Nat.le_of_ble_eq_true rfl) (Nat.le_of_ble_eq_true rfl) (fun H locs w => ?_)
  have w : Wd D (lA s) s [(o1, .inr (0, fN 0 qn)), ((qn 0), .inr (1, fP 0 qp)), ((qn 5), .inr (6, fA 0 qm)), ((qp 1), .inl (cI, 10, .inl (fun _ => 0))), ((qp 6), .inl (cI, 10, .inl (fun _ => 0))), ((qp 7), .inl (cI, 10, .inl (fun _ => 0))), ((qp 8), .inl (cI, 10, .inl (fun _ => 0))), ((qp 9), .inl (cI, 10, .inl (fun _ => 0))), ((qm 5), .inl (cI, 16, .inl (fun _ => 0))), ((qr3 2), .inl (cI, 10, .inl (fun _ => 0))), ((qr3 7), .inl (cI, 10, .inl (fun _ => 0))), ((qr3 33), .inl (cI, 16, .inl (fun _ => 0))), (q4, .inl (cJ, 1, .inr (.inl (fun _ => 0)))), (o2, .inr (7, fR 0 0 0 0 qr3))] H _ := w
  refine lv_icmp_eq (tgt := 993) hx hb d_L_law_988 (by decide) (fun hc988 => ?_) (fun hc => absurd (by decide) hc)
  exact law_tail C0 hX hbl hr hlk htl (Nat.le_of_ble_eq_true rfl) (Nat.le_of_ble_eq_true rfl) w (lv_sub hl [0, 4] rfl)
theorem law_case16 {qm : Nat → Nat} {qn : Nat → Nat} {qp : Nat → Nat} {qr3 : Nat → Nat} {o1 : Nat} {o2 : Nat} {q4 : Nat} (C0 : Cx p s m #[Value.ref b] c code 7 "NameForgeLaw" D cI cB cJ) (hX : va_X b 6 xs s s.heap) (hbl : b < s.heap.size) (hr : meth.sig.returnType = ret) (hlk : meth.locks = false) (htl : l.stackTraces = false) (w : Wd D (lA s) s [(o1, .inr (0, fN 0 qn)), ((qn 0), .inr (1, fP 0 qp)), ((qn 5), .inr (6, fA 0 qm)), ((qp 1), .inl (cI, 10, .inl (fun _ => 0))), ((qp 6), .inl (cI, 10, .inl (fun _ => 0))), ((qp 7), .inl (cI, 10, .inl (fun _ => 0))), ((qp 8), .inl (cI, 10, .inl (fun _ => 0))), ((qp 9), .inl (cI, 10, .inl (fun _ => 0))), ((qm 5), .inl (cI, 16, .inl (fun _ => 0))), (o2, .inr (7, fR 0 0 0 0 qr3)), ((qr3 2), .inl (cI, 10, .inl (fun _ => 0))), ((qr3 7), .inl (cI, 10, .inl (fun _ => 0))), ((qr3 33), .inl (cI, 16, .inl (fun _ => 0))), (q4, .inl (cJ, 1, .inr (.inl (fun _ => 0))))] H locs) (hl : lv_has ls 7 [(4, .int 0), (3, .ref q4), (2, .ref o2), (1, .ref o1), (0, .ref b)]) : W p l e room_1 s m #[Value.ref b] below meth c H locs 165 3470 (lw_Z below #[Value.ref b] s) (F0 m 968 ls []) := by
  by_cases h0 : xs (1 : Int32).toNatClampNeg = 0
  · exact law_case16_0 C0 hX hbl hr hlk htl h0 w hl
  by_cases h1 : xs (1 : Int32).toNatClampNeg = 1
  · exact law_case16_1 C0 hX hbl hr hlk htl h1 w hl
  by_cases h2 : xs (1 : Int32).toNatClampNeg = 2
  · exact law_case16_2 C0 hX hbl hr hlk htl h2 w hl
  exact law_case16_D C0 hX hbl hr hlk htl h0 h1 h2 w hl
set_option maxHeartbeats 4000000 in
set_option maxRecDepth 100000 in
theorem law_dflt {qm : Nat → Nat} {qn : Nat → Nat} {qp : Nat → Nat} {qr3 : Nat → Nat} {o1 : Nat} {o2 : Nat} {q4 : Nat} (C0 : Cx p s m #[Value.ref b] c code 7 "NameForgeLaw" D cI cB cJ) (hX : va_X b 6 xs s s.heap) (hbl : b < s.heap.size) (hr : meth.sig.returnType = ret) (hlk : meth.locks = false) (htl : l.stackTraces = false) (w : Wd D (lA s) s [(o1, .inr (0, fN 0 qn)), ((qn 0), .inr (1, fP 0 qp)), ((qn 5), .inr (6, fA 0 qm)), ((qp 1), .inl (cI, 10, .inl (fun _ => 0))), ((qp 6), .inl (cI, 10, .inl (fun _ => 0))), ((qp 7), .inl (cI, 10, .inl (fun _ => 0))), ((qp 8), .inl (cI, 10, .inl (fun _ => 0))), ((qp 9), .inl (cI, 10, .inl (fun _ => 0))), ((qm 5), .inl (cI, 16, .inl (fun _ => 0))), (o2, .inr (7, fR 0 0 0 0 qr3)), ((qr3 2), .inl (cI, 10, .inl (fun _ => 0))), ((qr3 7), .inl (cI, 10, .inl (fun _ => 0))), ((qr3 33), .inl (cI, 16, .inl (fun _ => 0))), (q4, .inl (cJ, 1, .inr (.inl (fun _ => 0))))] H locs) (hl : lv_has ls 7 [(4, .int 0), (3, .ref q4), (2, .ref o2), (1, .ref o1), (0, .ref b)]) : W p l e room_1 s m #[Value.ref b] below meth c H locs 165 3470 (lw_Z below #[Value.ref b] s) (F0 m 993 ls []) := by
  have hx := C0.1
  have hb := C0.2.1
  have hbA : ¬ lA s b := fun h => absurd hbl (Nat.not_lt.mpr h)
  exact law_tail C0 hX hbl hr hlk htl (Nat.le_of_ble_eq_true rfl) (Nat.le_of_ble_eq_true rfl) w (lv_sub hl [0, 4] rfl)
end LAW
end
section
set_option maxHeartbeats 4000000 in
set_option maxRecDepth 100000 in
theorem whole_start {p : Program} {e : Env} {s : State} {m : MethodId} {below : List Frame} {meth : Method} {c : Code} (l : Launch) {b L : Nat} {xs : Nat → Int32} (hL : L ≤ 6) (htl : l.stackTraces = false) (Y0 : lw_At p s m meth c b L xs) : W p l e room_1 s m #[Value.ref b] below meth c s.heap [] 0 0 (lw_Z below #[Value.ref b] s) (entryFrame m ([Value.ref b] : List Value).toArray 7) := by
  obtain ⟨hx, hb, hr, hml, hown, hts, hX, hbl, hlk, hgv⟩ := Y0
  obtain ⟨D, cI, cB, cJ, hK, hKx⟩ := law_known hts hgv
  have C0 : Cx p s m #[Value.ref b] c code 7 "NameForgeLaw" D cI cB cJ := ⟨hx, hb, hml, hown, fun w hw => hts w (wT_tbl w hw), hK, hKx⟩
  have hbA : ¬ lA s b := fun h => absurd hbl (Nat.not_lt.mpr h)
  have w : Wd D (lA s) s [] s.heap [] := ⟨fun k q hk => (by cases hk), ⟨fun i j p q hi => (by cases hi), fun k q hk => (by cases hk)⟩, va_S.rf, fun q h => h, fun q cell h1 _ h3 => absurd (Array.getElem?_eq_some_iff.mp h1).1 (Nat.not_lt.mpr h3)⟩
  have hl := lv_entry ([Value.ref b]) (n := 7) (Nat.le_of_ble_eq_true rfl)
  rw [lg_entry_eq]
  generalize (lg_sl ([Value.ref b]) ++ List.replicate (7 - (lg_sl ([Value.ref b])).length) Slot.unset).toArray = ls at hl ⊢
  have hl : lv_has ls 7 [(0, .ref b)] := hl
  refine R_new C0 w (ci := 0) rfl inN tyN_ok wd_17 wd_18 wd_1 bornN (Nat.le_of_ble_eq_true rfl) (Nat.le_of_ble_eq_true rfl) d_L_law_0 (fun o1 H w => ?_)
  refine W.cs (cells' := 1) (slots' := 7) rfl rfl ?_
  have w : Wd D (lA s) s [(o1, .inr (0, [.null, .null, .null, .null, .null, .null, .int 0]))] H _ := w
  refine lv_dup hx hb d_L_law_3 rfl ?_
  refine R_iv C0 w (rest := [.ref o1]) (wr := []) [0] [] (c_N_init l D cI cB cJ o1) rfl rfl rfl rfl (by decide) wd_21 wd_19 wd_20 wd_1 rfl (n9 := 0) (by decide +kernel) rfl ⟨(Nat.le_of_ble_eq_true rfl), (Nat.le_of_ble_eq_true rfl)⟩ hl.1 rfl (Nat.le_of_ble_eq_true rfl) d_L_law_4 (Nat.le_of_ble_eq_true rfl) (Nat.le_of_ble_eq_true rfl) (fun t9 H locs ht9 hB9 hj9 => ?_)
  obtain ⟨qn, qp, qm, hE9⟩ := hB9
  have w := hj9 _ hE9
  refine W.cs (cells' := 133) (slots' := 1924) rfl rfl ?_
  have w : Wd D (lA s) s [(o1, .inr (0, fN 0 qn)), ((qn 0), .inr (1, fP 0 qp)), ((qn 5), .inr (6, fA 0 qm)), ((qp 1), .inl (cI, 10, .inl (fun _ => 0))), ((qp 6), .inl (cI, 10, .inl (fun _ => 0))), ((qp 7), .inl (cI, 10, .inl (fun _ => 0))), ((qp 8), .inl (cI, 10, .inl (fun _ => 0))), ((qp 9), .inl (cI, 10, .inl (fun _ => 0))), ((qm 5), .inl (cI, 16, .inl (fun _ => 0)))] H _ := w
  refine lv_astore_n hx hb d_L_law_7 rfl hl (by decide) rfl (fun ls hl => ?_)
  have hl : lv_has ls 7 [(1, .ref o1), (0, .ref b)] := hl
  refine R_new C0 w (ci := 7) rfl inR tyR_ok wd_822 wd_823 wd_8 bornR (Nat.le_of_ble_eq_true rfl) (Nat.le_of_ble_eq_true rfl) d_L_law_8 (fun o2 H w => ?_)
  refine W.cs (cells' := 134) (slots' := 1965) rfl rfl ?_
  have w : Wd D (lA s) s [(o1, .inr (0, fN 0 qn)), ((qn 0), .inr (1, fP 0 qp)), ((qn 5), .inr (6, fA 0 qm)), ((qp 1), .inl (cI, 10, .inl (fun _ => 0))), ((qp 6), .inl (cI, 10, .inl (fun _ => 0))), ((qp 7), .inl (cI, 10, .inl (fun _ => 0))), ((qp 8), .inl (cI, 10, .inl (fun _ => 0))), ((qp 9), .inl (cI, 10, .inl (fun _ => 0))), ((qm 5), .inl (cI, 16, .inl (fun _ => 0))), (o2, .inr (7, [.int 0, .int 0, .null, .null, .null, .null, .null, .null, .null, .null, .null, .int 0, .int 0, .null, .null, .null, .null, .int 0, .null, .null, .null, .null, .null, .null, .null, .null, .null, .int 0, .null, .null, .null, .null, .int 0, .null, .int 0, .int 0, .null, .int 0, .int 0, .null, .null]))] H _ := w
  refine lv_dup hx hb d_L_law_11 rfl ?_
  refine R_iv C0 w (rest := [.ref o2]) (wr := [(o1, .inr (0, fN 0 qn)), ((qn 0), .inr (1, fP 0 qp)), ((qn 5), .inr (6, fA 0 qm)), ((qp 1), .inl (cI, 10, .inl (fun _ => 0))), ((qp 6), .inl (cI, 10, .inl (fun _ => 0))), ((qp 7), .inl (cI, 10, .inl (fun _ => 0))), ((qp 8), .inl (cI, 10, .inl (fun _ => 0))), ((qp 9), .inl (cI, 10, .inl (fun _ => 0))), ((qm 5), .inl (cI, 16, .inl (fun _ => 0)))]) [9] [0, 1, 2, 3, 4, 5, 6, 7, 8] (c_R_init l D cI cB cJ o2) rfl rfl rfl rfl (by decide) wd_826 wd_824 wd_825 wd_8 rfl (n9 := 0) (by decide +kernel) rfl ⟨(Nat.le_of_ble_eq_true rfl), (Nat.le_of_ble_eq_true rfl)⟩ hl.1 rfl (Nat.le_of_ble_eq_true rfl) d_L_law_12 (Nat.le_of_ble_eq_true rfl) (Nat.le_of_ble_eq_true rfl) (fun t9 H locs ht9 hB9 hj9 => ?_)
  obtain ⟨qr3, hE9⟩ := hB9
  have w := hj9 _ hE9
  refine W.cs (cells' := 164) (slots' := 3469) rfl rfl ?_
  have w : Wd D (lA s) s [(o1, .inr (0, fN 0 qn)), ((qn 0), .inr (1, fP 0 qp)), ((qn 5), .inr (6, fA 0 qm)), ((qp 1), .inl (cI, 10, .inl (fun _ => 0))), ((qp 6), .inl (cI, 10, .inl (fun _ => 0))), ((qp 7), .inl (cI, 10, .inl (fun _ => 0))), ((qp 8), .inl (cI, 10, .inl (fun _ => 0))), ((qp 9), .inl (cI, 10, .inl (fun _ => 0))), ((qm 5), .inl (cI, 16, .inl (fun _ => 0))), (o2, .inr (7, fR 0 0 0 0 qr3)), ((qr3 2), .inl (cI, 10, .inl (fun _ => 0))), ((qr3 7), .inl (cI, 10, .inl (fun _ => 0))), ((qr3 33), .inl (cI, 16, .inl (fun _ => 0)))] H _ := w
  refine lv_astore_n hx hb d_L_law_15 rfl hl (by decide) rfl (fun ls hl => ?_)
  have hl : lv_has ls 7 [(2, .ref o2), (1, .ref o1), (0, .ref b)] := hl
  refine lv_iconst (v := 1) hx hb d_L_law_16 (by decide) ?_
  refine R_newJ (N := 1) C0 w wd_1162 (by decide) (by decide) (by decide) (Nat.le_of_ble_eq_true rfl) (Nat.le_of_ble_eq_true rfl) d_L_law_17 (fun q4 H w => ?_)
  refine W.cs (cells' := 165) (slots' := 3470) rfl rfl ?_
  have w : Wd D (lA s) s [(o1, .inr (0, fN 0 qn)), ((qn 0), .inr (1, fP 0 qp)), ((qn 5), .inr (6, fA 0 qm)), ((qp 1), .inl (cI, 10, .inl (fun _ => 0))), ((qp 6), .inl (cI, 10, .inl (fun _ => 0))), ((qp 7), .inl (cI, 10, .inl (fun _ => 0))), ((qp 8), .inl (cI, 10, .inl (fun _ => 0))), ((qp 9), .inl (cI, 10, .inl (fun _ => 0))), ((qm 5), .inl (cI, 16, .inl (fun _ => 0))), (o2, .inr (7, fR 0 0 0 0 qr3)), ((qr3 2), .inl (cI, 10, .inl (fun _ => 0))), ((qr3 7), .inl (cI, 10, .inl (fun _ => 0))), ((qr3 33), .inl (cI, 16, .inl (fun _ => 0))), (q4, .inl (cJ, 1, .inr (.inl (fun _ => 0))))] H _ := w
  refine lv_astore_n hx hb d_L_law_19 rfl hl (by decide) rfl (fun ls hl => ?_)
  have hl : lv_has ls 7 [(3, .ref q4), (2, .ref o2), (1, .ref o1), (0, .ref b)] := hl
  refine lv_iconst (v := 0) hx hb d_L_law_20 (by decide) ?_
  refine lv_istore hx hb d_L_law_21 hl (by decide) rfl (fun ls hl => ?_)
  have hl : lv_has ls 7 [(4, .int 0), (3, .ref q4), (2, .ref o2), (1, .ref o1), (0, .ref b)] := hl
  refine lv_iload hx hb d_L_law_23 (lv_at hl 0 rfl) ?_
  refine lv_aload_n hx hb d_L_law_25 rfl (lv_at hl 4 rfl) ?_
  refine va_slen hx hb hX hbl hbA w.2.2.1 d_L_law_26 ?_
  refine lv_bipush (v := 6) hx hb d_L_law_27 (by decide) ?_
  refine lv_isub hx hb d_L_law_29 ?_
  refine lv_icmp_gt (tgt := 999) hx hb d_L_law_30 (by decide) (fun hc30 => ?_) (fun hc30 => ?_)
  · refine lv_iconst (v := 1) hx hb d_L_law_999 (by decide) ?_
    refine va_forget (fun q hq => w.2.2.1.2.2 q hq) ?_
    refine W.widen (k := 600002) (n := 7302232) (Nat.le_of_ble_eq_true rfl) (Nat.le_of_ble_eq_true rfl) ?_
    exact lw_ret hx hb hr hlk d_L_law_1000
  · obtain rfl : L = 6 := l6 hL hc30
    refine lv_aload_n hx hb d_L_law_33 rfl (lv_at hl 4 rfl) ?_
    refine lv_iload hx hb d_L_law_34 (lv_at hl 0 rfl) ?_
    refine va_sld hx hb hX hbl hbA w.2.2.1 (vin (by decide)) d_L_law_36 ?_
    refine lv_bipush (v := 31) hx hb d_L_law_37 (by decide) ?_
    refine lv_iand hx hb d_L_law_39 ?_
    obtain ⟨j9, hj9, e9⟩ := pk_andE (xs (0 : Int32).toNatClampNeg) (m := 31) 5 (by decide)
    refine lv_cst e9 ?_
    have hd9 : j9 = 0 ∨ j9 = 1 ∨ j9 = 2 ∨ j9 = 3 ∨ j9 = 4 ∨ j9 = 5 ∨ j9 = 6 ∨ j9 = 7 ∨ j9 = 8 ∨ j9 = 9 ∨ j9 = 10 ∨ j9 = 11 ∨ j9 = 12 ∨ j9 = 13 ∨ j9 = 14 ∨ j9 = 15 ∨ j9 = 16 ∨ j9 = 17 ∨ j9 = 18 ∨ j9 = 19 ∨ j9 = 20 ∨ j9 = 21 ∨ j9 = 22 ∨ j9 = 23 ∨ j9 = 24 ∨ j9 = 25 ∨ j9 = 26 ∨ j9 = 27 ∨ j9 = 28 ∨ j9 = 29 ∨ j9 = 30 ∨ j9 = 31 := by omega
    rcases hd9 with rfl | rfl | rfl | rfl | rfl | rfl | rfl | rfl | rfl | rfl | rfl | rfl | rfl | rfl | rfl | rfl | rfl | rfl | rfl | rfl | rfl | rfl | rfl | rfl | rfl | rfl | rfl | rfl | rfl | rfl | rfl | rfl
    · exact lv_tableIn (off := 84) (tgt := 124) hx hb d_L_law_40 (by decide +kernel) (by decide +kernel) (by decide +kernel) (by decide +kernel) (law_case0 C0 hX hbl hr hlk htl w hl)
    · exact lv_tableIn (off := 128) (tgt := 168) hx hb d_L_law_40 (by decide +kernel) (by decide +kernel) (by decide +kernel) (by decide +kernel) (law_case1 C0 hX hbl hr hlk htl w hl)
    · exact lv_tableIn (off := 232) (tgt := 272) hx hb d_L_law_40 (by decide +kernel) (by decide +kernel) (by decide +kernel) (by decide +kernel) (law_case2 C0 hX hbl hr hlk htl w hl)
    · exact lv_tableIn (off := 280) (tgt := 320) hx hb d_L_law_40 (by decide +kernel) (by decide +kernel) (by decide +kernel) (by decide +kernel) (law_case3 C0 hX hbl hr hlk htl w hl)
    · exact lv_tableIn (off := 352) (tgt := 392) hx hb d_L_law_40 (by decide +kernel) (by decide +kernel) (by decide +kernel) (by decide +kernel) (law_case4 C0 hX hbl hr hlk htl w hl)
    · exact lv_tableIn (off := 388) (tgt := 428) hx hb d_L_law_40 (by decide +kernel) (by decide +kernel) (by decide +kernel) (by decide +kernel) (law_case5 C0 hX hbl hr hlk htl w hl)
    · exact lv_tableIn (off := 399) (tgt := 439) hx hb d_L_law_40 (by decide +kernel) (by decide +kernel) (by decide +kernel) (by decide +kernel) (law_case6 C0 hX hbl hr hlk htl w hl)
    · exact lv_tableIn (off := 443) (tgt := 483) hx hb d_L_law_40 (by decide +kernel) (by decide +kernel) (by decide +kernel) (by decide +kernel) (law_case7 C0 hX hbl hr hlk htl w hl)
    · exact lv_tableIn (off := 511) (tgt := 551) hx hb d_L_law_40 (by decide +kernel) (by decide +kernel) (by decide +kernel) (by decide +kernel) (law_case8 C0 hX hbl hr hlk htl w hl)
    · exact lv_tableIn (off := 591) (tgt := 631) hx hb d_L_law_40 (by decide +kernel) (by decide +kernel) (by decide +kernel) (by decide +kernel) (law_case9 C0 hX hbl hr hlk htl w hl)
    · exact lv_tableIn (off := 671) (tgt := 711) hx hb d_L_law_40 (by decide +kernel) (by decide +kernel) (by decide +kernel) (by decide +kernel) (law_case10 C0 hX hbl hr hlk htl w hl)
    · exact lv_tableIn (off := 739) (tgt := 779) hx hb d_L_law_40 (by decide +kernel) (by decide +kernel) (by decide +kernel) (by decide +kernel) (law_case11 C0 hX hbl hr hlk htl w hl)
    · exact lv_tableIn (off := 764) (tgt := 804) hx hb d_L_law_40 (by decide +kernel) (by decide +kernel) (by decide +kernel) (by decide +kernel) (law_case12 C0 hX hbl hr hlk htl w hl)
    · exact lv_tableIn (off := 775) (tgt := 815) hx hb d_L_law_40 (by decide +kernel) (by decide +kernel) (by decide +kernel) (by decide +kernel) (law_case13 C0 hX hbl hr hlk htl w hl)
    · exact lv_tableIn (off := 859) (tgt := 899) hx hb d_L_law_40 (by decide +kernel) (by decide +kernel) (by decide +kernel) (by decide +kernel) (law_case14 C0 hX hbl hr hlk htl w hl)
    · exact lv_tableIn (off := 872) (tgt := 912) hx hb d_L_law_40 (by decide +kernel) (by decide +kernel) (by decide +kernel) (by decide +kernel) (law_case15 C0 hX hbl hr hlk htl w hl)
    · exact lv_tableIn (off := 928) (tgt := 968) hx hb d_L_law_40 (by decide +kernel) (by decide +kernel) (by decide +kernel) (by decide +kernel) (law_case16 C0 hX hbl hr hlk htl w hl)
    · exact lv_tableOut (tgt := 993) hx hb d_L_law_40 (by decide +kernel) (by decide +kernel) (law_dflt C0 hX hbl hr hlk htl w hl)
    · exact lv_tableOut (tgt := 993) hx hb d_L_law_40 (by decide +kernel) (by decide +kernel) (law_dflt C0 hX hbl hr hlk htl w hl)
    · exact lv_tableOut (tgt := 993) hx hb d_L_law_40 (by decide +kernel) (by decide +kernel) (law_dflt C0 hX hbl hr hlk htl w hl)
    · exact lv_tableOut (tgt := 993) hx hb d_L_law_40 (by decide +kernel) (by decide +kernel) (law_dflt C0 hX hbl hr hlk htl w hl)
    · exact lv_tableOut (tgt := 993) hx hb d_L_law_40 (by decide +kernel) (by decide +kernel) (law_dflt C0 hX hbl hr hlk htl w hl)
    · exact lv_tableOut (tgt := 993) hx hb d_L_law_40 (by decide +kernel) (by decide +kernel) (law_dflt C0 hX hbl hr hlk htl w hl)
    · exact lv_tableOut (tgt := 993) hx hb d_L_law_40 (by decide +kernel) (by decide +kernel) (law_dflt C0 hX hbl hr hlk htl w hl)
    · exact lv_tableOut (tgt := 993) hx hb d_L_law_40 (by decide +kernel) (by decide +kernel) (law_dflt C0 hX hbl hr hlk htl w hl)
    · exact lv_tableOut (tgt := 993) hx hb d_L_law_40 (by decide +kernel) (by decide +kernel) (law_dflt C0 hX hbl hr hlk htl w hl)
    · exact lv_tableOut (tgt := 993) hx hb d_L_law_40 (by decide +kernel) (by decide +kernel) (law_dflt C0 hX hbl hr hlk htl w hl)
    · exact lv_tableOut (tgt := 993) hx hb d_L_law_40 (by decide +kernel) (by decide +kernel) (law_dflt C0 hX hbl hr hlk htl w hl)
    · exact lv_tableOut (tgt := 993) hx hb d_L_law_40 (by decide +kernel) (by decide +kernel) (law_dflt C0 hX hbl hr hlk htl w hl)
    · exact lv_tableOut (tgt := 993) hx hb d_L_law_40 (by decide +kernel) (by decide +kernel) (law_dflt C0 hX hbl hr hlk htl w hl)
    · exact lv_tableOut (tgt := 993) hx hb d_L_law_40 (by decide +kernel) (by decide +kernel) (law_dflt C0 hX hbl hr hlk htl w hl)
    · exact lv_tableOut (tgt := 993) hx hb d_L_law_40 (by decide +kernel) (by decide +kernel) (law_dflt C0 hX hbl hr hlk htl w hl)
-- ===== YOUR PART ENDS =====
set_option maxHeartbeats 4000000 in
theorem lw_walk (l : Launch) (htl : l.stackTraces = false) (b : Addr) (xs : List Int32) : MetFree l x (headSpec (Jvm.Cond.code x code maxLocals ret :: tables_1) room_1) (lw_P b xs) (fun _ _ _ _ _ => True) lw_Q := by
  refine MetFree.of_bodyS (code := code) (maxLocals := maxLocals) (ret := ret) (by decide) ?_ ?_
  · intro args s m h hn
    obtain ⟨meth, c, h1, h2, h3, h4, h5, h6, -, -⟩ := Cond.code_spec hn (atoms_spec (ws := Jvm.Cond.code x code maxLocals ret :: tables_1) h _ List.mem_cons_self)
    exact ⟨meth, c, h1, h2, h3, h4, h5, h6⟩
  · intro p e s m args below meth c s₁ B hml0 hP _
    obtain ⟨rfl, hx, hbd, hgv⟩ := hP
    obtain ⟨scr, harrAt, hlist, hof, hsmall⟩ := hx
    obtain ⟨hcb, hkn, -, -⟩ := State.arrayAt?_spec harrAt
    have hown : s.vm.findClass R_law = some m.cls := findClass_of_methodNamed B.named
    have hts0 : ∀ c ∈ (Jvm.Cond.code x code maxLocals ret :: tables_1), c.before #[Value.ref b] s = true := atoms_spec (ws := Jvm.Cond.code x code maxLocals ret :: tables_1) B.pre
    have hts : ∀ w ∈ lw_tbl, w.before #[Value.ref b] s = true := k2_hts_sels lw_privs (fun w hw => hts0 w (List.mem_cons_of_mem _ hw)) lw_privs_ok
    have hml : c.maxLocals = 7 := B.maxLocals_eq (hts0 _ List.mem_cons_self)
    have X₀ : Stand p l e room_1 s m #[Value.ref b] below meth c s₁ [] 0 0 := Stand.of_body B
    have hh0 : s₁.heap = s.heap := by rw [B.state]; rfl
    have hsz : scr.slots.size = xs.length := by rw [← Array.length_toList, hlist, List.length_map]
    have hval : ∀ j : Nat, j < xs.length → scr.slots[j]? = some (.int (xs.getD j 0)) := fun j hj => by
      rw [← Array.getElem?_toList, hlist]
      simp [hj]
    have hbl : b < s.heap.size := (Array.getElem?_eq_some_iff.mp hcb).1
    have hX : va_X b xs.length (fun j => xs.getD j 0) s s.heap := ⟨scr, hcb, hof, hkn, hsz, hval⟩
    have K : W p l e room_1 s m #[Value.ref b] below meth c s₁.heap [] 0 0 (lw_Z below #[Value.ref b] s) (entryFrame m ([Value.ref b] : List Value).toArray 7) := by
      rw [hh0]
      exact whole_start l hbd htl ⟨B.exec, B.bytes, B.returns, hml, hown, hts, hX, hbl, B.notSynchronized, hgv⟩
    obtain ⟨t, a1, o, b1, b2, b3⟩ := K s₁ rfl X₀
    exact ⟨t, o, a1, b1, b2, b3⟩
theorem lw_pre_spec {args : Array Value} {s : State} (h : (Jvm.Cond.and given_1 narrow_1).before args s = true) (hr : rest_1_c.before args s = true) : ∃ (b : Addr) (xs : List Int32), lw_P b xs args s := by
  have hs := flat_of_before _ h
  have hq := flat_of_before _ hr
  have hc : (Cond.count 1).before args s = true := hs _ (by decide +kernel)
  have harr : (Cond.arrayOf (.arg 0) .int).before args s = true := hs _ (by decide +kernel)
  have hle : (Cond.le (.length (.arg 0)) (.int 6)).before args s = true := hs _ (by decide +kernel)
  have hlen : (Cond.isInt (.length (.arg 0))).before args s = true := hq _ (by decide +kernel)
  have hall : (Cond.all (.arg 0) (.isInt (.elem (.arg 0) (.index 0)))).before args s = true := hq _ (by decide +kernel)
  obtain ⟨b, xs, hb, hx⟩ := State.ints_of_pre rfl harr hlen hall
  have hsm : xs.length < 2 ^ 31 := hx.choose_spec.2.2.2
  have hev : (Term.length (.arg 0)).eval args s none [] s = some (.int xs.length.toInt32) := hx.length_eval hb
  have hv := Cond.le_ints hev (show (Term.int 6).eval args s none [] s = some (.int 6) from rfl)
  have hd : xs.length.toInt32 ≤ 6 := by
    simpa [Cond.before, Cond.holds, hv] using hle
  have hN : xs.length ≤ 6 := (Int32.ofNat_le_ofNat hsm (by decide)).mp (show Int32.ofNat xs.length ≤ Int32.ofNat 6 from hd)
  exact ⟨b, xs, Cond.one_arg hc (show args[0]? = some (.ref b) from hb), hx, hN, h⟩
theorem lw_comes (l : Launch) (htl : l.stackTraces = false) : Comes l x (Jvm.Cond.code x code maxLocals ret :: tables_1) room_1 (fun tb e args s => Calls_1 tb e args s ∧ rest_1 tb e args s ∧ Pre_1 tb e args s)
    (fun _ _ args s o t => lw_Q args s o t) := by
  intro p e ha hc hk s m args below hf hfit hheap happ hpre
  obtain ⟨b, xs, hP⟩ := lw_pre_spec hpre.2.2 hpre.2.1
  obtain ⟨k, o, h1, h2, h3, hQ⟩ := lw_walk l htl b xs p e ha hc hk s m args below hf ((Spec.applies_iff_loose hf).mp happ).1 hP trivial
  exact ⟨k, o, h1, h2, h3, hQ⟩
theorem lw_frame {s t : State} {o : Outcome} {args : Array Value} (h : Framed s o t [] 600002 7302232) :
    Framed s o t (fieldLocs frame_1_writes args s ++ arrayLocs frame_1_arrays args s ++ staticLocs frame_1_statics s) 600002 7302232 := h
theorem lw_limb (L : Cond) (hL : ∀ (args : Array Value) (s t : State), L.after args s (.returned (some (.int 1))) t = true) :
    ArmFor flags0 classFile x code maxLocals ret World_1 tables_1 room_1 Calls_1 rest_1 Pre_1
      (fun tb e a s o t => postC L tb e a s o t ∧ Framed s o t (fieldLocs frame_1_writes a s ++ arrayLocs frame_1_arrays a s ++ staticLocs frame_1_statics s) 600002 7302232) := by
  intro l hfl _ _ p e ha hc hk s m args below hf hfit hheap happ hpre
  have htl : l.stackTraces = false := by rw [Launch.stackTraces, hfl]; decide
  obtain ⟨k, o, h1, h2, h3, rfl, hF⟩ := lw_comes l htl p e ha hc hk s m args below hf hfit hheap happ hpre
  exact ⟨k, _, h1, h2, h3, hL args s _, lw_frame hF⟩
theorem i_vc : Claimed_1_1 ∧ Claimed_1_2 := ⟨lw_limb limb_1_1 (fun args s t => by simp [limb_1_1, Cond.after, Cond.holds, Cond.value]), lw_limb limb_1_2 (fun args s t => Cond.after_iff.mpr (by
  first | (rw [show limb_1_2 = Cond.eq .result (.int 1) from rfl, Cond.eq_ints (x := 1) (y := 1) rfl rfl]; simp; done) | (simp [limb_1_2, Cond.value, Term.eval]; done)))⟩
end
