section
-- ===== PART A: goes FIRST, ahead of the names: the tables' words, and 'selects' of the private methods out of them =====
/-- a private method of a class that the tables say can be made, by its rows of tables_1 -/
def lw_okq (q : MethodName × Nat) : Prop := (q.1.cls ≠ "java/lang/invoke/MethodHandle" ∧ q.1.cls ≠ "java/lang/invoke/VarHandle") ∧ Cond.instantiable q.1.cls q.2 ∈ tables_1 ∧ Cond.privateMethod q.1 ∈ tables_1 ∧ Cond.instanceMethod q.1 ∈ tables_1
theorem lw_p0 : lw_okq (⟨"VerifiedCode$Reader", "next", "(LVerifiedCode$Program;II)Z"⟩, 3) := ⟨⟨by decide +kernel, by decide +kernel⟩, List.mem_of_getElem? (i := 113) (by decide +kernel), List.mem_of_getElem? (i := 254) (by decide +kernel), List.mem_of_getElem? (i := 255) (by decide +kernel)⟩
theorem lw_p1 : lw_okq (⟨"VerifiedCode$Reader", "readsConstants", "(LVerifiedCode$Program;)Z"⟩, 3) := ⟨⟨by decide +kernel, by decide +kernel⟩, List.mem_of_getElem? (i := 113) (by decide +kernel), List.mem_of_getElem? (i := 258) (by decide +kernel), List.mem_of_getElem? (i := 259) (by decide +kernel)⟩
theorem lw_p2 : lw_okq (⟨"VerifiedCode$Reader", "nextOnes", "(LVerifiedCode$Program;III)Z"⟩, 3) := ⟨⟨by decide +kernel, by decide +kernel⟩, List.mem_of_getElem? (i := 113) (by decide +kernel), List.mem_of_getElem? (i := 262) (by decide +kernel), List.mem_of_getElem? (i := 263) (by decide +kernel)⟩
theorem lw_p3 : lw_okq (⟨"VerifiedCode$Reader", "readsMethod", "(LVerifiedCode$Program;LVerifiedCode$Method;)Z"⟩, 3) := ⟨⟨by decide +kernel, by decide +kernel⟩, List.mem_of_getElem? (i := 113) (by decide +kernel), List.mem_of_getElem? (i := 266) (by decide +kernel), List.mem_of_getElem? (i := 267) (by decide +kernel)⟩
theorem lw_p4 : lw_okq (⟨"VerifiedCode$Reader", "readsHead", "(LVerifiedCode$Program;LVerifiedCode$Method;)Z"⟩, 3) := ⟨⟨by decide +kernel, by decide +kernel⟩, List.mem_of_getElem? (i := 113) (by decide +kernel), List.mem_of_getElem? (i := 270) (by decide +kernel), List.mem_of_getElem? (i := 271) (by decide +kernel)⟩
theorem lw_p5 : lw_okq (⟨"VerifiedCode$Reader", "readsCode", "(LVerifiedCode$Program;LVerifiedCode$Method;)Z"⟩, 3) := ⟨⟨by decide +kernel, by decide +kernel⟩, List.mem_of_getElem? (i := 113) (by decide +kernel), List.mem_of_getElem? (i := 274) (by decide +kernel), List.mem_of_getElem? (i := 275) (by decide +kernel)⟩
theorem lw_p6 : lw_okq (⟨"VerifiedCode$Reader", "readsInstruction", "(LVerifiedCode$Program;LVerifiedCode$Method;I)Z"⟩, 3) := ⟨⟨by decide +kernel, by decide +kernel⟩, List.mem_of_getElem? (i := 113) (by decide +kernel), List.mem_of_getElem? (i := 278) (by decide +kernel), List.mem_of_getElem? (i := 279) (by decide +kernel)⟩
theorem lw_p7 : lw_okq (⟨"VerifiedCode$Reader", "highestOperand", "(LVerifiedCode$Program;LVerifiedCode$Method;II)I"⟩, 3) := ⟨⟨by decide +kernel, by decide +kernel⟩, List.mem_of_getElem? (i := 113) (by decide +kernel), List.mem_of_getElem? (i := 288) (by decide +kernel), List.mem_of_getElem? (i := 289) (by decide +kernel)⟩
theorem lw_p8 : lw_okq (⟨"VerifiedCode$Reader", "readsFrames", "(LVerifiedCode$Program;LVerifiedCode$Method;)Z"⟩, 3) := ⟨⟨by decide +kernel, by decide +kernel⟩, List.mem_of_getElem? (i := 113) (by decide +kernel), List.mem_of_getElem? (i := 295) (by decide +kernel), List.mem_of_getElem? (i := 296) (by decide +kernel)⟩
theorem lw_p9 : lw_okq (⟨"VerifiedCode$Reader", "targetsBegin", "(LVerifiedCode$Program;LVerifiedCode$Method;)Z"⟩, 3) := ⟨⟨by decide +kernel, by decide +kernel⟩, List.mem_of_getElem? (i := 113) (by decide +kernel), List.mem_of_getElem? (i := 299) (by decide +kernel), List.mem_of_getElem? (i := 300) (by decide +kernel)⟩
theorem lw_p10 : lw_okq (⟨"VerifiedCode$Reader", "beginsAt", "(LVerifiedCode$Method;I)Z"⟩, 3) := ⟨⟨by decide +kernel, by decide +kernel⟩, List.mem_of_getElem? (i := 113) (by decide +kernel), List.mem_of_getElem? (i := 315) (by decide +kernel), List.mem_of_getElem? (i := 316) (by decide +kernel)⟩
theorem lw_p11 : lw_okq (⟨"VerifiedCode$Reader", "framesBegin", "(LVerifiedCode$Program;LVerifiedCode$Method;)Z"⟩, 3) := ⟨⟨by decide +kernel, by decide +kernel⟩, List.mem_of_getElem? (i := 113) (by decide +kernel), List.mem_of_getElem? (i := 319) (by decide +kernel), List.mem_of_getElem? (i := 320) (by decide +kernel)⟩
theorem lw_p12 : lw_okq (⟨"java/lang/Throwable", "fillInStackTrace", "(I)Ljava/lang/Throwable;"⟩, 6) := ⟨⟨by decide +kernel, by decide +kernel⟩, List.mem_of_getElem? (i := 386) (by decide +kernel), List.mem_of_getElem? (i := 384) (by decide +kernel), List.mem_of_getElem? (i := 385) (by decide +kernel)⟩
theorem lw_p13 : lw_okq (⟨"VerifiedCode$Checker", "entersFrame", "(LVerifiedCode$Program;LVerifiedCode$Method;I)Z"⟩, 2) := ⟨⟨by decide +kernel, by decide +kernel⟩, List.mem_of_getElem? (i := 131) (by decide +kernel), List.mem_of_getElem? (i := 499) (by decide +kernel), List.mem_of_getElem? (i := 500) (by decide +kernel)⟩
theorem lw_p14 : lw_okq (⟨"VerifiedCode$Checker", "isGoodForFrame", "(LVerifiedCode$Program;LVerifiedCode$Method;I)Z"⟩, 2) := ⟨⟨by decide +kernel, by decide +kernel⟩, List.mem_of_getElem? (i := 131) (by decide +kernel), List.mem_of_getElem? (i := 508) (by decide +kernel), List.mem_of_getElem? (i := 509) (by decide +kernel)⟩
theorem lw_p15 : lw_okq (⟨"VerifiedCode$State", "hasTaken", "(LVerifiedCode$Program;LVerifiedCode$Method;II)Z"⟩, 5) := ⟨⟨by decide +kernel, by decide +kernel⟩, List.mem_of_getElem? (i := 137) (by decide +kernel), List.mem_of_getElem? (i := 547) (by decide +kernel), List.mem_of_getElem? (i := 548) (by decide +kernel)⟩
def lw_privs_1 : List (MethodName × Nat) := [(⟨"VerifiedCode$Reader", "next", "(LVerifiedCode$Program;II)Z"⟩, 3), (⟨"VerifiedCode$Reader", "readsConstants", "(LVerifiedCode$Program;)Z"⟩, 3), (⟨"VerifiedCode$Reader", "nextOnes", "(LVerifiedCode$Program;III)Z"⟩, 3), (⟨"VerifiedCode$Reader", "readsMethod", "(LVerifiedCode$Program;LVerifiedCode$Method;)Z"⟩, 3), (⟨"VerifiedCode$Reader", "readsHead", "(LVerifiedCode$Program;LVerifiedCode$Method;)Z"⟩, 3), (⟨"VerifiedCode$Reader", "readsCode", "(LVerifiedCode$Program;LVerifiedCode$Method;)Z"⟩, 3), (⟨"VerifiedCode$Reader", "readsInstruction", "(LVerifiedCode$Program;LVerifiedCode$Method;I)Z"⟩, 3), (⟨"VerifiedCode$Reader", "highestOperand", "(LVerifiedCode$Program;LVerifiedCode$Method;II)I"⟩, 3), (⟨"VerifiedCode$Reader", "readsFrames", "(LVerifiedCode$Program;LVerifiedCode$Method;)Z"⟩, 3), (⟨"VerifiedCode$Reader", "targetsBegin", "(LVerifiedCode$Program;LVerifiedCode$Method;)Z"⟩, 3), (⟨"VerifiedCode$Reader", "beginsAt", "(LVerifiedCode$Method;I)Z"⟩, 3), (⟨"VerifiedCode$Reader", "framesBegin", "(LVerifiedCode$Program;LVerifiedCode$Method;)Z"⟩, 3), (⟨"java/lang/Throwable", "fillInStackTrace", "(I)Ljava/lang/Throwable;"⟩, 6), (⟨"VerifiedCode$Checker", "entersFrame", "(LVerifiedCode$Program;LVerifiedCode$Method;I)Z"⟩, 2), (⟨"VerifiedCode$Checker", "isGoodForFrame", "(LVerifiedCode$Program;LVerifiedCode$Method;I)Z"⟩, 2), (⟨"VerifiedCode$State", "hasTaken", "(LVerifiedCode$Program;LVerifiedCode$Method;II)Z"⟩, 5)]
theorem lw_r1 : ∀ q ∈ lw_privs_1, lw_okq q := List.forall_mem_cons.mpr ⟨lw_p0, List.forall_mem_cons.mpr ⟨lw_p1, List.forall_mem_cons.mpr ⟨lw_p2, List.forall_mem_cons.mpr ⟨lw_p3, List.forall_mem_cons.mpr ⟨lw_p4, List.forall_mem_cons.mpr ⟨lw_p5, List.forall_mem_cons.mpr ⟨lw_p6, List.forall_mem_cons.mpr ⟨lw_p7, List.forall_mem_cons.mpr ⟨lw_p8, List.forall_mem_cons.mpr ⟨lw_p9, List.forall_mem_cons.mpr ⟨lw_p10, List.forall_mem_cons.mpr ⟨lw_p11, List.forall_mem_cons.mpr ⟨lw_p12, List.forall_mem_cons.mpr ⟨lw_p13, List.forall_mem_cons.mpr ⟨lw_p14, List.forall_mem_cons.mpr ⟨lw_p15, fun _ h => absurd h List.not_mem_nil⟩⟩⟩⟩⟩⟩⟩⟩⟩⟩⟩⟩⟩⟩⟩⟩
theorem lw_p16 : lw_okq (⟨"VerifiedCode$State", "hasPlace", "(LVerifiedCode$Program;LVerifiedCode$Method;I)Z"⟩, 5) := ⟨⟨by decide +kernel, by decide +kernel⟩, List.mem_of_getElem? (i := 137) (by decide +kernel), List.mem_of_getElem? (i := 560) (by decide +kernel), List.mem_of_getElem? (i := 561) (by decide +kernel)⟩
theorem lw_p17 : lw_okq (⟨"VerifiedCode$Checker", "change", "(LVerifiedCode$Program;LVerifiedCode$Method;I)V"⟩, 2) := ⟨⟨by decide +kernel, by decide +kernel⟩, List.mem_of_getElem? (i := 131) (by decide +kernel), List.mem_of_getElem? (i := 585) (by decide +kernel), List.mem_of_getElem? (i := 586) (by decide +kernel)⟩
theorem lw_p18 : lw_okq (⟨"VerifiedCode$Checker", "typePut", "(LVerifiedCode$Program;LVerifiedCode$Method;I)I"⟩, 2) := ⟨⟨by decide +kernel, by decide +kernel⟩, List.mem_of_getElem? (i := 131) (by decide +kernel), List.mem_of_getElem? (i := 625) (by decide +kernel), List.mem_of_getElem? (i := 626) (by decide +kernel)⟩
theorem lw_p19 : lw_okq (⟨"VerifiedCode$Checker", "mayGoToTarget", "(LVerifiedCode$Program;LVerifiedCode$Method;I)Z"⟩, 2) := ⟨⟨by decide +kernel, by decide +kernel⟩, List.mem_of_getElem? (i := 131) (by decide +kernel), List.mem_of_getElem? (i := 630) (by decide +kernel), List.mem_of_getElem? (i := 631) (by decide +kernel)⟩
theorem lw_p20 : lw_okq (⟨"VerifiedCode$Machine", "enter", "(I)V"⟩, 9) := ⟨⟨by decide +kernel, by decide +kernel⟩, List.mem_of_getElem? (i := 170) (by decide +kernel), List.mem_of_getElem? (i := 652) (by decide +kernel), List.mem_of_getElem? (i := 653) (by decide +kernel)⟩
theorem lw_p21 : lw_okq (⟨"VerifiedCode$Machine", "setArgument", "(LVerifiedCode$Program;II)V"⟩, 9) := ⟨⟨by decide +kernel, by decide +kernel⟩, List.mem_of_getElem? (i := 170) (by decide +kernel), List.mem_of_getElem? (i := 657) (by decide +kernel), List.mem_of_getElem? (i := 658) (by decide +kernel)⟩
theorem lw_p22 : lw_okq (⟨"VerifiedCode$Machine", "newRow", "(I)I"⟩, 9) := ⟨⟨by decide +kernel, by decide +kernel⟩, List.mem_of_getElem? (i := 170) (by decide +kernel), List.mem_of_getElem? (i := 663) (by decide +kernel), List.mem_of_getElem? (i := 664) (by decide +kernel)⟩
theorem lw_p23 : lw_okq (⟨"VerifiedCode$Machine", "doOne", "(LVerifiedCode$Program;)I"⟩, 9) := ⟨⟨by decide +kernel, by decide +kernel⟩, List.mem_of_getElem? (i := 170) (by decide +kernel), List.mem_of_getElem? (i := 671) (by decide +kernel), List.mem_of_getElem? (i := 672) (by decide +kernel)⟩
theorem lw_p24 : lw_okq (⟨"VerifiedCode$Machine", "trouble", "(LVerifiedCode$State;I)I"⟩, 9) := ⟨⟨by decide +kernel, by decide +kernel⟩, List.mem_of_getElem? (i := 170) (by decide +kernel), List.mem_of_getElem? (i := 677) (by decide +kernel), List.mem_of_getElem? (i := 678) (by decide +kernel)⟩
theorem lw_p25 : lw_okq (⟨"VerifiedCode$Machine", "troubleOfElement", "(LVerifiedCode$State;I)I"⟩, 9) := ⟨⟨by decide +kernel, by decide +kernel⟩, List.mem_of_getElem? (i := 170) (by decide +kernel), List.mem_of_getElem? (i := 683) (by decide +kernel), List.mem_of_getElem? (i := 684) (by decide +kernel)⟩
theorem lw_p26 : lw_okq (⟨"VerifiedCode$Machine", "leave", "(LVerifiedCode$State;I)I"⟩, 9) := ⟨⟨by decide +kernel, by decide +kernel⟩, List.mem_of_getElem? (i := 170) (by decide +kernel), List.mem_of_getElem? (i := 688) (by decide +kernel), List.mem_of_getElem? (i := 689) (by decide +kernel)⟩
theorem lw_p27 : lw_okq (⟨"VerifiedCode$Machine", "resultOf", "(II)I"⟩, 9) := ⟨⟨by decide +kernel, by decide +kernel⟩, List.mem_of_getElem? (i := 170) (by decide +kernel), List.mem_of_getElem? (i := 694) (by decide +kernel), List.mem_of_getElem? (i := 695) (by decide +kernel)⟩
theorem lw_p28 : lw_okq (⟨"VerifiedCode$Machine", "call", "(LVerifiedCode$Program;I)V"⟩, 9) := ⟨⟨by decide +kernel, by decide +kernel⟩, List.mem_of_getElem? (i := 170) (by decide +kernel), List.mem_of_getElem? (i := 701) (by decide +kernel), List.mem_of_getElem? (i := 702) (by decide +kernel)⟩
theorem lw_p29 : lw_okq (⟨"VerifiedCode$Machine", "goesToTarget", "(LVerifiedCode$State;I)Z"⟩, 9) := ⟨⟨by decide +kernel, by decide +kernel⟩, List.mem_of_getElem? (i := 170) (by decide +kernel), List.mem_of_getElem? (i := 706) (by decide +kernel), List.mem_of_getElem? (i := 707) (by decide +kernel)⟩
theorem lw_p30 : lw_okq (⟨"VerifiedCode$Machine", "holds", "(III)Z"⟩, 9) := ⟨⟨by decide +kernel, by decide +kernel⟩, List.mem_of_getElem? (i := 170) (by decide +kernel), List.mem_of_getElem? (i := 710) (by decide +kernel), List.mem_of_getElem? (i := 711) (by decide +kernel)⟩
theorem lw_p31 : lw_okq (⟨"VerifiedCode$Machine", "doWithOperand", "(LVerifiedCode$State;LVerifiedCode$Program;LVerifiedCode$Method;I)V"⟩, 9) := ⟨⟨by decide +kernel, by decide +kernel⟩, List.mem_of_getElem? (i := 170) (by decide +kernel), List.mem_of_getElem? (i := 715) (by decide +kernel), List.mem_of_getElem? (i := 716) (by decide +kernel)⟩
def lw_privs_2 : List (MethodName × Nat) := [(⟨"VerifiedCode$State", "hasPlace", "(LVerifiedCode$Program;LVerifiedCode$Method;I)Z"⟩, 5), (⟨"VerifiedCode$Checker", "change", "(LVerifiedCode$Program;LVerifiedCode$Method;I)V"⟩, 2), (⟨"VerifiedCode$Checker", "typePut", "(LVerifiedCode$Program;LVerifiedCode$Method;I)I"⟩, 2), (⟨"VerifiedCode$Checker", "mayGoToTarget", "(LVerifiedCode$Program;LVerifiedCode$Method;I)Z"⟩, 2), (⟨"VerifiedCode$Machine", "enter", "(I)V"⟩, 9), (⟨"VerifiedCode$Machine", "setArgument", "(LVerifiedCode$Program;II)V"⟩, 9), (⟨"VerifiedCode$Machine", "newRow", "(I)I"⟩, 9), (⟨"VerifiedCode$Machine", "doOne", "(LVerifiedCode$Program;)I"⟩, 9), (⟨"VerifiedCode$Machine", "trouble", "(LVerifiedCode$State;I)I"⟩, 9), (⟨"VerifiedCode$Machine", "troubleOfElement", "(LVerifiedCode$State;I)I"⟩, 9), (⟨"VerifiedCode$Machine", "leave", "(LVerifiedCode$State;I)I"⟩, 9), (⟨"VerifiedCode$Machine", "resultOf", "(II)I"⟩, 9), (⟨"VerifiedCode$Machine", "call", "(LVerifiedCode$Program;I)V"⟩, 9), (⟨"VerifiedCode$Machine", "goesToTarget", "(LVerifiedCode$State;I)Z"⟩, 9), (⟨"VerifiedCode$Machine", "holds", "(III)Z"⟩, 9), (⟨"VerifiedCode$Machine", "doWithOperand", "(LVerifiedCode$State;LVerifiedCode$Program;LVerifiedCode$Method;I)V"⟩, 9)]
theorem lw_r2 : ∀ q ∈ lw_privs_2, lw_okq q := List.forall_mem_cons.mpr ⟨lw_p16, List.forall_mem_cons.mpr ⟨lw_p17, List.forall_mem_cons.mpr ⟨lw_p18, List.forall_mem_cons.mpr ⟨lw_p19, List.forall_mem_cons.mpr ⟨lw_p20, List.forall_mem_cons.mpr ⟨lw_p21, List.forall_mem_cons.mpr ⟨lw_p22, List.forall_mem_cons.mpr ⟨lw_p23, List.forall_mem_cons.mpr ⟨lw_p24, List.forall_mem_cons.mpr ⟨lw_p25, List.forall_mem_cons.mpr ⟨lw_p26, List.forall_mem_cons.mpr ⟨lw_p27, List.forall_mem_cons.mpr ⟨lw_p28, List.forall_mem_cons.mpr ⟨lw_p29, List.forall_mem_cons.mpr ⟨lw_p30, List.forall_mem_cons.mpr ⟨lw_p31, fun _ h => absurd h List.not_mem_nil⟩⟩⟩⟩⟩⟩⟩⟩⟩⟩⟩⟩⟩⟩⟩⟩
theorem lw_p32 : lw_okq (⟨"VerifiedCode$Machine", "doAlone", "(LVerifiedCode$State;I)V"⟩, 9) := ⟨⟨by decide +kernel, by decide +kernel⟩, List.mem_of_getElem? (i := 170) (by decide +kernel), List.mem_of_getElem? (i := 729) (by decide +kernel), List.mem_of_getElem? (i := 730) (by decide +kernel)⟩
theorem lw_p33 : lw_okq (⟨"VerifiedCode$Machine", "storeElement", "(LVerifiedCode$State;)V"⟩, 9) := ⟨⟨by decide +kernel, by decide +kernel⟩, List.mem_of_getElem? (i := 170) (by decide +kernel), List.mem_of_getElem? (i := 735) (by decide +kernel), List.mem_of_getElem? (i := 736) (by decide +kernel)⟩
theorem lw_p34 : lw_okq (⟨"VerifiedCode$Machine", "reckoned", "(III)I"⟩, 9) := ⟨⟨by decide +kernel, by decide +kernel⟩, List.mem_of_getElem? (i := 170) (by decide +kernel), List.mem_of_getElem? (i := 739) (by decide +kernel), List.mem_of_getElem? (i := 740) (by decide +kernel)⟩
theorem lw_p35 : lw_okq (⟨"VerifiedCodeModel", "skip", "(III)V"⟩, 28) := ⟨⟨by decide +kernel, by decide +kernel⟩, List.mem_of_getElem? (i := 743) (by decide +kernel), List.mem_of_getElem? (i := 865) (by decide +kernel), List.mem_of_getElem? (i := 866) (by decide +kernel)⟩
theorem lw_p36 : lw_okq (⟨"VerifiedCodeModel", "next", "(II)I"⟩, 28) := ⟨⟨by decide +kernel, by decide +kernel⟩, List.mem_of_getElem? (i := 743) (by decide +kernel), List.mem_of_getElem? (i := 869) (by decide +kernel), List.mem_of_getElem? (i := 870) (by decide +kernel)⟩
theorem lw_p37 : lw_okq (⟨"VerifiedCodeModel", "readMethod", "(II)V"⟩, 28) := ⟨⟨by decide +kernel, by decide +kernel⟩, List.mem_of_getElem? (i := 743) (by decide +kernel), List.mem_of_getElem? (i := 873) (by decide +kernel), List.mem_of_getElem? (i := 874) (by decide +kernel)⟩
theorem lw_p38 : lw_okq (⟨"VerifiedCodeModel", "readInstruction", "(IIII)V"⟩, 28) := ⟨⟨by decide +kernel, by decide +kernel⟩, List.mem_of_getElem? (i := 743) (by decide +kernel), List.mem_of_getElem? (i := 877) (by decide +kernel), List.mem_of_getElem? (i := 878) (by decide +kernel)⟩
theorem lw_p39 : lw_okq (⟨"VerifiedCodeModel", "begins", "(III)Z"⟩, 28) := ⟨⟨by decide +kernel, by decide +kernel⟩, List.mem_of_getElem? (i := 743) (by decide +kernel), List.mem_of_getElem? (i := 893) (by decide +kernel), List.mem_of_getElem? (i := 894) (by decide +kernel)⟩
theorem lw_p40 : lw_okq (⟨"VerifiedCodeModel", "targetsFit", "(II)Z"⟩, 28) := ⟨⟨by decide +kernel, by decide +kernel⟩, List.mem_of_getElem? (i := 743) (by decide +kernel), List.mem_of_getElem? (i := 897) (by decide +kernel), List.mem_of_getElem? (i := 898) (by decide +kernel)⟩
theorem lw_p41 : lw_okq (⟨"VerifiedCodeModel", "methodCount", "()I"⟩, 28) := ⟨⟨by decide +kernel, by decide +kernel⟩, List.mem_of_getElem? (i := 743) (by decide +kernel), List.mem_of_getElem? (i := 913) (by decide +kernel), List.mem_of_getElem? (i := 914) (by decide +kernel)⟩
theorem lw_p42 : lw_okq (⟨"VerifiedCodeModel", "lackOfMethod", "(I)I"⟩, 28) := ⟨⟨by decide +kernel, by decide +kernel⟩, List.mem_of_getElem? (i := 743) (by decide +kernel), List.mem_of_getElem? (i := 921) (by decide +kernel), List.mem_of_getElem? (i := 922) (by decide +kernel)⟩
theorem lw_p43 : lw_okq (⟨"VerifiedCodeModel", "open", "(I)V"⟩, 28) := ⟨⟨by decide +kernel, by decide +kernel⟩, List.mem_of_getElem? (i := 743) (by decide +kernel), List.mem_of_getElem? (i := 925) (by decide +kernel), List.mem_of_getElem? (i := 926) (by decide +kernel)⟩
theorem lw_p44 : lw_okq (⟨"VerifiedCodeModel", "methodAt", "(I)I"⟩, 28) := ⟨⟨by decide +kernel, by decide +kernel⟩, List.mem_of_getElem? (i := 743) (by decide +kernel), List.mem_of_getElem? (i := 929) (by decide +kernel), List.mem_of_getElem? (i := 930) (by decide +kernel)⟩
theorem lw_p45 : lw_okq (⟨"VerifiedCodeModel", "codeOf", "(I)I"⟩, 28) := ⟨⟨by decide +kernel, by decide +kernel⟩, List.mem_of_getElem? (i := 743) (by decide +kernel), List.mem_of_getElem? (i := 933) (by decide +kernel), List.mem_of_getElem? (i := 934) (by decide +kernel)⟩
theorem lw_p46 : lw_okq (⟨"VerifiedCodeModel", "lengthOf", "(I)I"⟩, 28) := ⟨⟨by decide +kernel, by decide +kernel⟩, List.mem_of_getElem? (i := 743) (by decide +kernel), List.mem_of_getElem? (i := 937) (by decide +kernel), List.mem_of_getElem? (i := 938) (by decide +kernel)⟩
theorem lw_p47 : lw_okq (⟨"VerifiedCodeModel", "placesOf", "(I)I"⟩, 28) := ⟨⟨by decide +kernel, by decide +kernel⟩, List.mem_of_getElem? (i := 743) (by decide +kernel), List.mem_of_getElem? (i := 941) (by decide +kernel), List.mem_of_getElem? (i := 942) (by decide +kernel)⟩
def lw_privs_3 : List (MethodName × Nat) := [(⟨"VerifiedCode$Machine", "doAlone", "(LVerifiedCode$State;I)V"⟩, 9), (⟨"VerifiedCode$Machine", "storeElement", "(LVerifiedCode$State;)V"⟩, 9), (⟨"VerifiedCode$Machine", "reckoned", "(III)I"⟩, 9), (⟨"VerifiedCodeModel", "skip", "(III)V"⟩, 28), (⟨"VerifiedCodeModel", "next", "(II)I"⟩, 28), (⟨"VerifiedCodeModel", "readMethod", "(II)V"⟩, 28), (⟨"VerifiedCodeModel", "readInstruction", "(IIII)V"⟩, 28), (⟨"VerifiedCodeModel", "begins", "(III)Z"⟩, 28), (⟨"VerifiedCodeModel", "targetsFit", "(II)Z"⟩, 28), (⟨"VerifiedCodeModel", "methodCount", "()I"⟩, 28), (⟨"VerifiedCodeModel", "lackOfMethod", "(I)I"⟩, 28), (⟨"VerifiedCodeModel", "open", "(I)V"⟩, 28), (⟨"VerifiedCodeModel", "methodAt", "(I)I"⟩, 28), (⟨"VerifiedCodeModel", "codeOf", "(I)I"⟩, 28), (⟨"VerifiedCodeModel", "lengthOf", "(I)I"⟩, 28), (⟨"VerifiedCodeModel", "placesOf", "(I)I"⟩, 28)]
theorem lw_r3 : ∀ q ∈ lw_privs_3, lw_okq q := List.forall_mem_cons.mpr ⟨lw_p32, List.forall_mem_cons.mpr ⟨lw_p33, List.forall_mem_cons.mpr ⟨lw_p34, List.forall_mem_cons.mpr ⟨lw_p35, List.forall_mem_cons.mpr ⟨lw_p36, List.forall_mem_cons.mpr ⟨lw_p37, List.forall_mem_cons.mpr ⟨lw_p38, List.forall_mem_cons.mpr ⟨lw_p39, List.forall_mem_cons.mpr ⟨lw_p40, List.forall_mem_cons.mpr ⟨lw_p41, List.forall_mem_cons.mpr ⟨lw_p42, List.forall_mem_cons.mpr ⟨lw_p43, List.forall_mem_cons.mpr ⟨lw_p44, List.forall_mem_cons.mpr ⟨lw_p45, List.forall_mem_cons.mpr ⟨lw_p46, List.forall_mem_cons.mpr ⟨lw_p47, fun _ h => absurd h List.not_mem_nil⟩⟩⟩⟩⟩⟩⟩⟩⟩⟩⟩⟩⟩⟩⟩⟩
theorem lw_p48 : lw_okq (⟨"VerifiedCodeModel", "passes", "(I)Z"⟩, 28) := ⟨⟨by decide +kernel, by decide +kernel⟩, List.mem_of_getElem? (i := 743) (by decide +kernel), List.mem_of_getElem? (i := 945) (by decide +kernel), List.mem_of_getElem? (i := 946) (by decide +kernel)⟩
theorem lw_p49 : lw_okq (⟨"VerifiedCodeModel", "arrive", "(I)V"⟩, 28) := ⟨⟨by decide +kernel, by decide +kernel⟩, List.mem_of_getElem? (i := 743) (by decide +kernel), List.mem_of_getElem? (i := 949) (by decide +kernel), List.mem_of_getElem? (i := 950) (by decide +kernel)⟩
theorem lw_p50 : lw_okq (⟨"VerifiedCodeModel", "begin", "(I)V"⟩, 28) := ⟨⟨by decide +kernel, by decide +kernel⟩, List.mem_of_getElem? (i := 743) (by decide +kernel), List.mem_of_getElem? (i := 953) (by decide +kernel), List.mem_of_getElem? (i := 954) (by decide +kernel)⟩
theorem lw_p51 : lw_okq (⟨"VerifiedCodeModel", "frame", "(IZ)I"⟩, 28) := ⟨⟨by decide +kernel, by decide +kernel⟩, List.mem_of_getElem? (i := 743) (by decide +kernel), List.mem_of_getElem? (i := 957) (by decide +kernel), List.mem_of_getElem? (i := 958) (by decide +kernel)⟩
theorem lw_p52 : lw_okq (⟨"VerifiedCodeModel", "become", "(I)V"⟩, 28) := ⟨⟨by decide +kernel, by decide +kernel⟩, List.mem_of_getElem? (i := 743) (by decide +kernel), List.mem_of_getElem? (i := 961) (by decide +kernel), List.mem_of_getElem? (i := 962) (by decide +kernel)⟩
theorem lw_p53 : lw_okq (⟨"VerifiedCodeModel", "pass", "(I)V"⟩, 28) := ⟨⟨by decide +kernel, by decide +kernel⟩, List.mem_of_getElem? (i := 743) (by decide +kernel), List.mem_of_getElem? (i := 965) (by decide +kernel), List.mem_of_getElem? (i := 966) (by decide +kernel)⟩
theorem lw_p54 : lw_okq (⟨"VerifiedCodeModel", "takes", "(I)I"⟩, 28) := ⟨⟨by decide +kernel, by decide +kernel⟩, List.mem_of_getElem? (i := 743) (by decide +kernel), List.mem_of_getElem? (i := 969) (by decide +kernel), List.mem_of_getElem? (i := 970) (by decide +kernel)⟩
theorem lw_p55 : lw_okq (⟨"VerifiedCodeModel", "needs", "(II)I"⟩, 28) := ⟨⟨by decide +kernel, by decide +kernel⟩, List.mem_of_getElem? (i := 743) (by decide +kernel), List.mem_of_getElem? (i := 973) (by decide +kernel), List.mem_of_getElem? (i := 974) (by decide +kernel)⟩
theorem lw_p56 : lw_okq (⟨"VerifiedCodeModel", "gives", "(I)I"⟩, 28) := ⟨⟨by decide +kernel, by decide +kernel⟩, List.mem_of_getElem? (i := 743) (by decide +kernel), List.mem_of_getElem? (i := 980) (by decide +kernel), List.mem_of_getElem? (i := 981) (by decide +kernel)⟩
theorem lw_p57 : lw_okq (⟨"VerifiedCodeModel", "returnsOf", "(I)I"⟩, 28) := ⟨⟨by decide +kernel, by decide +kernel⟩, List.mem_of_getElem? (i := 743) (by decide +kernel), List.mem_of_getElem? (i := 984) (by decide +kernel), List.mem_of_getElem? (i := 985) (by decide +kernel)⟩
theorem lw_p58 : lw_okq (⟨"VerifiedCodeModel", "push", "(III)V"⟩, 28) := ⟨⟨by decide +kernel, by decide +kernel⟩, List.mem_of_getElem? (i := 743) (by decide +kernel), List.mem_of_getElem? (i := 991) (by decide +kernel), List.mem_of_getElem? (i := 992) (by decide +kernel)⟩
theorem lw_p59 : lw_okq (⟨"VerifiedCodeModel", "fits", "(I)Z"⟩, 28) := ⟨⟨by decide +kernel, by decide +kernel⟩, List.mem_of_getElem? (i := 743) (by decide +kernel), List.mem_of_getElem? (i := 995) (by decide +kernel), List.mem_of_getElem? (i := 996) (by decide +kernel)⟩
theorem lw_p60 : lw_okq (⟨"VerifiedCodeModel", "can", "(II)Z"⟩, 28) := ⟨⟨by decide +kernel, by decide +kernel⟩, List.mem_of_getElem? (i := 743) (by decide +kernel), List.mem_of_getElem? (i := 1002) (by decide +kernel), List.mem_of_getElem? (i := 1003) (by decide +kernel)⟩
theorem lw_p61 : lw_okq (⟨"VerifiedCodeModel", "target", "(I)I"⟩, 28) := ⟨⟨by decide +kernel, by decide +kernel⟩, List.mem_of_getElem? (i := 743) (by decide +kernel), List.mem_of_getElem? (i := 1006) (by decide +kernel), List.mem_of_getElem? (i := 1007) (by decide +kernel)⟩
theorem lw_p62 : lw_okq (⟨"VerifiedCodeModel", "argue", "(II)V"⟩, 28) := ⟨⟨by decide +kernel, by decide +kernel⟩, List.mem_of_getElem? (i := 743) (by decide +kernel), List.mem_of_getElem? (i := 1014) (by decide +kernel), List.mem_of_getElem? (i := 1015) (by decide +kernel)⟩
theorem lw_p63 : lw_okq (⟨"VerifiedCodeModel", "makeRow", "(I)I"⟩, 28) := ⟨⟨by decide +kernel, by decide +kernel⟩, List.mem_of_getElem? (i := 743) (by decide +kernel), List.mem_of_getElem? (i := 1018) (by decide +kernel), List.mem_of_getElem? (i := 1019) (by decide +kernel)⟩
def lw_privs_4 : List (MethodName × Nat) := [(⟨"VerifiedCodeModel", "passes", "(I)Z"⟩, 28), (⟨"VerifiedCodeModel", "arrive", "(I)V"⟩, 28), (⟨"VerifiedCodeModel", "begin", "(I)V"⟩, 28), (⟨"VerifiedCodeModel", "frame", "(IZ)I"⟩, 28), (⟨"VerifiedCodeModel", "become", "(I)V"⟩, 28), (⟨"VerifiedCodeModel", "pass", "(I)V"⟩, 28), (⟨"VerifiedCodeModel", "takes", "(I)I"⟩, 28), (⟨"VerifiedCodeModel", "needs", "(II)I"⟩, 28), (⟨"VerifiedCodeModel", "gives", "(I)I"⟩, 28), (⟨"VerifiedCodeModel", "returnsOf", "(I)I"⟩, 28), (⟨"VerifiedCodeModel", "push", "(III)V"⟩, 28), (⟨"VerifiedCodeModel", "fits", "(I)Z"⟩, 28), (⟨"VerifiedCodeModel", "can", "(II)Z"⟩, 28), (⟨"VerifiedCodeModel", "target", "(I)I"⟩, 28), (⟨"VerifiedCodeModel", "argue", "(II)V"⟩, 28), (⟨"VerifiedCodeModel", "makeRow", "(I)I"⟩, 28)]
theorem lw_r4 : ∀ q ∈ lw_privs_4, lw_okq q := List.forall_mem_cons.mpr ⟨lw_p48, List.forall_mem_cons.mpr ⟨lw_p49, List.forall_mem_cons.mpr ⟨lw_p50, List.forall_mem_cons.mpr ⟨lw_p51, List.forall_mem_cons.mpr ⟨lw_p52, List.forall_mem_cons.mpr ⟨lw_p53, List.forall_mem_cons.mpr ⟨lw_p54, List.forall_mem_cons.mpr ⟨lw_p55, List.forall_mem_cons.mpr ⟨lw_p56, List.forall_mem_cons.mpr ⟨lw_p57, List.forall_mem_cons.mpr ⟨lw_p58, List.forall_mem_cons.mpr ⟨lw_p59, List.forall_mem_cons.mpr ⟨lw_p60, List.forall_mem_cons.mpr ⟨lw_p61, List.forall_mem_cons.mpr ⟨lw_p62, List.forall_mem_cons.mpr ⟨lw_p63, fun _ h => absurd h List.not_mem_nil⟩⟩⟩⟩⟩⟩⟩⟩⟩⟩⟩⟩⟩⟩⟩⟩
theorem lw_p64 : lw_okq (⟨"VerifiedCodeModel", "step", "()I"⟩, 28) := ⟨⟨by decide +kernel, by decide +kernel⟩, List.mem_of_getElem? (i := 743) (by decide +kernel), List.mem_of_getElem? (i := 1022) (by decide +kernel), List.mem_of_getElem? (i := 1023) (by decide +kernel)⟩
theorem lw_p65 : lw_okq (⟨"VerifiedCodeModel", "wrong", "(II)I"⟩, 28) := ⟨⟨by decide +kernel, by decide +kernel⟩, List.mem_of_getElem? (i := 743) (by decide +kernel), List.mem_of_getElem? (i := 1026) (by decide +kernel), List.mem_of_getElem? (i := 1027) (by decide +kernel)⟩
theorem lw_p66 : lw_okq (⟨"VerifiedCodeModel", "enter", "(II)V"⟩, 28) := ⟨⟨by decide +kernel, by decide +kernel⟩, List.mem_of_getElem? (i := 743) (by decide +kernel), List.mem_of_getElem? (i := 1030) (by decide +kernel), List.mem_of_getElem? (i := 1031) (by decide +kernel)⟩
theorem lw_p67 : lw_okq (⟨"VerifiedCodeModel", "leave", "(III)I"⟩, 28) := ⟨⟨by decide +kernel, by decide +kernel⟩, List.mem_of_getElem? (i := 743) (by decide +kernel), List.mem_of_getElem? (i := 1034) (by decide +kernel), List.mem_of_getElem? (i := 1035) (by decide +kernel)⟩
theorem lw_p68 : lw_okq (⟨"VerifiedCodeModel", "goes", "(II)Z"⟩, 28) := ⟨⟨by decide +kernel, by decide +kernel⟩, List.mem_of_getElem? (i := 743) (by decide +kernel), List.mem_of_getElem? (i := 1038) (by decide +kernel), List.mem_of_getElem? (i := 1039) (by decide +kernel)⟩
theorem lw_p69 : lw_okq (⟨"VerifiedCodeModel", "work", "(IIII)V"⟩, 28) := ⟨⟨by decide +kernel, by decide +kernel⟩, List.mem_of_getElem? (i := 743) (by decide +kernel), List.mem_of_getElem? (i := 1042) (by decide +kernel), List.mem_of_getElem? (i := 1043) (by decide +kernel)⟩
theorem lw_p70 : lw_okq (⟨"VerifiedCodeModel", "value", "(IIII)I"⟩, 28) := ⟨⟨by decide +kernel, by decide +kernel⟩, List.mem_of_getElem? (i := 743) (by decide +kernel), List.mem_of_getElem? (i := 1049) (by decide +kernel), List.mem_of_getElem? (i := 1050) (by decide +kernel)⟩
theorem lw_p71 : lw_okq (⟨"VerifiedCodeModel", "constant", "(I)I"⟩, 28) := ⟨⟨by decide +kernel, by decide +kernel⟩, List.mem_of_getElem? (i := 743) (by decide +kernel), List.mem_of_getElem? (i := 1053) (by decide +kernel), List.mem_of_getElem? (i := 1054) (by decide +kernel)⟩
def lw_privs_5 : List (MethodName × Nat) := [(⟨"VerifiedCodeModel", "step", "()I"⟩, 28), (⟨"VerifiedCodeModel", "wrong", "(II)I"⟩, 28), (⟨"VerifiedCodeModel", "enter", "(II)V"⟩, 28), (⟨"VerifiedCodeModel", "leave", "(III)I"⟩, 28), (⟨"VerifiedCodeModel", "goes", "(II)Z"⟩, 28), (⟨"VerifiedCodeModel", "work", "(IIII)V"⟩, 28), (⟨"VerifiedCodeModel", "value", "(IIII)I"⟩, 28), (⟨"VerifiedCodeModel", "constant", "(I)I"⟩, 28)]
theorem lw_r5 : ∀ q ∈ lw_privs_5, lw_okq q := List.forall_mem_cons.mpr ⟨lw_p64, List.forall_mem_cons.mpr ⟨lw_p65, List.forall_mem_cons.mpr ⟨lw_p66, List.forall_mem_cons.mpr ⟨lw_p67, List.forall_mem_cons.mpr ⟨lw_p68, List.forall_mem_cons.mpr ⟨lw_p69, List.forall_mem_cons.mpr ⟨lw_p70, List.forall_mem_cons.mpr ⟨lw_p71, fun _ h => absurd h List.not_mem_nil⟩⟩⟩⟩⟩⟩⟩⟩
def lw_privs : List (MethodName × Nat) := lw_privs_1 ++ (lw_privs_2 ++ (lw_privs_3 ++ (lw_privs_4 ++ (lw_privs_5))))
def lw_tbl : List Cond := k2_sels lw_privs ++ tables_1
theorem lw_privs_ok : ∀ q ∈ lw_privs, lw_okq q := by
  show ∀ q ∈ lw_privs_1 ++ (lw_privs_2 ++ (lw_privs_3 ++ (lw_privs_4 ++ (lw_privs_5)))), lw_okq q
  exact List.forall_mem_append.mpr ⟨lw_r1, List.forall_mem_append.mpr ⟨lw_r2, List.forall_mem_append.mpr ⟨lw_r3, List.forall_mem_append.mpr ⟨lw_r4, lw_r5⟩⟩⟩⟩
end
section
/-! ONE WORLD: cells by number (place in the list), addresses by a map, shapes by a table; the ints of all cells in one memory.
A shape: an array (kind 0: ints, 1: booleans, k + 2: references, by the numbers that they refer to; how many), or an object (class number; fields: none: an int of the memory, some none: a reference whose number the memory holds, some (some j): always cell j). -/
abbrev jj_Mem : Type := Nat → Nat → Int32
abbrev jj_Sh : Type := (Nat × Nat × (Nat → Nat)) ⊕ (Nat × List (Option (Option Nat)))
/-- shapes, how many cells, classes, array kinds' types, words -/
abbrev jj_Y : Type := (Nat → jj_Sh) × Nat × List vw_C × List FieldType × List Cond
/-- launch, addresses, classes' and slots' numbers, array classes' numbers, the size of the heap from which on all is ours, but for one address -/
abbrev jj_X : Type := Launch × (Nat → Nat) × va_G × (Nat → ClassId) × (Nat × Nat)
/-- a method: name, code, locals, what it returns -/
abbrev jj_M : Type := MethodName × ByteArray × Nat × Option FieldType
def jj_set (x : jj_Mem) (i k : Nat) (v : Int32) : jj_Mem := va_up x i (upd (x i) k v)
theorem jj_set_get (x : jj_Mem) (i k : Nat) (v : Int32) (j l : Nat) : jj_set x i k v j l = if j = i ∧ l = k then v else x j l := by
  unfold jj_set va_up
  by_cases h : j = i
  · subst h
    by_cases h2 : l = k
    · subst h2; simp [upd]
    · simp [upd, h2]
  · simp [h]
def jj_v (X : jj_X) (v : Value) : Value := match v with
  | .ref i => .ref (X.2.1 i)
  | v => v
theorem jj_v_cat (X : jj_X) (v : Value) : (jj_v X v).category = v.category := by cases v <;> rfl
def jj_fv (X : jj_X) (f : Option (Option Nat)) (v : Int32) : Value := match f with
  | none => .int v
  | some none => .ref (X.2.1 v.toNatClampNeg)
  | some (some j) => .ref (X.2.1 j)
def jj_fl (X : jj_X) (y : Nat → Int32) : Nat → List (Option (Option Nat)) → List Value
  | _, [] => []
  | k, f :: r => jj_fv X f (y k) :: jj_fl X y (k + 1) r
theorem jj_fl_len (X : jj_X) (y : Nat → Int32) : ∀ (fs : List (Option (Option Nat))) (k0 : Nat), (jj_fl X y k0 fs).length = fs.length
  | [], _ => rfl
  | f :: r, k0 => by simp [jj_fl, jj_fl_len X y r (k0 + 1)]
theorem jj_fl_get (X : jj_X) (y : Nat → Int32) : ∀ (fs : List (Option (Option Nat))) (k0 k : Nat) (f : Option (Option Nat)), fs[k]? = some f → (jj_fl X y k0 fs)[k]? = some (jj_fv X f (y (k0 + k)))
  | [], _, k, f, h => by simp at h
  | g :: r, k0, 0, f, h => by
    simp at h
    subst h
    simp [jj_fl]
  | g :: r, k0, k + 1, f, h => by
    rw [List.getElem?_cons_succ] at h
    have := jj_fl_get X y r (k0 + 1) k f h
    simp only [jj_fl, List.getElem?_cons_succ]
    rw [this]
    congr 3
    omega
theorem jj_fl_out (X : jj_X) (y : Nat → Int32) (k : Nat) (v : Int32) : ∀ (fs : List (Option (Option Nat))) (k0 : Nat), k < k0 → jj_fl X (upd y k v) k0 fs = jj_fl X y k0 fs
  | [], _, _ => rfl
  | f :: r, k0, h => by
    have e : upd y k v k0 = y k0 := by unfold upd; rw [if_neg (by omega)]
    simp only [jj_fl, e, jj_fl_out X y k v r (k0 + 1) (by omega)]
theorem jj_fl_set (X : jj_X) (y : Nat → Int32) (v : Int32) : ∀ (fs : List (Option (Option Nat))) (k0 k : Nat) (f : Option (Option Nat)), fs[k]? = some f → (jj_fl X y k0 fs).set k (jj_fv X f v) = jj_fl X (upd y (k0 + k) v) k0 fs
  | [], _, k, f, h => by simp at h
  | g :: r, k0, 0, f, h => by
    simp at h
    subst h
    have e : upd y (k0 + 0) v k0 = v := by unfold upd; rw [if_pos (by omega)]
    simp only [jj_fl, List.set_cons_zero, e]
    rw [jj_fl_out X y (k0 + 0) v r (k0 + 1) (by omega)]
  | g :: r, k0, k + 1, f, h => by
    rw [List.getElem?_cons_succ] at h
    have e : upd y (k0 + (k + 1)) v k0 = y k0 := by unfold upd; rw [if_neg (by omega)]
    have e2 : k0 + (k + 1) = k0 + 1 + k := by omega
    simp only [jj_fl, List.set_cons_succ, e]
    rw [jj_fl_set X y v r (k0 + 1) k f h, e2]
def jj_e (X : jj_X) (sh : jj_Sh) (y : Nat → Int32) : va_E := match sh with
  | .inl (0, n, _) => .inl (X.2.2.2.1 0, n, .inl y)
  | .inl (1, n, _) => .inl (X.2.2.2.1 1, n, .inl y)
  | .inl (k + 2, n, f) => .inl (X.2.2.2.1 (k + 2), n, .inr (.inr (.inr (.inr (fun j => some (X.2.1 (f j)))))))
  | .inr (ci, fs) => .inr (ci, jj_fl X y 0 fs)
def jj_ws (Y : jj_Y) (X : jj_X) (x : jj_Mem) : va_W := (List.range Y.2.1).map (fun i => (X.2.1 i, jj_e X (Y.1 i) (x i)))
theorem jj_ws_get {Y : jj_Y} {X : jj_X} {x : jj_Mem} {i : Nat} (h : i < Y.2.1) : (jj_ws Y X x)[i]? = some (X.2.1 i, jj_e X (Y.1 i) (x i)) := by
  simp [jj_ws, h]
theorem jj_ws_of {Y : jj_Y} {X : jj_X} {x : jj_Mem} {i : Nat} {q : Nat × va_E} (h : (jj_ws Y X x)[i]? = some q) : i < Y.2.1 ∧ q = (X.2.1 i, jj_e X (Y.1 i) (x i)) := by
  have hl : i < Y.2.1 := by
    have := (List.getElem?_eq_some_iff.mp h).1
    simpa [jj_ws] using this
  rw [jj_ws_get hl] at h
  exact ⟨hl, (Option.some.inj h).symm⟩
theorem jj_ws_set {Y : jj_Y} {X : jj_X} {x : jj_Mem} {i : Nat} (h : i < Y.2.1) (y : Nat → Int32) : (jj_ws Y X x).set i (X.2.1 i, jj_e X (Y.1 i) y) = jj_ws Y X (va_up x i y) := by
  apply List.ext_getElem?
  intro j
  by_cases hj : j = i
  · subst hj
    rw [List.getElem?_set_self (by simpa [jj_ws] using h), jj_ws_get h, va_up_self]
  · rw [List.getElem?_set_ne (Ne.symm hj)]
    by_cases hl : j < Y.2.1
    · rw [jj_ws_get hl, jj_ws_get hl, va_up_ne _ _ hj]
    · rw [List.getElem?_eq_none (by simp [jj_ws]; omega), List.getElem?_eq_none (by simp [jj_ws]; omega)]
def jj_tys (Y : jj_Y) (X : jj_X) : List (ClassId × FieldType) := (List.range Y.2.2.2.1.length).map (fun k => (X.2.2.2.1 k, Y.2.2.2.1.getD k .int))
theorem jj_tys_get {Y : jj_Y} {X : jj_X} {k : Nat} {ty : FieldType} (h : Y.2.2.2.1[k]? = some ty) : (jj_tys Y X)[k]? = some (X.2.2.2.1 k, ty) := by
  have hl := (List.getElem?_eq_some_iff.mp h).1
  simp only [jj_tys, List.getElem?_map, List.getElem?_range hl, Option.map_some, List.getD_eq_getElem?_getD, h]
  rfl
def jj_A (X : jj_X) : Nat → Prop := fun q => X.2.2.2.2.1 ≤ q ∧ q ≠ X.2.2.2.2.2
def jj_hz (X : jj_X) (n : Nat) : Prop := X.2.2.2.2.1 ≤ n ∧ X.2.2.2.2.2 < n
theorem jj_hz.mono {X : jj_X} {n m : Nat} (h : jj_hz X n) (hm : n ≤ m) : jj_hz X m := ⟨Nat.le_trans h.1 hm, Nat.lt_of_lt_of_le h.2 hm⟩
def jj_ok (Y : jj_Y) (X : jj_X) : Prop := (∀ i j, i < Y.2.1 → j < Y.2.1 → X.2.1 i = X.2.1 j → i = j) ∧ ∀ i, i < Y.2.1 → jj_A X (X.2.1 i)
theorem jj_D {Y : jj_Y} {X : jj_X} (h : jj_ok Y X) (x : jj_Mem) : va_D (jj_A X) (jj_ws Y X x) := by
  refine ⟨fun i j p q hi hj e => ?_, fun k q hk => ?_⟩
  · obtain ⟨h1, rfl⟩ := jj_ws_of hi
    obtain ⟨h2, rfl⟩ := jj_ws_of hj
    exact h.1 i j h1 h2 e
  · obtain ⟨h1, rfl⟩ := jj_ws_of hk
    exact h.2 k h1
theorem jj_wrefl (s : State) : s.WarmedH s.vm := ⟨rfl, rfl, fun d k h => ⟨k, h, rfl, rfl, fun i => Or.inl rfl, Or.inl ⟨rfl, rfl⟩⟩⟩
/-- words that hold in a state and in all that come of it -/
def jj_wd (ws : List Cond) (U : State) : Prop := ∀ w ∈ ws, ∀ (a : Array Value) (V : State), U.WarmedH V.vm → w.before a V = true
theorem jj_wd.moved {ws : List Cond} {s U : State} (hW : s.WarmedH U.vm) (h : jj_wd ws s) : jj_wd ws U := fun w hw a V hV => h w hw a V (State.WarmedH.trans hW hV)
def jj_fr (Y : jj_Y) (X : jj_X) (d : Nat) (M : jj_M) (p : Program) (R : Room) (s : State) (m : MethodId) (args : Array Value) (meth : Method) (c : Code) : Prop :=
  p.tables.exec = Jvm.exec ∧ c.code = M.2.1 ∧ c.maxLocals = M.2.2.1 ∧ s.vm.findClass M.1.cls = some m.cls ∧ meth.sig.returnType = M.2.2.2 ∧ meth.locks = false ∧ jj_wd Y.2.2.2.2 s ∧ va_K X.2.2.1 Y.2.2.1 (jj_tys Y X) s ∧ d ≤ R.frames ∧ 40 * d ≤ R.locals ∧ jj_ok Y X ∧ jj_hz X s.heap.size ∧ (∀ w ∈ Y.2.2.2.2, w.before args s = true)
def jj_in (Y : jj_Y) (X : jj_X) (x : jj_Mem) (U : State) : Prop := va_P X.2.2.1 Y.2.2.1 (jj_ws Y X x) U.heap ∧ va_K X.2.2.1 Y.2.2.1 (jj_tys Y X) U ∧ jj_wd Y.2.2.2.2 U ∧ jj_hz X U.heap.size ∧ jj_ok Y X
def jj_Q (Y : jj_Y) (X : jj_X) (post : Option Value → jj_Mem → Prop) : Array Value → State → Outcome → State → Prop := fun _ st oc t =>
  (∃ (r : Option Value) (x : jj_Mem), oc = .returned (r.map (jj_v X)) ∧ post r x ∧ va_P X.2.2.1 Y.2.2.1 (jj_ws Y X x) t.heap ∧ va_K X.2.2.1 Y.2.2.1 (jj_tys Y X) t) ∧ va_F (jj_A X) st t
def jj_has (X : jj_X) (ls : Array Slot) (nL : Nat) (lo : List (Option Value)) : Prop := ls.size = nL ∧ lv_wf ls ∧ ∀ (i : Nat) (v : Value), lo[i]? = some (some v) → ls[i]? = some (.val (jj_v X v))
/-- THE JUDGEMENT: a frame of method M at pc with these locals and this stack, the memory x: it comes to its return, with post -/
def jj_J (Y : jj_Y) (X : jj_X) (d : Nat) (M : jj_M) (pc : Nat) (lo : List (Option Value)) (st : List Value) (x : jj_Mem) (post : Option Value → jj_Mem → Prop) : Prop :=
  ∀ (p : Program) (e : Env) (R : Room) (s : State) (m : MethodId) (args : Array Value) (below : List Frame) (meth : Method) (c : Code), jj_fr Y X d M p R s m args meth c →
    ∀ (H : Heap) (locs : List Loc) (ls : Array Slot), va_P X.2.2.1 Y.2.2.1 (jj_ws Y X x) H → va_S (jj_A X) s.heap H locs → jj_has X ls M.2.2.1 lo →
      W p X.1 e R s m args below meth c H locs 0 0 (MQ below (jj_Q Y X post) args s 0 0 (jj_A X)) (F0 m pc ls (st.map (jj_v X)))
/-- a method's contract -/
def jj_Met (Y : jj_Y) (X : jj_X) (d : Nat) (M : jj_M) (as : List Value) (x : jj_Mem) (post : Option Value → jj_Mem → Prop) : Prop :=
  Met X.1 M.1 [.code M.1 M.2.1 M.2.2.1 M.2.2.2] ({ frames := d, cells := 0, slots := 0, locals := 40 * d }) (va_Pc (as.map (jj_v X)) (jj_in Y X x)) (jj_Q Y X post) 0 0 (jj_A X)
/-- locals at a method's entry -/
def jj_lo : List Value → List (Option Value)
  | [] => []
  | v :: vs => if v.category = 2 then some v :: none :: jj_lo vs else some v :: jj_lo vs
theorem jj_lo_args (X : jj_X) : ∀ (vs : List Value) (i k : Nat) (v : Value), (jj_lo vs)[i]? = some (some v) → (k + i, jj_v X v) ∈ lv_args k (vs.map (jj_v X))
  | [], i, k, v, h => by simp [jj_lo] at h
  | u :: us, i, k, v, h => by
    simp only [List.map_cons, lv_args, jj_v_cat]
    by_cases hc : u.category = 2
    · rw [if_pos hc]
      rw [jj_lo, if_pos hc] at h
      match i, h with
      | 0, h => simp at h; subst h; simp
      | 1, h => simp at h
      | i + 2, h =>
        rw [List.getElem?_cons_succ, List.getElem?_cons_succ] at h
        have := jj_lo_args X us i (k + 2) v h
        rw [show k + 2 + i = k + (i + 2) by omega] at this
        exact List.mem_cons_of_mem _ this
    · rw [if_neg hc]
      rw [jj_lo, if_neg hc] at h
      match i, h with
      | 0, h => simp at h; subst h; simp
      | i + 1, h =>
        rw [List.getElem?_cons_succ] at h
        have := jj_lo_args X us i (k + 1) v h
        rw [show k + 1 + i = k + (i + 1) by omega] at this
        exact List.mem_cons_of_mem _ this
theorem jj_lg (X : jj_X) : ∀ vs : List Value, (lg_sl (vs.map (jj_v X))).length = (lg_sl vs).length
  | [] => rfl
  | u :: us => by
    have := jj_lg X us
    simp only [lg_sl, List.map_cons, List.flatMap_cons, List.length_append, jj_v_cat] at this ⊢
    rw [this]
    by_cases hc : u.category = 2 <;> simp [hc]
/-- a contract, from the judgement at the entry -/
theorem jj_met {Y : jj_Y} {X : jj_X} {d : Nat} {M : jj_M} {as : List Value} {x : jj_Mem} {post : Option Value → jj_Mem → Prop} {lo : List (Option Value)} (hy : plainName M.1.cls = true) (hn : (lg_sl as).length ≤ M.2.2.1) (hlo : ∀ (i : Nat) (v : Value), lo[i]? = some (some v) → (jj_lo as)[i]? = some (some v)) (h : jj_J Y X d M 0 lo [] x post) : jj_Met Y X d M as x post := by
  refine Met.ofW (cc := M.2.1) (maxL := M.2.2.1) (ret := M.2.2.2) hy rfl ?_
  intro p e s m args below meth c s₁ B hml hv
  obtain ⟨rfl, hP, hK, hw, hsz, hok⟩ := hv
  have hl := lv_entry (as.map (jj_v X)) (n := M.2.2.1) (by rw [jj_lg]; exact hn)
  rw [lg_entry_eq]
  refine h p e _ s m _ below meth c ⟨B.exec, B.bytes, hml, findClass_of_methodNamed B.named, B.returns, B.notSynchronized, hw, hK, Nat.le_refl _, Nat.le_refl _, hok, hsz, fun w hw2 => hw w hw2 _ _ (jj_wrefl s)⟩ s.heap [] _ hP va_S.rf ⟨hl.1, hl.2.1, fun i v hi => ?_⟩
  have := jj_lo_args X as i 0 v (hlo i v hi)
  rw [Nat.zero_add] at this
  exact hl.2.2 _ this
end
section
/-! the judgement's rules, one an instruction -/
section JJR
variable {Y : jj_Y} {X : jj_X} {d : Nat} {M : jj_M} {pc : Nat} {lo : List (Option Value)} {st : List Value} {x : jj_Mem} {post : Option Value → jj_Mem → Prop}
theorem jj_iconst {n : Int} {v : Int32} (hd : decode M.2.1 pc = .ok (.iconst n, 1)) (hv : Int32.ofInt n = v) (k : jj_J Y X d M (pc + 1) lo (.int v :: st) x post) : jj_J Y X d M pc lo st x post := by
  intro p e R s m args below meth c F H locs ls hP hS hl
  exact lv_iconst F.1 F.2.1 hd hv (k p e R s m args below meth c F H locs ls hP hS hl)

theorem jj_bipush {n : Int} {v : Int32} (hd : decode M.2.1 pc = .ok (.bipush n, 2)) (hv : (Int8.ofInt n).toInt32 = v) (k : jj_J Y X d M (pc + 2) lo (.int v :: st) x post) : jj_J Y X d M pc lo st x post := by
  intro p e R s m args below meth c F H locs ls hP hS hl
  exact lv_bipush F.1 F.2.1 hd hv (k p e R s m args below meth c F H locs ls hP hS hl)

theorem jj_sipush {n : Int} {v : Int32} (hd : decode M.2.1 pc = .ok (.sipush n, 3)) (hv : (Int16.ofInt n).toInt32 = v) (k : jj_J Y X d M (pc + 3) lo (.int v :: st) x post) : jj_J Y X d M pc lo st x post := by
  intro p e R s m args below meth c F H locs ls hP hS hl
  exact lv_sipush F.1 F.2.1 hd hv (k p e R s m args below meth c F H locs ls hP hS hl)

theorem jj_ldc {index : Nat} {v : Int32} (hd : decode M.2.1 pc = .ok (.ldc index, 2)) (hw : Cond.constant M.1.cls index v ∈ Y.2.2.2.2) (k : jj_J Y X d M (pc + 2) lo (.int v :: st) x post) : jj_J Y X d M pc lo st x post := by
  intro p e R s m args below meth c F H locs ls hP hS hl
  exact lv_ldc F.1 F.2.1 F.2.2.2.1 (F.2.2.2.2.2.2.2.2.2.2.2.2 _ hw) hd (k p e R s m args below meth c F H locs ls hP hS hl)

theorem jj_iload_n {n : Fin 4} {v : Int32} (hd : decode M.2.1 pc = .ok (.iload_n n, 1)) (hl0 : lo[(n : Nat)]? = some (some (.int v))) (k : jj_J Y X d M (pc + 1) lo (.int v :: st) x post) : jj_J Y X d M pc lo st x post := by
  intro p e R s m args below meth c F H locs ls hP hS hl
  exact lv_iload_n F.1 F.2.1 hd rfl (hl.2.2 _ _ hl0) (k p e R s m args below meth c F H locs ls hP hS hl)

theorem jj_iload {i : Nat} {v : Int32} (hd : decode M.2.1 pc = .ok (.iload i, 2)) (hl0 : lo[i]? = some (some (.int v))) (k : jj_J Y X d M (pc + 2) lo (.int v :: st) x post) : jj_J Y X d M pc lo st x post := by
  intro p e R s m args below meth c F H locs ls hP hS hl
  exact lv_iload F.1 F.2.1 hd (hl.2.2 _ _ hl0) (k p e R s m args below meth c F H locs ls hP hS hl)

theorem jj_aload_n {n : Fin 4} {v : Nat} (hd : decode M.2.1 pc = .ok (.aload_n n, 1)) (hl0 : lo[(n : Nat)]? = some (some (.ref v))) (k : jj_J Y X d M (pc + 1) lo (.ref v :: st) x post) : jj_J Y X d M pc lo st x post := by
  intro p e R s m args below meth c F H locs ls hP hS hl
  exact lv_aload_n F.1 F.2.1 hd rfl (hl.2.2 _ _ hl0) (k p e R s m args below meth c F H locs ls hP hS hl)

theorem jj_aload {i : Nat} {v : Nat} (hd : decode M.2.1 pc = .ok (.aload i, 2)) (hl0 : lo[i]? = some (some (.ref v))) (k : jj_J Y X d M (pc + 2) lo (.ref v :: st) x post) : jj_J Y X d M pc lo st x post := by
  intro p e R s m args below meth c F H locs ls hP hS hl
  exact lv_aload F.1 F.2.1 hd (hl.2.2 _ _ hl0) (k p e R s m args below meth c F H locs ls hP hS hl)

theorem jj_lload_n {n : Fin 4} {v : Int64} (hd : decode M.2.1 pc = .ok (.lload_n n, 1)) (hl0 : lo[(n : Nat)]? = some (some (.long v))) (k : jj_J Y X d M (pc + 1) lo (.long v :: st) x post) : jj_J Y X d M pc lo st x post := by
  intro p e R s m args below meth c F H locs ls hP hS hl
  exact lv_lload_n F.1 F.2.1 hd rfl (hl.2.2 _ _ hl0) (k p e R s m args below meth c F H locs ls hP hS hl)

theorem jj_lload {i : Nat} {v : Int64} (hd : decode M.2.1 pc = .ok (.lload i, 2)) (hl0 : lo[i]? = some (some (.long v))) (k : jj_J Y X d M (pc + 2) lo (.long v :: st) x post) : jj_J Y X d M pc lo st x post := by
  intro p e R s m args below meth c F H locs ls hP hS hl
  exact lv_lload F.1 F.2.1 hd (hl.2.2 _ _ hl0) (k p e R s m args below meth c F H locs ls hP hS hl)

/-- all locals, as the kit's list -/
def jj_al (X : jj_X) : Nat → List (Option Value) → List (Nat × Value)
  | _, [] => []
  | k, none :: r => jj_al X (k + 1) r
  | k, some v :: r => (k, jj_v X v) :: jj_al X (k + 1) r
theorem jj_al_of (X : jj_X) : ∀ (lo : List (Option Value)) (k : Nat) (q : Nat × Value), q ∈ jj_al X k lo → ∃ (j : Nat) (v : Value), lo[j]? = some (some v) ∧ q = (k + j, jj_v X v)
  | [], k, q, h => by simp [jj_al] at h
  | none :: r, k, q, h => by
    obtain ⟨j, v, h1, h2⟩ := jj_al_of X r (k + 1) q h
    exact ⟨j + 1, v, by simpa using h1, by rw [h2]; congr 1; omega⟩
  | some u :: r, k, q, h => by
    rcases List.mem_cons.mp h with h | h
    · exact ⟨0, u, rfl, h⟩
    · obtain ⟨j, v, h1, h2⟩ := jj_al_of X r (k + 1) q h
      exact ⟨j + 1, v, by simpa using h1, by rw [h2]; congr 1; omega⟩
theorem jj_al_in (X : jj_X) : ∀ (lo : List (Option Value)) (k j : Nat) (v : Value), lo[j]? = some (some v) → (k + j, jj_v X v) ∈ jj_al X k lo
  | [], k, j, v, h => by simp at h
  | none :: r, k, 0, v, h => by simp at h
  | none :: r, k, j + 1, v, h => by
    rw [List.getElem?_cons_succ] at h
    have := jj_al_in X r (k + 1) j v h
    rw [show k + 1 + j = k + (j + 1) by omega] at this
    exact this
  | some u :: r, k, 0, v, h => by
    simp at h
    subst h
    exact List.mem_cons_self
  | some u :: r, k, j + 1, v, h => by
    rw [List.getElem?_cons_succ] at h
    have := jj_al_in X r (k + 1) j v h
    rw [show k + 1 + j = k + (j + 1) by omega] at this
    exact List.mem_cons_of_mem _ this
theorem jj_has.lv {X : jj_X} {ls : Array Slot} {nL : Nat} {lo : List (Option Value)} (h : jj_has X ls nL lo) : lv_has ls nL (jj_al X 0 lo) := by
  refine ⟨h.1, h.2.1, fun q hq => ?_⟩
  obtain ⟨j, v, h1, rfl⟩ := jj_al_of X lo 0 q hq
  have := h.2.2 j v h1
  simpa using this
/-- no long lies just below place i -/
def jj_k1 (lo : List (Option Value)) (i : Nat) : Bool := match i with
  | 0 => true
  | i + 1 => match lo[i]? with
    | some (some w) => w.category == 1
    | _ => true
theorem jj_has.put {X : jj_X} {ls' : Array Slot} {nL i : Nat} {lo : List (Option Value)} {v : Value} (h : lv_has ls' nL ((i, jj_v X v) :: (jj_al X 0 lo).filter (fun q => !(q.1 == i) && !(q.1 + 1 == i && q.2.category == 2)))) (hk : jj_k1 lo i = true) : jj_has X ls' nL (lo.set i (some v)) := by
  refine ⟨h.1, h.2.1, fun j w hj => ?_⟩
  by_cases e : j = i
  · subst e
    by_cases hl : j < lo.length
    · rw [List.getElem?_set_self hl] at hj
      cases hj
      exact h.2.2 _ List.mem_cons_self
    · rw [List.getElem?_eq_none (by simp; omega)] at hj
      cases hj
  · rw [List.getElem?_set_ne (Ne.symm e)] at hj
    have h1 := jj_al_in X lo 0 j w hj
    rw [Nat.zero_add] at h1
    refine h.2.2 (j, jj_v X w) (List.mem_cons_of_mem _ (List.mem_filter.mpr ⟨h1, ?_⟩))
    simp only [jj_v_cat, Bool.and_eq_true, Bool.not_eq_true', beq_eq_false_iff_ne, ne_eq, e, not_false_eq_true, true_and]
    by_cases e2 : j + 1 = i
    · subst e2
      simp only [jj_k1, hj, beq_iff_eq] at hk
      simp [hk]
    · simp [e2]
theorem jj_istore_n {n : Fin 4} {v : Int32} {lo' : List (Option Value)} (hd : decode M.2.1 pc = .ok (.istore_n n, 1)) (hl0 : lo.set (n : Nat) (some (.int v)) = lo') (hn : (n : Nat) < M.2.2.1) (hk : jj_k1 lo (n : Nat) = true) (k : jj_J Y X d M (pc + 1) lo' st x post) : jj_J Y X d M pc lo (.int v :: st) x post := by
  intro p e R s m args below meth c F H locs ls hP hS hl
  subst hl0
  exact lv_istore_n F.1 F.2.1 hd rfl hl.lv hn rfl (fun ls2 h2 => k p e R s m args below meth c F H locs ls2 hP hS (jj_has.put (v := .int v) h2 hk))

theorem jj_istore {i : Nat} {v : Int32} {lo' : List (Option Value)} (hd : decode M.2.1 pc = .ok (.istore i, 2)) (hl0 : lo.set i (some (.int v)) = lo') (hn : i < M.2.2.1) (hk : jj_k1 lo i = true) (k : jj_J Y X d M (pc + 2) lo' st x post) : jj_J Y X d M pc lo (.int v :: st) x post := by
  intro p e R s m args below meth c F H locs ls hP hS hl
  subst hl0
  exact lv_istore F.1 F.2.1 hd hl.lv hn rfl (fun ls2 h2 => k p e R s m args below meth c F H locs ls2 hP hS (jj_has.put (v := .int v) h2 hk))

theorem jj_astore_n {n : Fin 4} {v : Nat} {lo' : List (Option Value)} (hd : decode M.2.1 pc = .ok (.astore_n n, 1)) (hl0 : lo.set (n : Nat) (some (.ref v)) = lo') (hn : (n : Nat) < M.2.2.1) (hk : jj_k1 lo (n : Nat) = true) (k : jj_J Y X d M (pc + 1) lo' st x post) : jj_J Y X d M pc lo (.ref v :: st) x post := by
  intro p e R s m args below meth c F H locs ls hP hS hl
  subst hl0
  exact lv_astore_n F.1 F.2.1 hd rfl hl.lv hn rfl (fun ls2 h2 => k p e R s m args below meth c F H locs ls2 hP hS (jj_has.put (v := .ref v) h2 hk))

theorem jj_astore {i : Nat} {v : Nat} {lo' : List (Option Value)} (hd : decode M.2.1 pc = .ok (.astore i, 2)) (hl0 : lo.set i (some (.ref v)) = lo') (hn : i < M.2.2.1) (hk : jj_k1 lo i = true) (k : jj_J Y X d M (pc + 2) lo' st x post) : jj_J Y X d M pc lo (.ref v :: st) x post := by
  intro p e R s m args below meth c F H locs ls hP hS hl
  subst hl0
  exact lv_astore F.1 F.2.1 hd hl.lv hn rfl (fun ls2 h2 => k p e R s m args below meth c F H locs ls2 hP hS (jj_has.put (v := .ref v) h2 hk))

theorem jj_iinc {i : Nat} {n : Int} {u v : Int32} {lo' : List (Option Value)} (hd : decode M.2.1 pc = .ok (.iinc i n, 3)) (hu : lo[i]? = some (some (.int u))) (hv : u + Int32.ofInt n = v) (hl0 : lo.set i (some (.int v)) = lo') (hn : i < M.2.2.1) (hk : jj_k1 lo i = true) (k : jj_J Y X d M (pc + 3) lo' st x post) : jj_J Y X d M pc lo st x post := by
  intro p e R s m args below meth c F H locs ls hP hS hl
  subst hl0
  obtain ⟨kk, hkk⟩ := List.getElem?_of_mem (jj_al_in X lo 0 i _ hu)
  rw [Nat.zero_add] at hkk
  exact lv_iinc F.1 F.2.1 hd hl.lv hkk hv hn rfl (fun ls2 h2 => k p e R s m args below meth c F H locs ls2 hP hS (jj_has.put (v := .int v) h2 hk))

theorem jj_iadd {a b : Int32} (hd : decode M.2.1 pc = .ok (.iadd, 1)) (k : jj_J Y X d M (pc + 1) lo (.int (a + b) :: st) x post) : jj_J Y X d M pc lo (.int b :: .int a :: st) x post := by
  intro p e R s m args below meth c F H locs ls hP hS hl
  exact lv_iadd F.1 F.2.1 hd (k p e R s m args below meth c F H locs ls hP hS hl)

theorem jj_isub {a b : Int32} (hd : decode M.2.1 pc = .ok (.isub, 1)) (k : jj_J Y X d M (pc + 1) lo (.int (a - b) :: st) x post) : jj_J Y X d M pc lo (.int b :: .int a :: st) x post := by
  intro p e R s m args below meth c F H locs ls hP hS hl
  exact lv_isub F.1 F.2.1 hd (k p e R s m args below meth c F H locs ls hP hS hl)

theorem jj_imul {a b : Int32} (hd : decode M.2.1 pc = .ok (.imul, 1)) (k : jj_J Y X d M (pc + 1) lo (.int (a * b) :: st) x post) : jj_J Y X d M pc lo (.int b :: .int a :: st) x post := by
  intro p e R s m args below meth c F H locs ls hP hS hl
  exact lv_imul F.1 F.2.1 hd (k p e R s m args below meth c F H locs ls hP hS hl)

theorem jj_iand {a b : Int32} (hd : decode M.2.1 pc = .ok (.iand, 1)) (k : jj_J Y X d M (pc + 1) lo (.int (a &&& b) :: st) x post) : jj_J Y X d M pc lo (.int b :: .int a :: st) x post := by
  intro p e R s m args below meth c F H locs ls hP hS hl
  exact lv_iand F.1 F.2.1 hd (k p e R s m args below meth c F H locs ls hP hS hl)

theorem jj_ior {a b : Int32} (hd : decode M.2.1 pc = .ok (.ior, 1)) (k : jj_J Y X d M (pc + 1) lo (.int (a ||| b) :: st) x post) : jj_J Y X d M pc lo (.int b :: .int a :: st) x post := by
  intro p e R s m args below meth c F H locs ls hP hS hl
  exact lv_ior F.1 F.2.1 hd (k p e R s m args below meth c F H locs ls hP hS hl)

theorem jj_ishl {a b : Int32} (hd : decode M.2.1 pc = .ok (.ishl, 1)) (k : jj_J Y X d M (pc + 1) lo (.int (a <<< (b &&& 31)) :: st) x post) : jj_J Y X d M pc lo (.int b :: .int a :: st) x post := by
  intro p e R s m args below meth c F H locs ls hP hS hl
  exact lv_ishl F.1 F.2.1 hd (k p e R s m args below meth c F H locs ls hP hS hl)

theorem jj_idiv {a b : Int32} (hd : decode M.2.1 pc = .ok (.idiv, 1)) (hb0 : ¬ b = 0) (k : jj_J Y X d M (pc + 1) lo (.int (a / b) :: st) x post) : jj_J Y X d M pc lo (.int b :: .int a :: st) x post := by
  intro p e R s m args below meth c F H locs ls hP hS hl
  exact lv_idiv F.1 F.2.1 hd hb0 (k p e R s m args below meth c F H locs ls hP hS hl)

theorem jj_irem {a b : Int32} (hd : decode M.2.1 pc = .ok (.irem, 1)) (hb0 : ¬ b = 0) (k : jj_J Y X d M (pc + 1) lo (.int (a - a / b * b) :: st) x post) : jj_J Y X d M pc lo (.int b :: .int a :: st) x post := by
  intro p e R s m args below meth c F H locs ls hP hS hl
  exact lv_irem F.1 F.2.1 hd hb0 (k p e R s m args below meth c F H locs ls hP hS hl)

theorem jj_ineg {a : Int32} (hd : decode M.2.1 pc = .ok (.ineg, 1)) (k : jj_J Y X d M (pc + 1) lo (.int (-a) :: st) x post) : jj_J Y X d M pc lo (.int a :: st) x post := by
  intro p e R s m args below meth c F H locs ls hP hS hl
  exact lv_ineg F.1 F.2.1 hd (k p e R s m args below meth c F H locs ls hP hS hl)

theorem jj_l2i {a : Int64} (hd : decode M.2.1 pc = .ok (.l2i, 1)) (k : jj_J Y X d M (pc + 1) lo (.int a.toInt32 :: st) x post) : jj_J Y X d M pc lo (.long a :: st) x post := by
  intro p e R s m args below meth c F H locs ls hP hS hl
  exact lv_l2i F.1 F.2.1 hd rfl (k p e R s m args below meth c F H locs ls hP hS hl)

theorem jj_lshr {a : Int64} {b : Int32} (hd : decode M.2.1 pc = .ok (.lshr, 1)) (k : jj_J Y X d M (pc + 1) lo (.long (a >>> (b.toInt64 &&& 63)) :: st) x post) : jj_J Y X d M pc lo (.int b :: .long a :: st) x post := by
  intro p e R s m args below meth c F H locs ls hP hS hl
  exact lv_lshr F.1 F.2.1 hd rfl (k p e R s m args below meth c F H locs ls hP hS hl)

theorem jj_dup {u : Value} (hd : decode M.2.1 pc = .ok (.dup, 1)) (hu : u.category = 1) (k : jj_J Y X d M (pc + 1) lo (u :: u :: st) x post) : jj_J Y X d M pc lo (u :: st) x post := by
  intro p e R s m args below meth c F H locs ls hP hS hl
  exact lv_dup F.1 F.2.1 hd (by rw [jj_v_cat]; exact hu) (k p e R s m args below meth c F H locs ls hP hS hl)

theorem jj_pop {u : Value} (hd : decode M.2.1 pc = .ok (.pop, 1)) (hu : u.category = 1) (k : jj_J Y X d M (pc + 1) lo st x post) : jj_J Y X d M pc lo (u :: st) x post := by
  intro p e R s m args below meth c F H locs ls hP hS hl
  exact lv_pop F.1 F.2.1 hd (by rw [jj_v_cat]; exact hu) (k p e R s m args below meth c F H locs ls hP hS hl)

theorem jj_if_eq {a : Int32} {off : Int} {tgt : Nat} (hd : decode M.2.1 pc = .ok (.ifCond .eq off, 3)) (ht : (pc : Int) + off = (tgt : Int)) (kt : a = 0 → jj_J Y X d M tgt lo st x post) (kf : ¬ a = 0 → jj_J Y X d M (pc + 3) lo st x post) : jj_J Y X d M pc lo (.int a :: st) x post := by
  intro p e R s m args below meth c F H locs ls hP hS hl
  exact lv_if_eq F.1 F.2.1 hd ht (fun hc => kt hc p e R s m args below meth c F H locs ls hP hS hl) (fun hc => kf hc p e R s m args below meth c F H locs ls hP hS hl)

theorem jj_ic_eq {a b : Int32} {off : Int} {tgt : Nat} (hd : decode M.2.1 pc = .ok (.if_icmp .eq off, 3)) (ht : (pc : Int) + off = (tgt : Int)) (kt : a = b → jj_J Y X d M tgt lo st x post) (kf : ¬ a = b → jj_J Y X d M (pc + 3) lo st x post) : jj_J Y X d M pc lo (.int b :: .int a :: st) x post := by
  intro p e R s m args below meth c F H locs ls hP hS hl
  exact lv_icmp_eq F.1 F.2.1 hd ht (fun hc => kt hc p e R s m args below meth c F H locs ls hP hS hl) (fun hc => kf hc p e R s m args below meth c F H locs ls hP hS hl)

theorem jj_if_ne {a : Int32} {off : Int} {tgt : Nat} (hd : decode M.2.1 pc = .ok (.ifCond .ne off, 3)) (ht : (pc : Int) + off = (tgt : Int)) (kt : ¬ a = 0 → jj_J Y X d M tgt lo st x post) (kf : a = 0 → jj_J Y X d M (pc + 3) lo st x post) : jj_J Y X d M pc lo (.int a :: st) x post := by
  intro p e R s m args below meth c F H locs ls hP hS hl
  exact lv_if_ne F.1 F.2.1 hd ht (fun hc => kt hc p e R s m args below meth c F H locs ls hP hS hl) (fun hc => kf hc p e R s m args below meth c F H locs ls hP hS hl)

theorem jj_ic_ne {a b : Int32} {off : Int} {tgt : Nat} (hd : decode M.2.1 pc = .ok (.if_icmp .ne off, 3)) (ht : (pc : Int) + off = (tgt : Int)) (kt : ¬ a = b → jj_J Y X d M tgt lo st x post) (kf : a = b → jj_J Y X d M (pc + 3) lo st x post) : jj_J Y X d M pc lo (.int b :: .int a :: st) x post := by
  intro p e R s m args below meth c F H locs ls hP hS hl
  exact lv_icmp_ne F.1 F.2.1 hd ht (fun hc => kt hc p e R s m args below meth c F H locs ls hP hS hl) (fun hc => kf hc p e R s m args below meth c F H locs ls hP hS hl)

theorem jj_if_lt {a : Int32} {off : Int} {tgt : Nat} (hd : decode M.2.1 pc = .ok (.ifCond .lt off, 3)) (ht : (pc : Int) + off = (tgt : Int)) (kt : a < 0 → jj_J Y X d M tgt lo st x post) (kf : ¬ a < 0 → jj_J Y X d M (pc + 3) lo st x post) : jj_J Y X d M pc lo (.int a :: st) x post := by
  intro p e R s m args below meth c F H locs ls hP hS hl
  exact lv_if_lt F.1 F.2.1 hd ht (fun hc => kt hc p e R s m args below meth c F H locs ls hP hS hl) (fun hc => kf hc p e R s m args below meth c F H locs ls hP hS hl)

theorem jj_ic_lt {a b : Int32} {off : Int} {tgt : Nat} (hd : decode M.2.1 pc = .ok (.if_icmp .lt off, 3)) (ht : (pc : Int) + off = (tgt : Int)) (kt : a < b → jj_J Y X d M tgt lo st x post) (kf : ¬ a < b → jj_J Y X d M (pc + 3) lo st x post) : jj_J Y X d M pc lo (.int b :: .int a :: st) x post := by
  intro p e R s m args below meth c F H locs ls hP hS hl
  exact lv_icmp_lt F.1 F.2.1 hd ht (fun hc => kt hc p e R s m args below meth c F H locs ls hP hS hl) (fun hc => kf hc p e R s m args below meth c F H locs ls hP hS hl)

theorem jj_if_ge {a : Int32} {off : Int} {tgt : Nat} (hd : decode M.2.1 pc = .ok (.ifCond .ge off, 3)) (ht : (pc : Int) + off = (tgt : Int)) (kt : 0 ≤ a → jj_J Y X d M tgt lo st x post) (kf : ¬ 0 ≤ a → jj_J Y X d M (pc + 3) lo st x post) : jj_J Y X d M pc lo (.int a :: st) x post := by
  intro p e R s m args below meth c F H locs ls hP hS hl
  exact lv_if_ge F.1 F.2.1 hd ht (fun hc => kt hc p e R s m args below meth c F H locs ls hP hS hl) (fun hc => kf hc p e R s m args below meth c F H locs ls hP hS hl)

theorem jj_ic_ge {a b : Int32} {off : Int} {tgt : Nat} (hd : decode M.2.1 pc = .ok (.if_icmp .ge off, 3)) (ht : (pc : Int) + off = (tgt : Int)) (kt : b ≤ a → jj_J Y X d M tgt lo st x post) (kf : ¬ b ≤ a → jj_J Y X d M (pc + 3) lo st x post) : jj_J Y X d M pc lo (.int b :: .int a :: st) x post := by
  intro p e R s m args below meth c F H locs ls hP hS hl
  exact lv_icmp_ge F.1 F.2.1 hd ht (fun hc => kt hc p e R s m args below meth c F H locs ls hP hS hl) (fun hc => kf hc p e R s m args below meth c F H locs ls hP hS hl)

theorem jj_if_gt {a : Int32} {off : Int} {tgt : Nat} (hd : decode M.2.1 pc = .ok (.ifCond .gt off, 3)) (ht : (pc : Int) + off = (tgt : Int)) (kt : 0 < a → jj_J Y X d M tgt lo st x post) (kf : ¬ 0 < a → jj_J Y X d M (pc + 3) lo st x post) : jj_J Y X d M pc lo (.int a :: st) x post := by
  intro p e R s m args below meth c F H locs ls hP hS hl
  exact lv_if_gt F.1 F.2.1 hd ht (fun hc => kt hc p e R s m args below meth c F H locs ls hP hS hl) (fun hc => kf hc p e R s m args below meth c F H locs ls hP hS hl)

theorem jj_ic_gt {a b : Int32} {off : Int} {tgt : Nat} (hd : decode M.2.1 pc = .ok (.if_icmp .gt off, 3)) (ht : (pc : Int) + off = (tgt : Int)) (kt : b < a → jj_J Y X d M tgt lo st x post) (kf : ¬ b < a → jj_J Y X d M (pc + 3) lo st x post) : jj_J Y X d M pc lo (.int b :: .int a :: st) x post := by
  intro p e R s m args below meth c F H locs ls hP hS hl
  exact lv_icmp_gt F.1 F.2.1 hd ht (fun hc => kt hc p e R s m args below meth c F H locs ls hP hS hl) (fun hc => kf hc p e R s m args below meth c F H locs ls hP hS hl)

theorem jj_if_le {a : Int32} {off : Int} {tgt : Nat} (hd : decode M.2.1 pc = .ok (.ifCond .le off, 3)) (ht : (pc : Int) + off = (tgt : Int)) (kt : a ≤ 0 → jj_J Y X d M tgt lo st x post) (kf : ¬ a ≤ 0 → jj_J Y X d M (pc + 3) lo st x post) : jj_J Y X d M pc lo (.int a :: st) x post := by
  intro p e R s m args below meth c F H locs ls hP hS hl
  exact lv_if_le F.1 F.2.1 hd ht (fun hc => kt hc p e R s m args below meth c F H locs ls hP hS hl) (fun hc => kf hc p e R s m args below meth c F H locs ls hP hS hl)

theorem jj_ic_le {a b : Int32} {off : Int} {tgt : Nat} (hd : decode M.2.1 pc = .ok (.if_icmp .le off, 3)) (ht : (pc : Int) + off = (tgt : Int)) (kt : a ≤ b → jj_J Y X d M tgt lo st x post) (kf : ¬ a ≤ b → jj_J Y X d M (pc + 3) lo st x post) : jj_J Y X d M pc lo (.int b :: .int a :: st) x post := by
  intro p e R s m args below meth c F H locs ls hP hS hl
  exact lv_icmp_le F.1 F.2.1 hd ht (fun hc => kt hc p e R s m args below meth c F H locs ls hP hS hl) (fun hc => kf hc p e R s m args below meth c F H locs ls hP hS hl)

theorem jj_goto {off : Int} {tgt : Nat} (hd : decode M.2.1 pc = .ok (.goto off, 3)) (ht : (pc : Int) + off = (tgt : Int)) (k : jj_J Y X d M tgt lo st x post) : jj_J Y X d M pc lo st x post := by
  intro p e R s m args below meth c F H locs ls hP hS hl
  exact lv_goto F.1 F.2.1 hd ht (k p e R s m args below meth c F H locs ls hP hS hl)

theorem jj_lookup {dflt : Int} {ps : Array (Int × Int)} {len : Nat} {a : Int32} {off : Int} {tgt : Nat} (hd : decode M.2.1 pc = .ok (.lookupswitch dflt ps, len)) (hp : (ps.toList.zip (ps.toList.drop 1)).all (fun (a, next) => a.1 < next.1) = true) (ho : Op.lookupswitch.offset ps.toList dflt a.toInt = off) (ht : (pc : Int) + off = (tgt : Int)) (k : jj_J Y X d M tgt lo st x post) : jj_J Y X d M pc lo (.int a :: st) x post := by
  intro p e R s m args below meth c F H locs ls hP hS hl
  exact lv_lookup F.1 F.2.1 hd hp ho ht (k p e R s m args below meth c F H locs ls hP hS hl)

theorem jj_tableOut {dflt lw hi : Int} {offs : Array Int} {len : Nat} {a : Int32} {tgt : Nat} (hd : decode M.2.1 pc = .ok (.tableswitch dflt lw hi offs, len)) (h : a.toInt < lw ∨ hi < a.toInt) (ht : (pc : Int) + dflt = (tgt : Int)) (k : jj_J Y X d M tgt lo st x post) : jj_J Y X d M pc lo (.int a :: st) x post := by
  intro p e R s m args below meth c F H locs ls hP hS hl
  exact lv_tableOut F.1 F.2.1 hd h ht (k p e R s m args below meth c F H locs ls hP hS hl)

theorem jj_tableIn {dflt lw hi : Int} {offs : Array Int} {len : Nat} {a : Int32} {off : Int} {tgt : Nat} (hd : decode M.2.1 pc = .ok (.tableswitch dflt lw hi offs, len)) (h1 : ¬ a.toInt < lw) (h2 : ¬ hi < a.toInt) (ho : offs[(a.toInt - lw).toNat]? = some off) (ht : (pc : Int) + off = (tgt : Int)) (k : jj_J Y X d M tgt lo st x post) : jj_J Y X d M pc lo (.int a :: st) x post := by
  intro p e R s m args below meth c F H locs ls hP hS hl
  exact lv_tableIn F.1 F.2.1 hd h1 h2 ho ht (k p e R s m args below meth c F H locs ls hP hS hl)

end JJR
/-! fields, arrays, calls, returns -/
def jj_fk (Y : jj_Y) (own : String) (idx ci k : Nat) : Prop := ∃ (C : String) (T : u_T) (N : Nat), Y.2.2.1[ci]? = some (C, T, N) ∧ k < N ∧ (∀ w ∈ u_ws C T N, w ∈ Y.2.2.2.2) ∧ Cond.fieldLink own idx (T k).1 (T k).2.1 (T k).2.2.1 ∈ Y.2.2.2.2
def jj_pk (Y : jj_Y) (own : String) (idx ci k : Nat) (ty : FieldType) : Prop := ∃ (C : String) (T : u_T) (N : Nat) (t0 : Nat → FieldType), Y.2.2.1[ci]? = some (C, T, N) ∧ k < N ∧ (∀ w ∈ u_ws C T N, w ∈ Y.2.2.2.2) ∧ Cond.fieldLink own idx (T k).1 (T k).2.1 (T k).2.2.1 ∈ Y.2.2.2.2 ∧ (∀ k, k < N → parseFieldDescriptor (T k).2.2.1 = some (t0 k)) ∧ (∀ a, a < N → ∀ b, b < N → a ≠ b → (T a).2.1 ≠ (T b).2.1) ∧ (T k).2.2.2 = false ∧ parseFieldDescriptor (T k).2.2.1 = some ty
section JJF
variable {Y : jj_Y} {X : jj_X} {d : Nat} {M : jj_M} {pc : Nat} {lo : List (Option Value)} {st : List Value} {x : jj_Mem} {post : Option Value → jj_Mem → Prop}
theorem jj_getV {i idx ci k : Nat} {fs : List (Option (Option Nat))} {f : Option (Option Nat)} {u : Value} (hd : decode M.2.1 pc = .ok (.getfield idx, 3)) (hk : jj_fk Y M.1.cls idx ci k) (hi : i < Y.2.1) (hs : Y.1 i = .inr (ci, fs)) (hf : fs[k]? = some f) (hu : jj_fv X f (x i k) = jj_v X u) (kk : jj_J Y X d M (pc + 3) lo (u :: st) x post) : jj_J Y X d M pc lo (.ref i :: st) x post := by
  intro p e R s m args below meth c F H locs ls hP hS hl
  obtain ⟨hx, hb, -, hown, -, -, -, hK, -, -, -, -, hts⟩ := id F
  obtain ⟨C, T, N, hc, hkN, hin, hlk⟩ := hk
  refine va_get (D := X.2.2.1) (ci := ci) (v := jj_v X u) (C := C) (T := T) (N := N) hx hb hts hin hown hK hP i (fs := jj_fl X (x i) 0 fs) (by rw [jj_ws_get hi, hs]; rfl) hc k hkN (hts _ hlk) (fun _ h => h) ?_ hd (kk p e R s m args below meth c F H locs ls hP hS hl)
  rw [jj_fl_get X (x i) fs 0 k f hf, Nat.zero_add, hu]
theorem jj_getI {i idx ci k : Nat} {fs : List (Option (Option Nat))} {v : Int32} (hd : decode M.2.1 pc = .ok (.getfield idx, 3)) (hk : jj_fk Y M.1.cls idx ci k) (hi : i < Y.2.1) (hs : Y.1 i = .inr (ci, fs)) (hf : fs[k]? = some none) (hv : x i k = v) (kk : jj_J Y X d M (pc + 3) lo (.int v :: st) x post) : jj_J Y X d M pc lo (.ref i :: st) x post := jj_getV hd hk hi hs hf (by rw [hv]; rfl) kk
theorem jj_getR {i idx ci k j : Nat} {fs : List (Option (Option Nat))} (hd : decode M.2.1 pc = .ok (.getfield idx, 3)) (hk : jj_fk Y M.1.cls idx ci k) (hi : i < Y.2.1) (hs : Y.1 i = .inr (ci, fs)) (hf : fs[k]? = some (some (some j))) (kk : jj_J Y X d M (pc + 3) lo (.ref j :: st) x post) : jj_J Y X d M pc lo (.ref i :: st) x post := jj_getV hd hk hi hs hf rfl kk
theorem jj_getD {i idx ci k j : Nat} {fs : List (Option (Option Nat))} (hd : decode M.2.1 pc = .ok (.getfield idx, 3)) (hk : jj_fk Y M.1.cls idx ci k) (hi : i < Y.2.1) (hs : Y.1 i = .inr (ci, fs)) (hf : fs[k]? = some (some none)) (hv : (x i k).toNatClampNeg = j) (kk : jj_J Y X d M (pc + 3) lo (.ref j :: st) x post) : jj_J Y X d M pc lo (.ref i :: st) x post := jj_getV hd hk hi hs hf (by rw [← hv]; rfl) kk
theorem jj_putV {i idx ci k : Nat} {fs : List (Option (Option Nat))} {f : Option (Option Nat)} {u : Value} {v : Int32} {ty : FieldType} (hd : decode M.2.1 pc = .ok (.putfield idx, 3)) (hk : jj_pk Y M.1.cls idx ci k ty) (hi : i < Y.2.1) (hs : Y.1 i = .inr (ci, fs)) (hf : fs[k]? = some f) (hu : jj_fv X f v = jj_v X u) (hn : narrow ty (jj_v X u) = jj_v X u) (hfit : fits ty (jj_v X u) = true) (kk : jj_J Y X d M (pc + 3) lo st (jj_set x i k v) post) : jj_J Y X d M pc lo (u :: .ref i :: st) x post := by
  intro p e R s m args below meth c F H locs ls hP hS hl
  obtain ⟨hx, hb, -, hown, -, -, -, hK, -, -, hok, -, hts⟩ := id F
  obtain ⟨C, T, N, t0, hc, hkN, hin, hlk, ht0, hnm, hfin, hty⟩ := hk
  have hkl : k < fs.length := (List.getElem?_eq_some_iff.mp hf).1
  refine va_put (D := X.2.2.1) (ci := ci) (v := jj_v X u) (ty := ty) (C := C) (T := T) (N := N) hx hb hts hin t0 ht0 hnm hown hK hP (jj_D hok x) hS i (fs := jj_fl X (x i) 0 fs) (by rw [jj_ws_get hi, hs]; rfl) hc k hkN (hts _ hlk) (fun _ h => h) hfin hty hn hfit (by rw [jj_fl_len]; exact hkl) hd (fun H1 locs1 hP1 hD1 hS1 => ?_)
  have e1 : (Sum.inr (ci, (jj_fl X (x i) 0 fs).set k (jj_v X u)) : va_E) = jj_e X (Y.1 i) (upd (x i) k v) := by
    rw [hs]
    show _ = Sum.inr (ci, jj_fl X (upd (x i) k v) 0 fs)
    have := jj_fl_set X (x i) v fs 0 k f hf
    rw [Nat.zero_add] at this
    rw [← this, hu]
  rw [e1, jj_ws_set hi] at hP1
  exact kk p e R s m args below meth c F H1 locs1 ls hP1 hS1 hl
theorem jj_putI {i idx ci k : Nat} {fs : List (Option (Option Nat))} {v : Int32} (hd : decode M.2.1 pc = .ok (.putfield idx, 3)) (hk : jj_pk Y M.1.cls idx ci k .int) (hi : i < Y.2.1) (hs : Y.1 i = .inr (ci, fs)) (hf : fs[k]? = some none) (kk : jj_J Y X d M (pc + 3) lo st (jj_set x i k v) post) : jj_J Y X d M pc lo (.int v :: .ref i :: st) x post := jj_putV hd hk hi hs hf rfl rfl rfl kk
theorem jj_bool {v : Int32} (h : v = 0 ∨ v = 1) : narrow .boolean (.int v) = .int v ∧ fits .boolean (.int v) = true := by
  rcases h with rfl | rfl <;> decide
theorem jj_putZ {i idx ci k : Nat} {fs : List (Option (Option Nat))} {v : Int32} (hd : decode M.2.1 pc = .ok (.putfield idx, 3)) (hk : jj_pk Y M.1.cls idx ci k .boolean) (hi : i < Y.2.1) (hs : Y.1 i = .inr (ci, fs)) (hf : fs[k]? = some none) (hv : v = 0 ∨ v = 1) (kk : jj_J Y X d M (pc + 3) lo st (jj_set x i k v) post) : jj_J Y X d M pc lo (.int v :: .ref i :: st) x post := jj_putV hd hk hi hs hf rfl (jj_bool hv).1 (jj_bool hv).2 kk
theorem jj_putD {i idx ci k j : Nat} {C : String} {fs : List (Option (Option Nat))} (hd : decode M.2.1 pc = .ok (.putfield idx, 3)) (hk : jj_pk Y M.1.cls idx ci k (.object C)) (hi : i < Y.2.1) (hs : Y.1 i = .inr (ci, fs)) (hf : fs[k]? = some (some none)) (hj : j < 2 ^ 31) (kk : jj_J Y X d M (pc + 3) lo st (jj_set x i k (nI j)) post) : jj_J Y X d M pc lo (.ref j :: .ref i :: st) x post := jj_putV (v := nI j) hd hk hi hs hf (by show Value.ref _ = Value.ref _; rw [nI_clamp hj]) rfl rfl kk
theorem jj_iaload {i n : Nat} {f : Nat → Nat} {j v : Int32} (hd : decode M.2.1 pc = .ok (.iaload, 1)) (ht : Y.2.2.2.1[0]? = some .int) (hi : i < Y.2.1) (hs : Y.1 i = .inl (0, n, f)) (hj : vp_in j n) (hv : x i j.toNatClampNeg = v) (kk : jj_J Y X d M (pc + 1) lo (.int v :: st) x post) : jj_J Y X d M pc lo (.int j :: .ref i :: st) x post := by
  intro p e R s m args below meth c F H locs ls hP hS hl
  subst hv
  exact va_iald (D := X.2.2.1) F.1 F.2.1 F.2.2.2.2.2.2.2.1 hP i 0 (by rw [jj_ws_get hi, hs]; rfl) (jj_tys_get ht) hj hd (kk p e R s m args below meth c F H locs ls hP hS hl)
theorem jj_baload {i n : Nat} {f : Nat → Nat} {j v : Int32} (hd : decode M.2.1 pc = .ok (.baload, 1)) (ht : Y.2.2.2.1[1]? = some .boolean) (hi : i < Y.2.1) (hs : Y.1 i = .inl (1, n, f)) (hj : vp_in j n) (hv : x i j.toNatClampNeg = v) (kk : jj_J Y X d M (pc + 1) lo (.int v :: st) x post) : jj_J Y X d M pc lo (.int j :: .ref i :: st) x post := by
  intro p e R s m args below meth c F H locs ls hP hS hl
  subst hv
  exact va_zald (D := X.2.2.1) F.1 F.2.1 F.2.2.2.2.2.2.2.1 hP i 1 (by rw [jj_ws_get hi, hs]; rfl) (jj_tys_get ht) hj hd (kk p e R s m args below meth c F H locs ls hP hS hl)
theorem jj_aaload {i n kd : Nat} {f : Nat → Nat} {C : String} {j : Int32} {q : Nat} (hd : decode M.2.1 pc = .ok (.aaload, 1)) (ht : Y.2.2.2.1[kd + 2]? = some (.object C)) (hi : i < Y.2.1) (hs : Y.1 i = .inl (kd + 2, n, f)) (hj : vp_in j n) (hv : f j.toNatClampNeg = q) (kk : jj_J Y X d M (pc + 1) lo (.ref q :: st) x post) : jj_J Y X d M pc lo (.int j :: .ref i :: st) x post := by
  intro p e R s m args below meth c F H locs ls hP hS hl
  subst hv
  exact va_aldq (D := X.2.2.1) (f := fun z => some (X.2.1 (f z))) F.1 F.2.1 F.2.2.2.2.2.2.2.1 hP i (kd + 2) (by rw [jj_ws_get hi, hs]; rfl) (jj_tys_get ht) hj hd (kk p e R s m args below meth c F H locs ls hP hS hl)
theorem jj_iastore {i n : Nat} {f : Nat → Nat} {j v : Int32} (hd : decode M.2.1 pc = .ok (.iastore, 1)) (ht : Y.2.2.2.1[0]? = some .int) (hi : i < Y.2.1) (hs : Y.1 i = .inl (0, n, f)) (hj : vp_in j n) (kk : jj_J Y X d M (pc + 1) lo st (jj_set x i j.toNatClampNeg v) post) : jj_J Y X d M pc lo (.int v :: .int j :: .ref i :: st) x post := by
  intro p e R s m args below meth c F H locs ls hP hS hl
  obtain ⟨hx, hb, -, hown, -, -, -, hK, -, -, hok, -, hts⟩ := id F
  refine va_iast (D := X.2.2.1) hx hb hK hP (jj_D hok x) hS i 0 (by rw [jj_ws_get hi, hs]; rfl) (jj_tys_get ht) hj hd (fun H1 locs1 hP1 hD1 hS1 => ?_)
  have e1 : (Sum.inl (X.2.2.2.1 0, n, Sum.inl (upd (x i) j.toNatClampNeg v)) : va_E) = jj_e X (Y.1 i) (upd (x i) j.toNatClampNeg v) := by rw [hs]; rfl
  rw [e1, jj_ws_set hi] at hP1
  exact kk p e R s m args below meth c F H1 locs1 ls hP1 hS1 hl
theorem jj_bastore {i n : Nat} {f : Nat → Nat} {j v : Int32} (hd : decode M.2.1 pc = .ok (.bastore, 1)) (ht : Y.2.2.2.1[1]? = some .boolean) (hi : i < Y.2.1) (hs : Y.1 i = .inl (1, n, f)) (hj : vp_in j n) (hv : v = 0 ∨ v = 1) (kk : jj_J Y X d M (pc + 1) lo st (jj_set x i j.toNatClampNeg v) post) : jj_J Y X d M pc lo (.int v :: .int j :: .ref i :: st) x post := by
  intro p e R s m args below meth c F H locs ls hP hS hl
  obtain ⟨hx, hb, -, hown, -, -, -, hK, -, -, hok, -, hts⟩ := id F
  refine va_zast (D := X.2.2.1) hx hb hK hP (jj_D hok x) hS i 1 (by rw [jj_ws_get hi, hs]; rfl) (jj_tys_get ht) hj hd (fun H1 locs1 hP1 hD1 hS1 => ?_)
  have e0 : vp_nar .boolean v = v := by rcases hv with rfl | rfl <;> decide
  have e1 : (Sum.inl (X.2.2.2.1 1, n, Sum.inl (upd (x i) j.toNatClampNeg (vp_nar .boolean v))) : va_E) = jj_e X (Y.1 i) (upd (x i) j.toNatClampNeg v) := by rw [hs, e0]; rfl
  rw [e1, jj_ws_set hi] at hP1
  exact kk p e R s m args below meth c F H1 locs1 ls hP1 hS1 hl
theorem jj_ireturn {v : Int32} (hd : decode M.2.1 pc = .ok (.ireturn, 1)) (hr : M.2.2.2 = some .int) (hp : post (some (.int v)) x) : jj_J Y X d M pc lo [.int v] x post := by
  intro p e R s m args below meth c F H locs ls hP hS hl
  obtain ⟨hx, hb, -, hown, hrt, hlk, -, hK, -, -, hok, -, hts⟩ := id F
  exact W.iret hx hb (hrt.trans hr) (fun t ht hW => ⟨⟨some (.int v), x, rfl, hp, by rw [ht]; exact hP, va_K.moved hW.alike hK⟩, hS.F ht⟩) hS.2.2 hd hlk
theorem jj_zreturn {v : Int32} (hd : decode M.2.1 pc = .ok (.ireturn, 1)) (hr : M.2.2.2 = some .boolean) (hv : v = 0 ∨ v = 1) (hp : post (some (.int v)) x) : jj_J Y X d M pc lo [.int v] x post := by
  intro p e R s m args below meth c F H locs ls hP hS hl
  obtain ⟨hx, hb, -, hown, hrt, hlk, -, hK, -, -, hok, -, hts⟩ := id F
  exact W.zret hx hb (hrt.trans hr) (jj_bool hv).1 (fun t ht hW => ⟨⟨some (.int v), x, rfl, hp, by rw [ht]; exact hP, va_K.moved hW.alike hK⟩, hS.F ht⟩) hS.2.2 hd hlk
theorem jj_return (hd : decode M.2.1 pc = .ok (.return_, 1)) (hr : M.2.2.2 = none) (hp : post none x) : jj_J Y X d M pc lo [] x post := by
  intro p e R s m args below meth c F H locs ls hP hS hl
  obtain ⟨hx, hb, -, hown, hrt, hlk, -, hK, -, -, hok, -, hts⟩ := id F
  exact W.vret hx hb (hrt.trans hr) (fun t ht hW => ⟨⟨none, x, rfl, hp, by rw [ht]; exact hP, va_K.moved hW.alike hK⟩, hS.F ht⟩) hS.2.2 hd hlk
theorem jj_areturn {i : Nat} {C : String} (hd : decode M.2.1 pc = .ok (.areturn, 1)) (hr : M.2.2.2 = some (.object C)) (hp : post (some (.ref i)) x) : jj_J Y X d M pc lo [.ref i] x post := by
  intro p e R s m args below meth c F H locs ls hP hS hl
  obtain ⟨hx, hb, -, hown, hrt, hlk, -, hK, -, -, hok, -, hts⟩ := id F
  exact W.aret (v := .ref (X.2.1 i)) hx hb (hrt.trans hr) (Or.inl ⟨_, rfl⟩) (Or.inr ⟨_, rfl⟩) (fun t ht hW => ⟨⟨some (.ref i), x, rfl, hp, by rw [ht]; exact hP, va_K.moved hW.alike hK⟩, hS.F ht⟩) hS.2.2 hd hlk
end JJF
/-! calls -/
theorem jj_in.blind {Y : jj_Y} {X : jj_X} {x : jj_Mem} {av : List Value} : FrameBlind (va_Pc av (jj_in Y X x)) := by
  intro a U g mk h
  obtain ⟨h0, hP, hK, hw, hz, hok⟩ := h
  exact ⟨h0, hP, va_K.moved (u := U) (U := U.calling g mk a) (Vm.Alike.refl U.vm) hK, fun w hw2 a2 V hV => hw w hw2 a2 V (State.WarmedH.of_rootvm (s := U.calling g mk a) (u := U) rfl hV), hz, hok⟩
def jj_cm (Y : jj_Y) (N : jj_M) (n : Nat) : Prop := Cond.initialized N.1.cls ∈ Y.2.2.2.2 ∧ Cond.code N.1 N.2.1 N.2.2.1 N.2.2.2 ∈ Y.2.2.2.2 ∧ (N.1.cls ≠ "java/lang/invoke/MethodHandle" ∧ N.1.cls ≠ "java/lang/invoke/VarHandle" ∧ (parseMethodDescriptor N.1.desc).map (fun d => d.parameters.length) = some n) ∧ N.2.2.1 ≤ 21
def jj_cv (Y : jj_Y) (own : String) (idx : Nat) (N : jj_M) (n : Nat) : Prop := jj_cm Y N n ∧ Cond.methodLink own idx N.1 ∈ Y.2.2.2.2 ∧ Cond.instanceMethod N.1 ∈ Y.2.2.2.2 ∧ Cond.selects N.1.cls N.1 N.1 ∈ Y.2.2.2.2
def jj_cs (Y : jj_Y) (own : String) (idx : Nat) (N : jj_M) (n : Nat) : Prop := jj_cm Y N n ∧ Cond.methodLink own idx N.1 ∈ Y.2.2.2.2 ∧ Cond.static N.1 ∈ Y.2.2.2.2
def jj_cn (Y : jj_Y) (own : String) (idx : Nat) (N : jj_M) (n : Nat) : Prop := jj_cm Y N n ∧ (∃ host, Cond.methodLinkNest own idx N.1 host ∈ Y.2.2.2.2) ∧ Cond.static N.1 ∈ Y.2.2.2.2
section JJC
variable {Y : jj_Y} {X : jj_X} {d : Nat} {M N : jj_M} {pc : Nat} {lo : List (Option Value)} {st stk : List Value} {x : jj_Mem} {post post' : Option Value → jj_Mem → Prop}
/-- behind a call -/
theorem jj_behind {p : Program} {e : Env} {R : Room} {s : State} {m : MethodId} {args : Array Value} {below : List Frame} {meth : Method} {c : Code} {H : Heap} {locs : List Loc} {ls : Array Slot} {a : Array Value}
    (F : jj_fr Y X d M p R s m args meth c) (hS : va_S (jj_A X) s.heap H locs) (hl : jj_has X ls M.2.2.1 lo)
    (hr : va_Run p X.1 e R s m args below meth c H locs 0 0 0 0 (F0 m pc ls (stk.map (jj_v X))) (st.map (jj_v X)) (jj_Q Y X post' a) (jj_A X))
    (kk : ∀ (r : Option Value) (x' : jj_Mem), post' r x' → jj_J Y X d M (pc + 3) lo (r.toList ++ st) x' post) :
    W p X.1 e R s m args below meth c H locs 0 0 (MQ below (jj_Q Y X post) args s 0 0 (jj_A X)) (F0 m pc ls (stk.map (jj_v X))) := by
  intro T hT Z
  obtain ⟨v, st₀, t, T', L, h0, Z', hL, e1, e2, ⟨⟨r, x', hv, hp, hPt, hKt⟩, hz, hk⟩, go⟩ := hr T hT Z
  cases hv
  rw [h0] at hz hk
  have hS' : va_S (jj_A X) s.heap T'.heap (locs ++ L) := ⟨Nat.le_trans hS.1 (by rw [e1]; exact hz), fun q h1 h2 => by rw [e1, hk q (Nat.lt_of_lt_of_le h1 hS.1) h2]; exact hS.2.1 q h1 h2, fun q hq => by
      rcases List.mem_append.mp hq with h | h
      · exact hS.2.2 q h
      · exact hL q h⟩
  obtain ⟨t2, a1, b1⟩ := kk r x' hp p e R s m args below meth c F T'.heap (locs ++ L) ls (by rw [e1]; exact hPt) hS' hl T' rfl Z'
  refine ⟨t2, go t2 ?_, b1⟩
  have e3 : (r.map (jj_v X)).toList ++ st.map (jj_v X) = (r.toList ++ st).map (jj_v X) := by cases r <;> simp
  rw [e3]
  exact a1
theorem jj_pre {p : Program} {R : Room} {s : State} {m : MethodId} {args : Array Value} {meth : Method} {c : Code} {H : Heap} {locs : List Loc} {as : List Value}
    (F : jj_fr Y X d M p R s m args meth c) (hP : va_P X.2.2.1 Y.2.2.1 (jj_ws Y X x) H) (hS : va_S (jj_A X) s.heap H locs) : PreS s H (va_Pc (as.map (jj_v X)) (jj_in Y X x)) (as.map (jj_v X)) := by
  obtain ⟨hx, hb, -, hown, hrt, hlk, hw, hK, -, -, hok, hsz, hts⟩ := id F
  exact ⟨jj_in.blind, fun U hU hW => ⟨rfl, by rw [hU]; exact hP, va_K.moved hW.alike hK, hw.moved hW, by rw [hU]; exact hsz.mono hS.1, hok⟩⟩
theorem jj_cb {p : Program} {R : Room} {s : State} {m : MethodId} {args : Array Value} {meth : Method} {c : Code} {own : String} {idx n : Nat}
    (F : jj_fr Y X (d + 1) M p R s m args meth c) (hk : jj_cm Y N n) (hlk : Cond.methodLink own idx N.1 ∈ Y.2.2.2.2) : CallB R s args own idx N.1 N.2.1 N.2.2.1 N.2.2.2 [.code N.1 N.2.1 N.2.2.1 N.2.2.2] ({ frames := d, cells := 0, slots := 0, locals := 40 * d }) 0 0 n := by
  obtain ⟨hx, hb, -, hown, hrt, -, hw, hK, hfr, hlo, hok, hsz, hts⟩ := id F
  obtain ⟨k1, k2, k3, k4⟩ := hk
  refine ⟨rfl, rfl, hfr, ?_, fun w hw2 a' U hW => ?_, List.mem_singleton.mpr rfl, hts _ k2, hts _ k1, ⟨k3.1, k3.2.1⟩, fun sig h => ?_, hts _ hlk⟩
  · show 8 + (N.2.2.1 + 11) + 40 * d ≤ R.locals
    omega
  · rw [List.mem_singleton.mp hw2]
    exact hw _ k2 a' U hW
  · have h2 := k3.2.2
    rw [h] at h2
    exact (Option.some.inj h2).symm
theorem jj_callV {i idx ci n : Nat} {fs : List (Option (Option Nat))} {as : List Value} (hM : jj_Met Y X d N (.ref i :: as) x post') (hd : decode M.2.1 pc = .ok (.invokevirtual idx, 3)) (hk : jj_cv Y M.1.cls idx N n) (hi : i < Y.2.1) (hs : Y.1 i = .inr (ci, fs)) (hc : ∃ q, Y.2.2.1[ci]? = some q ∧ q.1 = N.1.cls) (hn : as.length = n) (hst : stk = as.reverse ++ .ref i :: st) (hroom : (st.map fun v => v.category).sum ≤ 8)
    (kk : ∀ (r : Option Value) (x' : jj_Mem), post' r x' → jj_J Y X (d + 1) M (pc + 3) lo (r.toList ++ st) x' post) : jj_J Y X (d + 1) M pc lo stk x post := by
  intro p e R s m args below meth c F H locs ls hP hS hl
  obtain ⟨hx, hb, hml, hown, hrt, hlk, hw, hK, hfr, hlo, hok, hsz, hts⟩ := id F
  obtain ⟨q, hq, hqn⟩ := hc
  have hrecv := va_recv (D := X.2.2.1) (a := X.2.1 i) (q0 := i) (fs := jj_fl X (x i) 0 fs) hK hP hq (by rw [jj_ws_get hi, hs]; rfl)
  rw [hqn] at hrecv
  refine jj_behind F hS hl (va_runV (n := n) (nL := M.2.2.1) (C := N.1.cls) (As := as.map (jj_v X)) (b := X.2.1 i) (rest := st.map (jj_v X)) ⟨hx, hb, hml, hown, hts⟩ hM ⟨jj_cb F hk.1 hk.2.1, hts _ hk.2.2.1, hts _ hk.2.2.2⟩ ⟨jj_in.blind, hrecv, (jj_pre (as := .ref i :: as) F hP hS).2⟩ rfl (by rw [List.length_map]; exact hn) hl.1 ?_ ?_ hd ⟨Nat.zero_le _, Nat.zero_le _⟩) kk
  · show stk.map (jj_v X) = _
    rw [hst, List.map_append, List.map_reverse]
    rfl
  · refine lv_room ?_
    rw [List.map_map]
    rw [show ((fun v : Value => v.category) ∘ jj_v X) = (fun v => v.category) from funext (fun v => jj_v_cat X v)]
    exact hroom
theorem jj_callS {idx n : Nat} {as : List Value} (hM : jj_Met Y X d N as x post') (hd : decode M.2.1 pc = .ok (.invokestatic idx, 3)) (hk : jj_cs Y M.1.cls idx N n) (hn : as.length = n) (hst : stk = as.reverse ++ st) (hroom : (st.map fun v => v.category).sum ≤ 8)
    (kk : ∀ (r : Option Value) (x' : jj_Mem), post' r x' → jj_J Y X (d + 1) M (pc + 3) lo (r.toList ++ st) x' post) : jj_J Y X (d + 1) M pc lo stk x post := by
  intro p e R s m args below meth c F H locs ls hP hS hl
  obtain ⟨hx, hb, hml, hown, hrt, hlk, hw, hK, hfr, hlo, hok, hsz, hts⟩ := id F
  refine jj_behind F hS hl (va_runS (n := n) (nL := M.2.2.1) (As := as.map (jj_v X)) (rest := st.map (jj_v X)) ⟨hx, hb, hml, hown, hts⟩ hM ⟨jj_cb F hk.1 hk.2.1, hts _ hk.2.2⟩ (jj_pre F hP hS) rfl (by rw [List.length_map]; exact hn) hl.1 ?_ ?_ hd ⟨Nat.zero_le _, Nat.zero_le _⟩) kk
  · show stk.map (jj_v X) = _
    rw [hst, List.map_append, List.map_reverse]
  · refine lv_room ?_
    rw [List.map_map]
    rw [show ((fun v : Value => v.category) ∘ jj_v X) = (fun v => v.category) from funext (fun v => jj_v_cat X v)]
    exact hroom
theorem jj_callSN {idx n : Nat} {as : List Value} (hM : jj_Met Y X d N as x post') (hd : decode M.2.1 pc = .ok (.invokestatic idx, 3)) (hk : jj_cn Y M.1.cls idx N n) (hn : as.length = n) (hst : stk = as.reverse ++ st) (hroom : (st.map fun v => v.category).sum ≤ 8)
    (kk : ∀ (r : Option Value) (x' : jj_Mem), post' r x' → jj_J Y X (d + 1) M (pc + 3) lo (r.toList ++ st) x' post) : jj_J Y X (d + 1) M pc lo stk x post := by
  intro p e R s m args below meth c F H locs ls hP hS hl
  obtain ⟨hx, hb, hml, hown, hrt, hlk, hw, hK, hfr, hlo, hok, hsz, hts⟩ := id F
  obtain ⟨⟨k1, k2, k3, k4⟩, ⟨host, k5⟩, k6⟩ := hk
  refine jj_behind F hS hl (va_runSN (n := n) (nL := M.2.2.1) (host := host) (As := as.map (jj_v X)) (rest := st.map (jj_v X)) ⟨hx, hb, hml, hown, hts⟩ hM ⟨⟨⟨rfl, rfl, hfr, ?_, fun w hw2 a' U hW => ?_, List.mem_singleton.mpr rfl⟩, hts _ k2, hts _ k1, ⟨k3.1, k3.2.1⟩, fun sig h => ?_, hts _ k5⟩, hts _ k6, trivial⟩ (jj_pre F hP hS) rfl (by rw [List.length_map]; exact hn) hl.1 ?_ ?_ hd ⟨Nat.zero_le _, Nat.zero_le _⟩) kk
  · show 8 + (N.2.2.1 + 11) + 40 * d ≤ R.locals
    omega
  · rw [List.mem_singleton.mp hw2]
    exact hw _ k2 a' U hW
  · have h2 := k3.2.2
    rw [h] at h2
    exact (Option.some.inj h2).symm
  · show stk.map (jj_v X) = _
    rw [hst, List.map_append, List.map_reverse]
  · refine lv_room ?_
    rw [List.map_map]
    rw [show ((fun v : Value => v.category) ∘ jj_v X) = (fun v => v.category) from funext (fun v => jj_v_cat X v)]
    exact hroom
/-- Math.max -/
theorem jj_max {idx : Nat} {a b : Int32} (hd : decode M.2.1 pc = .ok (.invokestatic idx, 3)) (h1 : Cond.methodLink M.1.cls idx Lib.Math.max.name ∈ Y.2.2.2.2) (h2 : Cond.static Lib.Math.max.name ∈ Y.2.2.2.2) (h3 : Cond.initialized "java/lang/Math" ∈ Y.2.2.2.2) (h4 : Cond.code Lib.Math.max.name Lib.Math.max.code 2 (some .int) ∈ Y.2.2.2.2) (hroom : (st.map fun v => v.category).sum ≤ 8)
    (k : jj_J Y X (d + 1) M (pc + 3) lo (.int (if a < b then b else a) :: st) x post) : jj_J Y X (d + 1) M pc lo (.int b :: .int a :: st) x post := by
  intro p e R s m args below meth c F H locs ls hP hS hl
  obtain ⟨hx, hb, hml, hown, hrt, hlk, hw, hK, hfr, hlo, hok, hsz, hts⟩ := id F
  refine va_mmax hx hb (by rw [hml, hl.1]) hown (hts _ h1) (hts _ h2) (hts _ h3) (hts _ h4) (by omega) ?_ (Nat.zero_le _) (Nat.zero_le _) hd (k p e R s m args below meth c F H locs ls hP hS hl)
  rw [List.map_map]
  rw [show ((fun v : Value => v.category) ∘ jj_v X) = (fun v => v.category) from funext (fun v => jj_v_cat X v)]
  omega
/-- System.arraycopy of ints -/
theorem jj_copy {idx i0 i1 n0 n1 : Nat} {f0 f1 : Nat → Nat} {sp dp n : Int32} (hd : decode M.2.1 pc = .ok (.invokestatic idx, 3)) (k1 : Cond.methodLink M.1.cls idx arraycopyName ∈ Y.2.2.2.2) (k2 : Cond.native arraycopyName ∈ Y.2.2.2.2) (k3 : Cond.static arraycopyName ∈ Y.2.2.2.2) (k4 : Cond.initialized "java/lang/System" ∈ Y.2.2.2.2) (ht : Y.2.2.2.1[0]? = some .int) (hroom : (st.map fun v => v.category).sum ≤ 8)
    (hi0 : i0 < Y.2.1) (hs0 : Y.1 i0 = .inl (0, n0, f0)) (hi1 : i1 < Y.2.1) (hs1 : Y.1 i1 = .inl (0, n1, f1)) (h1 : ¬ sp < 0) (h2 : ¬ dp < 0) (h3 : ¬ n < 0) (h4 : sp.toNatClampNeg + n.toNatClampNeg ≤ n0) (h5 : dp.toNatClampNeg + n.toNatClampNeg ≤ n1)
    (k : jj_J Y X (d + 1) M (pc + 3) lo st (va_up x i1 (va_cpy (x i0) (x i1) sp.toNatClampNeg dp.toNatClampNeg n.toNatClampNeg)) post) : jj_J Y X (d + 1) M pc lo (.int n :: .int dp :: .ref i1 :: .int sp :: .ref i0 :: st) x post := by
  intro p e R s m args below meth c F H locs ls hP hS hl
  obtain ⟨hx, hb, hml, hown, hrt, hlk, hw, hK, hfr, hlo, hok, hsz, hts⟩ := id F
  refine va_copyi (D := X.2.2.1) hx hb (by rw [hml, hl.1]) hown (hts _ k1) (hts _ k2) (hts _ k3) (hts _ k4) hK hP (jj_D hok x) hS i0 i1 0 0 (by rw [jj_ws_get hi0, hs0]; rfl) (by rw [jj_ws_get hi1, hs1]; rfl) (jj_tys_get ht) (jj_tys_get ht) rfl h1 h2 h3 h4 h5 (fun _ _ => rfl) (by omega) ?_ hd (fun H1 locs1 hP1 hD1 hS1 => ?_)
  · rw [List.map_map]
    rw [show ((fun v : Value => v.category) ∘ jj_v X) = (fun v => v.category) from funext (fun v => jj_v_cat X v)]
    have e9 : nativeFrameWords "java/lang/System" "arraycopy" 5 + 11 ≤ 32 := by decide +kernel
    omega
  · have e1 : (Sum.inl (X.2.2.2.1 0, n1, Sum.inl (va_cpy (x i0) (x i1) sp.toNatClampNeg dp.toNatClampNeg n.toNatClampNeg)) : va_E) = jj_e X (Y.1 i1) (va_cpy (x i0) (x i1) sp.toNatClampNeg dp.toNatClampNeg n.toNatClampNeg) := by rw [hs1]; rfl
    rw [e1, jj_ws_set hi1] at hP1
    exact k p e R s m args below meth c F H1 locs1 ls hP1 hS1 hl
end JJC
/-- a contract's post may be weakened -/
theorem jj_J.mono {Y : jj_Y} {X : jj_X} {d : Nat} {M : jj_M} {pc : Nat} {lo : List (Option Value)} {st : List Value} {x : jj_Mem} {post post' : Option Value → jj_Mem → Prop} (h : jj_J Y X d M pc lo st x post) (hp : ∀ r x', post r x' → post' r x') : jj_J Y X d M pc lo st x post' := by
  intro p e R s m args below meth c F H locs ls hP hS hl T hT Z
  obtain ⟨t, a, o, b1, b2, ⟨⟨r, x', q1, q2, q3⟩, q4⟩, b3⟩ := h p e R s m args below meth c F H locs ls hP hS hl T hT Z
  exact ⟨t, a, o, b1, b2, ⟨⟨r, x', q1, hp r x' q2, q3⟩, q4⟩, b3⟩
theorem jj_J.sub {Y : jj_Y} {X : jj_X} {d : Nat} {M : jj_M} {pc : Nat} {lo lo' : List (Option Value)} {st : List Value} {x : jj_Mem} {post : Option Value → jj_Mem → Prop} (h : jj_J Y X d M pc lo' st x post) (hs : ∀ (i : Nat) (v : Value), lo'[i]? = some (some v) → lo[i]? = some (some v)) : jj_J Y X d M pc lo st x post := by
  intro p e R s m args below meth c F H locs ls hP hS hl
  exact h p e R s m args below meth c F H locs ls hP hS ⟨hl.1, hl.2.1, fun i v hi => hl.2.2 i v (hs i v hi)⟩
end
section
/-! what the laid functions are made of -/
theorem jj_gt {c : Prop} [Decidable c] {α : Type} {a : Option α} {q : α} (h : (if c then a else none) = some q) : c ∧ a = some q := by
  by_cases hc : c
  · rw [if_pos hc] at h; exact ⟨hc, h⟩
  · rw [if_neg hc] at h; cases h
def jj_b1 {α γ : Type} (o : Option α) (k : α → Option γ) : Option γ := match o with
  | some a => k a
  | none => none
def jj_b2 {α β γ : Type} (o : Option (α × β)) (k : α → β → Option γ) : Option γ := match o with
  | some (a, b) => k a b
  | none => none
theorem jj_b1o {α γ : Type} {o : Option α} {k : α → Option γ} {q : γ} (h : jj_b1 o k = some q) : ∃ a, o = some a ∧ k a = some q := by
  cases o with
  | none => cases h
  | some a => exact ⟨a, rfl, h⟩
theorem jj_b2o {α β γ : Type} {o : Option (α × β)} {k : α → β → Option γ} {q : γ} (h : jj_b2 o k = some q) : ∃ a b, o = some (a, b) ∧ k a b = some q := by
  cases o with
  | none => cases h
  | some a => exact ⟨a.1, a.2, rfl, h⟩
def jj_inb (j : Int32) (n : Nat) : Bool := !(decide (j < 0)) && decide (j.toNatClampNeg < n)
theorem jj_inn {j : Int32} {n : Nat} (h : jj_inb j n = true) : vp_in j n := by
  simp only [jj_inb, Bool.and_eq_true, Bool.not_eq_true', decide_eq_false_iff_not, decide_eq_true_eq] at h
  rintro (q | q)
  · exact h.1 q
  · exact Nat.not_le.mpr h.2 q
theorem jj_inb_nI {a n : Nat} (h : a < n) (hn : n < 2 ^ 31) : jj_inb (nI a) n = true := by
  simp only [jj_inb, Bool.and_eq_true, Bool.not_eq_true', decide_eq_false_iff_not, decide_eq_true_eq]
  exact ⟨nI_pos (by omega), by rw [nI_clamp (by omega)]; exact h⟩
def jj_nz (b : Int32) : Bool := !(b == 0)
theorem jj_nzo {b : Int32} (h : jj_nz b = true) : ¬ b = 0 := by
  simpa [jj_nz] using h
def jj_zb (v : Int32) : Bool := v == 0 || v == 1
theorem jj_zbo {v : Int32} (h : jj_zb v = true) : v = 0 ∨ v = 1 := by
  simpa [jj_zb] using h
def jj_cpb (sp dp n : Int32) (n0 n1 : Nat) : Bool := !(decide (sp < 0)) && !(decide (dp < 0)) && !(decide (n < 0)) && decide (sp.toNatClampNeg + n.toNatClampNeg ≤ n0) && decide (dp.toNatClampNeg + n.toNatClampNeg ≤ n1)
theorem jj_cpo {sp dp n : Int32} {n0 n1 : Nat} (h : jj_cpb sp dp n n0 n1 = true) : ¬ sp < 0 ∧ ¬ dp < 0 ∧ ¬ n < 0 ∧ sp.toNatClampNeg + n.toNatClampNeg ≤ n0 ∧ dp.toNatClampNeg + n.toNatClampNeg ≤ n1 := by
  simp only [jj_cpb, Bool.and_eq_true, Bool.not_eq_true', decide_eq_false_iff_not, decide_eq_true_eq] at h
  exact ⟨h.1.1.1.1, h.1.1.1.2, h.1.1.2, h.1.2, h.2⟩
theorem jj_andl {a b : Bool} (h : (a && b) = true) : a = true := by simp at h; exact h.1
theorem jj_andr {a b : Bool} (h : (a && b) = true) : b = true := by simp at h; exact h.2
def jj_mask : List Bool → List (Option Value) → List (Option Value)
  | true :: ks, v :: lo => v :: jj_mask ks lo
  | false :: ks, _ :: lo => none :: jj_mask ks lo
  | _, _ => []
theorem jj_mask_ok : ∀ (ks : List Bool) {lo : List (Option Value)} {i : Nat} {v : Value}, (jj_mask ks lo)[i]? = some (some v) → lo[i]? = some (some v)
  | [], lo, i, v, h => by simp [jj_mask] at h
  | true :: ks, [], i, v, h => by simp [jj_mask] at h
  | false :: ks, [], i, v, h => by simp [jj_mask] at h
  | true :: ks, u :: lo, 0, v, h => by simpa [jj_mask] using h
  | true :: ks, u :: lo, i + 1, v, h => by
    simp only [jj_mask, List.getElem?_cons_succ] at h ⊢
    exact jj_mask_ok ks h
  | false :: ks, u :: lo, 0, v, h => by simp [jj_mask] at h
  | false :: ks, u :: lo, i + 1, v, h => by
    simp only [jj_mask, List.getElem?_cons_succ] at h ⊢
    exact jj_mask_ok ks h
def jp_i (q : Int32 × jj_Mem) : Option Value → jj_Mem → Prop := fun r x => r = some (.int q.1) ∧ x = q.2
def jp_v (q : jj_Mem) : Option Value → jj_Mem → Prop := fun r x => r = none ∧ x = q
def jp_r (q : Nat × jj_Mem) : Option Value → jj_Mem → Prop := fun r x => r = some (.ref q.1) ∧ x = q.2
/-- a contract, from the judgement at the entry, with k empty places behind the arguments -/
theorem jj_metp {Y : jj_Y} {X : jj_X} {d : Nat} {M : jj_M} {as : List Value} {x : jj_Mem} {post : Option Value → jj_Mem → Prop} (k : Nat) {lo : List (Option Value)} (hy : plainName M.1.cls = true) (hn : (lg_sl as).length ≤ M.2.2.1) (hlo : jj_lo as ++ List.replicate k none = lo) (h : jj_J Y X d M 0 lo [] x post) : jj_Met Y X d M as x post := by
  refine jj_met hy hn (fun i v hi => ?_) h
  subst hlo
  by_cases q : i < (jj_lo as).length
  · rwa [List.getElem?_append_left q] at hi
  · rw [List.getElem?_append_right (by omega), List.getElem?_replicate] at hi
    split at hi <;> simp at hi
section JJK
variable {Y : jj_Y} {X : jj_X} {d : Nat} {M N : jj_M} {pc : Nat} {lo : List (Option Value)} {st stk : List Value} {x x1 : jj_Mem} {post : Option Value → jj_Mem → Prop}
theorem jj_callVi {i idx ci n : Nat} {fs : List (Option (Option Nat))} {as : List Value} {r : Int32} (hM : jj_Met Y X d N (.ref i :: as) x (jp_i (r, x1))) (hd : decode M.2.1 pc = .ok (.invokevirtual idx, 3)) (hk : jj_cv Y M.1.cls idx N n) (hi : i < Y.2.1) (hs : Y.1 i = .inr (ci, fs)) (hc : ∃ q, Y.2.2.1[ci]? = some q ∧ q.1 = N.1.cls) (hn : as.length = n) (hst : stk = as.reverse ++ .ref i :: st) (hroom : (st.map fun v => v.category).sum ≤ 8) (kk : jj_J Y X (d + 1) M (pc + 3) lo (.int r :: st) x1 post) : jj_J Y X (d + 1) M pc lo stk x post :=
  jj_callV hM hd hk hi hs hc hn hst hroom (fun r2 x2 h => by obtain ⟨rfl, rfl⟩ := h; exact kk)
theorem jj_callVv {i idx ci n : Nat} {fs : List (Option (Option Nat))} {as : List Value} (hM : jj_Met Y X d N (.ref i :: as) x (jp_v x1)) (hd : decode M.2.1 pc = .ok (.invokevirtual idx, 3)) (hk : jj_cv Y M.1.cls idx N n) (hi : i < Y.2.1) (hs : Y.1 i = .inr (ci, fs)) (hc : ∃ q, Y.2.2.1[ci]? = some q ∧ q.1 = N.1.cls) (hn : as.length = n) (hst : stk = as.reverse ++ .ref i :: st) (hroom : (st.map fun v => v.category).sum ≤ 8) (kk : jj_J Y X (d + 1) M (pc + 3) lo st x1 post) : jj_J Y X (d + 1) M pc lo stk x post :=
  jj_callV hM hd hk hi hs hc hn hst hroom (fun r2 x2 h => by obtain ⟨rfl, rfl⟩ := h; exact kk)
theorem jj_callVr {i idx ci n : Nat} {fs : List (Option (Option Nat))} {as : List Value} {r : Nat} (hM : jj_Met Y X d N (.ref i :: as) x (jp_r (r, x1))) (hd : decode M.2.1 pc = .ok (.invokevirtual idx, 3)) (hk : jj_cv Y M.1.cls idx N n) (hi : i < Y.2.1) (hs : Y.1 i = .inr (ci, fs)) (hc : ∃ q, Y.2.2.1[ci]? = some q ∧ q.1 = N.1.cls) (hn : as.length = n) (hst : stk = as.reverse ++ .ref i :: st) (hroom : (st.map fun v => v.category).sum ≤ 8) (kk : jj_J Y X (d + 1) M (pc + 3) lo (.ref r :: st) x1 post) : jj_J Y X (d + 1) M pc lo stk x post :=
  jj_callV hM hd hk hi hs hc hn hst hroom (fun r2 x2 h => by obtain ⟨rfl, rfl⟩ := h; exact kk)
theorem jj_callSi {idx n : Nat} {as : List Value} {r : Int32} (hM : jj_Met Y X d N as x (jp_i (r, x1))) (hd : decode M.2.1 pc = .ok (.invokestatic idx, 3)) (hk : jj_cs Y M.1.cls idx N n) (hn : as.length = n) (hst : stk = as.reverse ++ st) (hroom : (st.map fun v => v.category).sum ≤ 8) (kk : jj_J Y X (d + 1) M (pc + 3) lo (.int r :: st) x1 post) : jj_J Y X (d + 1) M pc lo stk x post :=
  jj_callS hM hd hk hn hst hroom (fun r2 x2 h => by obtain ⟨rfl, rfl⟩ := h; exact kk)
theorem jj_callSNi {idx n : Nat} {as : List Value} {r : Int32} (hM : jj_Met Y X d N as x (jp_i (r, x1))) (hd : decode M.2.1 pc = .ok (.invokestatic idx, 3)) (hk : jj_cn Y M.1.cls idx N n) (hn : as.length = n) (hst : stk = as.reverse ++ st) (hroom : (st.map fun v => v.category).sum ≤ 8) (kk : jj_J Y X (d + 1) M (pc + 3) lo (.int r :: st) x1 post) : jj_J Y X (d + 1) M pc lo stk x post :=
  jj_callSN hM hd hk hn hst hroom (fun r2 x2 h => by obtain ⟨rfl, rfl⟩ := h; exact kk)
end JJK
end
section
/-! methods over ints alone, by reckoning: se_run walks the code itself; what it answers, the method answers -/
def se_cmp (c : Jvm.ClassFile.Cond) (a b : Int32) : Bool := match c with
  | .eq => a == b
  | .ne => !(a == b)
  | .lt => decide (a < b)
  | .ge => decide (b ≤ a)
  | .gt => decide (b < a)
  | .le => decide (a ≤ b)
def se_code (bs : ByteArray) (pc : Nat) : Option (Instr × Nat) := match decode bs pc with
  | .ok r => some r
  | .error _ => none
theorem se_code_ok {bs : ByteArray} {pc : Nat} {r : Instr × Nat} (h : se_code bs pc = some r) : decode bs pc = .ok r := by
  unfold se_code at h
  split at h
  · next r2 e => rw [e]; exact congrArg _ (Option.some.inj h)
  · cases h
def se_go (pc : Nat) (off : Int) (k : Nat → Option Int32) : Option Int32 := match (pc : Int) + off with
  | .ofNat t => k t
  | .negSucc _ => none
theorem se_go_ok {pc : Nat} {off : Int} {k : Nat → Option Int32} {v : Int32} (h : se_go pc off k = some v) : ∃ t : Nat, (pc : Int) + off = (t : Int) ∧ k t = some v := by
  unfold se_go at h
  split at h
  · next t e => exact ⟨t, e, h⟩
  · cases h
def se_run (bz : Bool) (nL : Nat) (call : Nat → Option (Nat × (List Int32 → Option Int32))) (code : Nat → Option (Instr × Nat)) : Nat → Nat → List Int32 → List Int32 → Option Int32
  | 0, _, _, _ => none
  | f + 1, pc, lo, st => match code pc with
    | some (.iload_n k, 1) => match lo[(k : Nat)]? with
      | some v => se_run bz nL call code f (pc + 1) lo (v :: st)
      | none => none
    | some (.iload k, 2) => match lo[k]? with
      | some v => se_run bz nL call code f (pc + 2) lo (v :: st)
      | none => none
    | some (.iconst n, 1) => se_run bz nL call code f (pc + 1) lo (Int32.ofInt n :: st)
    | some (.bipush n, 2) => se_run bz nL call code f (pc + 2) lo ((Int8.ofInt n).toInt32 :: st)
    | some (.sipush n, 3) => se_run bz nL call code f (pc + 3) lo ((Int16.ofInt n).toInt32 :: st)
    | some (.istore_n k, 1) => match st with
      | v :: st => if (k : Nat) < nL ∧ (k : Nat) ≤ lo.length then se_run bz nL call code f (pc + 1) (if (k : Nat) = lo.length then lo ++ [v] else lo.set k v) st else none
      | [] => none
    | some (.istore k, 2) => match st with
      | v :: st => if k < nL ∧ k ≤ lo.length then se_run bz nL call code f (pc + 2) (if k = lo.length then lo ++ [v] else lo.set k v) st else none
      | [] => none
    | some (.iadd, 1) => match st with
      | b :: a :: st => se_run bz nL call code f (pc + 1) lo ((a + b) :: st)
      | _ => none
    | some (.isub, 1) => match st with
      | b :: a :: st => se_run bz nL call code f (pc + 1) lo ((a - b) :: st)
      | _ => none
    | some (.imul, 1) => match st with
      | b :: a :: st => se_run bz nL call code f (pc + 1) lo ((a * b) :: st)
      | _ => none
    | some (.ifCond c off, 3) => match st with
      | a :: st => se_go pc off (fun t => if se_cmp c a 0 = true then se_run bz nL call code f t lo st else se_run bz nL call code f (pc + 3) lo st)
      | [] => none
    | some (.if_icmp c off, 3) => match st with
      | b :: a :: st => se_go pc off (fun t => if se_cmp c a b = true then se_run bz nL call code f t lo st else se_run bz nL call code f (pc + 3) lo st)
      | _ => none
    | some (.goto off, 3) => se_go pc off (fun t => se_run bz nL call code f t lo st)
    | some (.lookupswitch dflt ps, _) => match st with
      | a :: st => if (ps.toList.zip (ps.toList.drop 1)).all (fun (a, next) => a.1 < next.1) = true then se_go pc (Op.lookupswitch.offset ps.toList dflt a.toInt) (fun t => se_run bz nL call code f t lo st) else none
      | [] => none
    | some (.invokestatic idx, 3) => match call idx with
      | some (n, g) => if n ≤ st.length ∧ (st.drop n).length ≤ 8 then (match g (st.take n).reverse with
        | some v => se_run bz nL call code f (pc + 3) lo (v :: st.drop n)
        | none => none) else none
      | none => none
    | some (.ireturn, 1) => match st with
      | [v] => if bz = true then (if v = 0 ∨ v = 1 then some v else none) else some v
      | _ => none
    | _ => none
def se_lo (lo : List Int32) : List (Option Value) := lo.map (fun v => some (Value.int v))
def se_st (st : List Int32) : List Value := st.map (fun v => Value.int v)
theorem se_lo_get {lo : List Int32} {k : Nat} {v : Int32} (h : lo[k]? = some v) : (se_lo lo)[k]? = some (some (.int v)) := by
  simp [se_lo, h]
theorem se_k1 (lo : List Int32) (k : Nat) : jj_k1 (se_lo lo) k = true := by
  cases k with
  | zero => rfl
  | succ k =>
    simp only [jj_k1, se_lo, List.getElem?_map]
    cases lo[k]? <;> rfl
theorem se_cat : ∀ st : List Int32, ((se_st st).map fun v => v.category).sum = st.length
  | [] => rfl
  | a :: r => by
    have := se_cat r
    simp only [se_st, List.map_cons, List.sum_cons, List.length_cons] at this ⊢
    rw [this]
    simp [Value.category, Nat.add_comm]
theorem se_set {lo : List Int32} {k : Nat} {v : Int32} (hk : k ≤ lo.length) : ∀ (i : Nat) (u : Value), (se_lo (if k = lo.length then lo ++ [v] else lo.set k v))[i]? = some (some u) → ((se_lo lo ++ [none]).set k (some (.int v)))[i]? = some (some u) := by
  intro i u h
  have hl : (se_lo lo).length = lo.length := by simp [se_lo]
  by_cases e : k = lo.length
  · rw [if_pos e] at h
    subst e
    by_cases hi : i < lo.length
    · rw [List.getElem?_set_ne (by omega), List.getElem?_append_left (by omega)]
      simp only [se_lo, List.map_append, List.map_cons, List.map_nil] at h
      rw [List.getElem?_append_left (by simpa using hi)] at h
      exact h
    · simp only [se_lo, List.map_append, List.map_cons, List.map_nil] at h
      rw [List.getElem?_append_right (by simp; omega)] at h
      have hz := (List.getElem?_eq_some_iff.mp h).1
      simp at hz
      have e2 : i = lo.length := by omega
      subst e2
      simp at h
      rw [List.getElem?_set_self (by simp [hl])]
      exact congrArg (fun z => some (some z)) h
  · rw [if_neg e] at h
    have hlt : k < lo.length := by omega
    by_cases hi : i = k
    · subst hi
      simp [se_lo, hlt] at h
      rw [List.getElem?_set_self (by simp [hl]; omega)]
      exact congrArg (fun z => some (some z)) h
    · rw [List.getElem?_set_ne (Ne.symm hi)]
      simp only [se_lo, List.getElem?_map] at h
      rw [List.getElem?_set_ne (Ne.symm hi)] at h
      have hi2 : i < lo.length := by
        by_cases q : i < lo.length
        · exact q
        · rw [List.getElem?_eq_none (by omega)] at h; cases h
      rw [List.getElem?_append_left (by omega)]
      simpa [se_lo] using h
set_option maxHeartbeats 4000000 in
theorem se_sound {Y : jj_Y} {X : jj_X} {D : Nat} {M : jj_M} {x : jj_Mem} {bz : Bool} {nL : Nat} {call : Nat → Option (Nat × (List Int32 → Option Int32))} {code : Nat → Option (Instr × Nat)} (hnL : nL = M.2.2.1) (hret : M.2.2.2 = some (if bz = true then .boolean else .int)) (hcode : ∀ pc r, code pc = some r → decode M.2.1 pc = .ok r)
    (hcall : ∀ idx n g, call idx = some (n, g) → ∃ (d : Nat) (N : jj_M), D = d + 1 ∧ (jj_cs Y M.1.cls idx N n ∨ jj_cn Y M.1.cls idx N n) ∧ ∀ (as : List Int32) (v : Int32), as.length = n → g as = some v → jj_Met Y X d N (se_st as) x (fun r x' => r = some (.int v) ∧ x' = x)) :
    ∀ (f pc : Nat) (lo st : List Int32) (v : Int32), se_run bz nL call code f pc lo st = some v → jj_J Y X D M pc (se_lo lo) (se_st st) x (fun r x' => r = some (.int v) ∧ x' = x) := by
  intro f
  induction f with
  | zero => intro pc lo st v h; simp [se_run] at h
  | succ f ih =>
    intro pc lo st v h
    have hset : ∀ (k : Nat) (w : Int32), k ≤ lo.length → ∀ (pc2 : Nat) (st2 : List Int32), jj_J Y X D M pc2 (se_lo (if k = lo.length then lo ++ [w] else lo.set k w)) (se_st st2) x (fun r x' => r = some (.int v) ∧ x' = x) → jj_J Y X D M pc2 ((se_lo lo ++ [none]).set k (some (.int w))) (se_st st2) x (fun r x' => r = some (.int v) ∧ x' = x) := fun k w hk pc2 st2 hJ => hJ.sub (se_set hk)
    have hwide : ∀ (pc2 : Nat) (st2 : List Value), jj_J Y X D M pc2 (se_lo lo ++ [none]) st2 x (fun r x' => r = some (.int v) ∧ x' = x) → jj_J Y X D M pc2 (se_lo lo) st2 x (fun r x' => r = some (.int v) ∧ x' = x) := fun pc2 st2 hJ => hJ.sub (fun i u hi => by
      by_cases q : i < (se_lo lo).length
      · rwa [List.getElem?_append_left q] at hi
      · rw [List.getElem?_append_right (by omega)] at hi
        have hz := (List.getElem?_eq_some_iff.mp hi).1
        simp at hz
        have e : i - (se_lo lo).length = 0 := by omega
        rw [e] at hi
        simp at hi)
    have hk1 : ∀ k : Nat, jj_k1 (se_lo lo ++ [none]) k = true := by
      intro k
      cases k with
      | zero => rfl
      | succ k =>
        have := se_k1 lo (k + 1)
        simp only [jj_k1] at this ⊢
        by_cases q : k < (se_lo lo).length
        · rwa [List.getElem?_append_left q]
        · rw [List.getElem?_append_right (by omega)]
          cases k - (se_lo lo).length <;> simp
    unfold se_run at h
    split at h
    · next k e =>
      split at h
      · next w hw => exact jj_iload_n (hcode _ _ e) (se_lo_get hw) (ih _ _ _ _ h)
      · cases h
    · next k e =>
      split at h
      · next w hw => exact jj_iload (hcode _ _ e) (se_lo_get hw) (ih _ _ _ _ h)
      · cases h
    · next n e => exact jj_iconst (hcode _ _ e) rfl (ih _ _ _ _ h)
    · next n e => exact jj_bipush (hcode _ _ e) rfl (ih _ _ _ _ h)
    · next n e => exact jj_sipush (hcode _ _ e) rfl (ih _ _ _ _ h)
    · next k e =>
      split at h
      · next w st2 =>
        split at h
        · next hk => exact hwide _ _ (jj_istore_n (hcode _ _ e) rfl (hnL ▸ hk.1) (hk1 _) (hset _ _ hk.2 _ _ (ih _ _ _ _ h)))
        · cases h
      · cases h
    · next k e =>
      split at h
      · next w st2 =>
        split at h
        · next hk => exact hwide _ _ (jj_istore (hcode _ _ e) rfl (hnL ▸ hk.1) (hk1 _) (hset _ _ hk.2 _ _ (ih _ _ _ _ h)))
        · cases h
      · cases h
    · next e =>
      split at h
      · exact jj_iadd (hcode _ _ e) (ih _ _ _ _ h)
      · cases h
    · next e =>
      split at h
      · exact jj_isub (hcode _ _ e) (ih _ _ _ _ h)
      · cases h
    · next e =>
      split at h
      · exact jj_imul (hcode _ _ e) (ih _ _ _ _ h)
      · cases h
    · next cnd off e =>
      split at h
      · next a st2 =>
        obtain ⟨t, ht, h⟩ := se_go_ok h
        have hd := hcode _ _ e
        split at h
        · next hc =>
          have K := ih _ _ _ _ h
          cases cnd <;> simp only [se_cmp, beq_iff_eq, Bool.not_eq_true', beq_eq_false_iff_ne, decide_eq_true_eq, ne_eq] at hc
          · exact jj_if_eq hd ht (fun _ => K) (fun q => absurd hc q)
          · exact jj_if_ne hd ht (fun _ => K) (fun q => absurd q hc)
          · exact jj_if_lt hd ht (fun _ => K) (fun q => absurd hc q)
          · exact jj_if_ge hd ht (fun _ => K) (fun q => absurd hc q)
          · exact jj_if_gt hd ht (fun _ => K) (fun q => absurd hc q)
          · exact jj_if_le hd ht (fun _ => K) (fun q => absurd hc q)
        · next hc =>
          have K := ih _ _ _ _ h
          cases cnd <;> simp only [se_cmp, beq_iff_eq, Bool.not_eq_true', beq_eq_false_iff_ne, decide_eq_true_eq, ne_eq, Classical.not_not] at hc
          · exact jj_if_eq hd ht (fun q => absurd q hc) (fun _ => K)
          · exact jj_if_ne hd ht (fun q => absurd hc q) (fun _ => K)
          · exact jj_if_lt hd ht (fun q => absurd q hc) (fun _ => K)
          · exact jj_if_ge hd ht (fun q => absurd q hc) (fun _ => K)
          · exact jj_if_gt hd ht (fun q => absurd q hc) (fun _ => K)
          · exact jj_if_le hd ht (fun q => absurd q hc) (fun _ => K)
      · cases h
    · next cnd off e =>
      split at h
      · next b a st2 =>
        obtain ⟨t, ht, h⟩ := se_go_ok h
        have hd := hcode _ _ e
        split at h
        · next hc =>
          have K := ih _ _ _ _ h
          cases cnd <;> simp only [se_cmp, beq_iff_eq, Bool.not_eq_true', beq_eq_false_iff_ne, decide_eq_true_eq, ne_eq] at hc
          · exact jj_ic_eq hd ht (fun _ => K) (fun q => absurd hc q)
          · exact jj_ic_ne hd ht (fun _ => K) (fun q => absurd q hc)
          · exact jj_ic_lt hd ht (fun _ => K) (fun q => absurd hc q)
          · exact jj_ic_ge hd ht (fun _ => K) (fun q => absurd hc q)
          · exact jj_ic_gt hd ht (fun _ => K) (fun q => absurd hc q)
          · exact jj_ic_le hd ht (fun _ => K) (fun q => absurd hc q)
        · next hc =>
          have K := ih _ _ _ _ h
          cases cnd <;> simp only [se_cmp, beq_iff_eq, Bool.not_eq_true', beq_eq_false_iff_ne, decide_eq_true_eq, ne_eq, Classical.not_not] at hc
          · exact jj_ic_eq hd ht (fun q => absurd q hc) (fun _ => K)
          · exact jj_ic_ne hd ht (fun q => absurd hc q) (fun _ => K)
          · exact jj_ic_lt hd ht (fun q => absurd q hc) (fun _ => K)
          · exact jj_ic_ge hd ht (fun q => absurd q hc) (fun _ => K)
          · exact jj_ic_gt hd ht (fun q => absurd q hc) (fun _ => K)
          · exact jj_ic_le hd ht (fun q => absurd q hc) (fun _ => K)
      · cases h
    · next off e =>
      obtain ⟨t, ht, h⟩ := se_go_ok h
      exact jj_goto (hcode _ _ e) ht (ih _ _ _ _ h)
    · next dflt ps n e =>
      split at h
      · next a st2 =>
        split at h
        · next hp =>
          obtain ⟨t, ht, h⟩ := se_go_ok h
          exact jj_lookup (hcode _ _ e) hp rfl ht (ih _ _ _ _ h)
        · cases h
      · cases h
    · next idx e =>
      split at h
      · next n g hc =>
        split at h
        · next hn =>
          split at h
          · next w hg =>
            obtain ⟨d, N, rfl, hN, hM⟩ := hcall idx n g hc
            have hM' := hM _ w (by simp; omega) hg
            have hst : se_st st = (se_st (st.take n).reverse).reverse ++ se_st (st.drop n) := by
              simp only [se_st, List.map_reverse, List.reverse_reverse, ← List.map_append, List.take_append_drop]
            have hlen : (se_st (st.take n).reverse).length = n := by simp [se_st]; omega
            have hroom : ((se_st (st.drop n)).map fun v => v.category).sum ≤ 8 := by rw [se_cat]; exact hn.2
            have K := ih _ _ _ _ h
            rcases hN with hN | hN
            · exact jj_callS hM' (hcode _ _ e) hN hlen hst hroom (fun r x' hr => by obtain ⟨rfl, rfl⟩ := hr; exact K)
            · exact jj_callSN hM' (hcode _ _ e) hN hlen hst hroom (fun r x' hr => by obtain ⟨rfl, rfl⟩ := hr; exact K)
          · cases h
        · cases h
      · cases h
    · next e =>
      split at h
      · next w =>
        split at h
        · next hb =>
          split at h
          · next hw =>
            cases h
            exact jj_zreturn (hcode _ _ e) (by rw [hret, if_pos hb]) hw ⟨rfl, rfl⟩
          · cases h
        · next hb =>
          cases h
          exact jj_ireturn (hcode _ _ e) (by rw [hret, if_neg hb]) ⟨rfl, rfl⟩
      · cases h
    · cases h
theorem se_sound0 {Y : jj_Y} {X : jj_X} {d : Nat} {M : jj_M} {x : jj_Mem} {bz : Bool} {nL : Nat} {code : Nat → Option (Instr × Nat)} (hnL : nL = M.2.2.1) (hret : M.2.2.2 = some (if bz = true then .boolean else .int)) (hcode : ∀ pc r, code pc = some r → decode M.2.1 pc = .ok r) :
    ∀ (f pc : Nat) (lo st : List Int32) (v : Int32), se_run bz nL (fun _ => none) code f pc lo st = some v → jj_J Y X d M pc (se_lo lo) (se_st st) x (fun r x' => r = some (.int v) ∧ x' = x) :=
  se_sound hnL hret hcode (fun _ _ _ h => by cases h)
theorem jj_pad (k : Nat) {l : List (Option Value)} {i : Nat} {u : Value} (h : l[i]? = some (some u)) : (l ++ List.replicate k none)[i]? = some (some u) := by
  have hl := (List.getElem?_eq_some_iff.mp h).1
  rw [List.getElem?_append_left hl]
  exact h
end
