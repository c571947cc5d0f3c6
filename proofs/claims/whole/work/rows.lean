section
-- ===== PART A: goes FIRST, ahead of the names: the tables' words, and 'selects' of the private methods out of them =====
/-- a private method of a class that the tables say can be made, by its rows of tables_1 -/
def lw_okq (q : MethodName × Nat) : Prop := (q.1.cls ≠ "java/lang/invoke/MethodHandle" ∧ q.1.cls ≠ "java/lang/invoke/VarHandle") ∧ Cond.instantiable q.1.cls q.2 ∈ tables_1 ∧ Cond.privateMethod q.1 ∈ tables_1 ∧ Cond.instanceMethod q.1 ∈ tables_1
theorem lw_p0 : lw_okq (⟨"VerifiedCode$Reader", "next", "(LVerifiedCode$Program;II)Z"⟩, 3) := ⟨⟨by decide +kernel, by decide +kernel⟩, List.mem_of_getElem? (i := 113) (by decide +kernel), List.mem_of_getElem? (i := 254) (by decide +kernel), List.mem_of_getElem? (i := 255) (by decide +kernel)⟩
theorem lw_p1 : lw_okq (⟨"VerifiedCode$Reader", "readsConstants", "(LVerifiedCode$Program;)Z"⟩, 3) := ⟨⟨by decide +kernel, by decide +kernel⟩, List.mem_of_getElem? (i := 113) (by decide +kernel), List.mem_of_getElem? (i := 258) (by decide +kernel), List.mem_of_getElem? (i := 259) (by decide +kernel)⟩
theorem lw_p2 : lw_okq (⟨"VerifiedCode$Reader", "nextOnes", "(LVerifiedCode$Program;III)Z"⟩, 3) := ⟨⟨by decide +kernel, by decide +kernel⟩, List.mem_of_getElem? (i := 113) (by decide +kernel), List.mem_of_getElem? (i := 262) (by decide +kernel), List.mem_of_getElem? (i := 263) (by decide +kernel)⟩
theorem lw_p3 : lw_okq (⟨"VerifiedCode$Reader", "readsMethod", "(LVerifiedCode$Program;LVerifiedCode$Method;)Z"⟩, 3) := ⟨⟨by decide +kernel, by decide +kernel⟩, List.mem_of_getElem? (i := 113) (by decide +kernel), List.mem_of_getElem? (i := 266) (by decide +kernel), List.mem_of_getElem? (i := 267) (by decide +kernel)⟩
theorem lw_p4 : lw_okq (⟨"VerifiedCode$Reader", "readsHead", "(LVerifiedCode$Program;LVerifiedCode$Method;)Z"⟩, 3) := ⟨⟨by decide +kernel, by decide +kernel⟩, List.mem_of_getElem? (i := 113) (by decide +kernel), List.mem_of_getElem? (i := 270) (by decide +kernel), List.mem_of_getElem? (i := 271) (by decide +kernel)⟩
theorem lw_p5 : lw_okq (⟨"VerifiedCode$Reader", "readsCode", "(LVerifiedCode$Program;LVerifiedCode$Method;)Z"⟩, 3) := ⟨⟨by decide +kernel, by decide +kernel⟩, List.mem_of_getElem? (i := 113) (by decide +kernel), List.mem_of_getElem? (i := 274) (by decide +kernel), List.mem_of_getElem? (i := 275) (by decide +kernel)⟩
theorem lw_p6 : lw_okq (⟨"VerifiedCode$Reader", "readsInstruction", "(LVerifiedCode$Program;LVerifiedCode$Method;I)Z"⟩, 3) := ⟨⟨by decide +kernel, by decide +kernel⟩, List.mem_of_getElem? (i := 113) (by decide +kernel), List.mem_of_getElem? (i := 278) (by decide +kernel), List.mem_of_getElem? (i := 279) (by decide +kernel)⟩
theorem lw_p7 : lw_okq (⟨"VerifiedCode$Reader", "highestOperand", "(LVerifiedCode$Program;LVerifiedCode$Method;II)I"⟩, 3) := ⟨⟨by decide +kernel, by decide +kernel⟩, List.mem_of_getElem? (i := 113) (by decide +kernel), List.mem_of_getElem? (i := 288) (by decide +kernel), List.mem_of_getElem? (i := 289) (by decide +kernel)⟩
theorem lw_p8 : lw_okq (⟨"VerifiedCode$Reader", "readsFrames", "(LVerifiedCode$Program;LVerifiedCode$Method;)Z"⟩, 3) := ⟨⟨by decide +kernel, by decide +kernel⟩, List.mem_of_getElem? (i := 113) (by decide +kernel), List.mem_of_getElem? (i := 295) (by decide +kernel), List.mem_of_getElem? (i := 296) (by decide +kernel)⟩
theorem lw_p9 : lw_okq (⟨"VerifiedCode$Reader", "targetsBegin", "(LVerifiedCode$Program;LVerifiedCode$Method;)Z"⟩, 3) := ⟨⟨by decide +kernel, by decide +kernel⟩, List.mem_of_getElem? (i := 113) (by decide +kernel), List.mem_of_getElem? (i := 299) (by decide +kernel), List.mem_of_getElem? (i := 300) (by decide +kernel)⟩
theorem lw_p10 : lw_okq (⟨"VerifiedCode$Reader", "beginsAt", "(LVerifiedCode$Method;I)Z"⟩, 3) := ⟨⟨by decide +kernel, by decide +kernel⟩, List.mem_of_getElem? (i := 113) (by decide +kernel), List.mem_of_getElem? (i := 315) (by decide +kernel), List.mem_of_getElem? (i := 316) (by decide +kernel)⟩
theorem lw_p11 : lw_okq (⟨"VerifiedCode$Reader", "framesBegin", "(LVerifiedCode$Program;LVerifiedCode$Method;)Z"⟩, 3) := ⟨⟨by decide +kernel, by decide +kernel⟩, List.mem_of_getElem? (i := 113) (by decide +kernel), List.mem_of_getElem? (i := 319) (by decide +kernel), List.mem_of_getElem? (i := 320) (by decide +kernel)⟩
theorem lw_p12 : lw_okq (⟨"java/lang/Throwable", "fillInStackTrace", "(I)Ljava/lang/Throwable;"⟩, 6) := ⟨⟨by decide +kernel, by decide +kernel⟩, List.mem_of_getElem? (i := 386) (by decide +kernel), List.mem_of_getElem? (i := 384) (by decide +kernel), List.mem_of_getElem? (i := 385) (by decide +kernel)⟩
theorem lw_p13 : lw_okq (⟨"VerifiedCode$Checker", "entersFrame", "(LVerifiedCode$Program;LVerifiedCode$Method;I)Z"⟩, 2) := ⟨⟨by decide +kernel, by decide +kernel⟩, List.mem_of_getElem? (i := 131) (by decide +kernel), List.mem_of_getElem? (i := 499) (by decide +kernel), List.mem_of_getElem? (i := 500) (by decide +kernel)⟩
theorem lw_p14 : lw_okq (⟨"VerifiedCode$Checker", "isGoodForFrame", "(LVerifiedCode$Program;LVerifiedCode$Method;I)Z"⟩, 2) := ⟨⟨by decide +kernel, by decide +kernel⟩, List.mem_of_getElem? (i := 131) (by decide +kernel), List.mem_of_getElem? (i := 508) (by decide +kernel), List.mem_of_getElem? (i := 509) (by decide +kernel)⟩
theorem lw_p15 : lw_okq (⟨"VerifiedCode$State", "hasTaken", "(LVerifiedCode$Program;LVerifiedCode$Method;II)Z"⟩, 5) := ⟨⟨by decide +kernel, by decide +kernel⟩, List.mem_of_getElem? (i := 137) (by decide +kernel), List.mem_of_getElem? (i := 547) (by decide +kernel), List.mem_of_getElem? (i := 548) (by decide +kernel)⟩
def lw_privs_1 : List (MethodName × Nat) := [(⟨"VerifiedCode$Reader", "next", "(LVerifiedCode$Program;II)Z"⟩, 3), (⟨"VerifiedCode$Reader", "readsConstants", "(LVerifiedCode$Program;)Z"⟩, 3), (⟨"VerifiedCode$Reader", "nextOnes", "(LVerifiedCode$Program;III)Z"⟩, 3), (⟨"VerifiedCode$Reader", "readsMethod", "(LVerifiedCode$Program;LVerifiedCode$Method;)Z"⟩, 3), (⟨"VerifiedCode$Reader", "readsHead", "(LVerifiedCode$Program;LVerifiedCode$Method;)Z"⟩, 3), (⟨"VerifiedCode$Reader", "readsCode", "(LVerifiedCode$Program;LVerifiedCode$Method;)Z"⟩, 3), (⟨"VerifiedCode$Reader", "readsInstruction", "(LVerifiedCode$Program;LVerifiedCode$Method;I)Z"⟩, 3), (⟨"VerifiedCode$Reader", "highestOperand", "(LVerifiedCode$Program;LVerifiedCode$Method;II)I"⟩, 3), (⟨"VerifiedCode$Reader", "readsFrames", "(LVerifiedCode$Program;LVerifiedCode$Method;)Z"⟩, 3), (⟨"VerifiedCode$Reader", "targetsBegin", "(LVerifiedCode$Program;LVerifiedCode$Method;)Z"⟩, 3), (⟨"VerifiedCode$Reader", "beginsAt", "(LVerifiedCode$Method;I)Z"⟩, 3), (⟨"VerifiedCode$Reader", "framesBegin", "(LVerifiedCode$Program;LVerifiedCode$Method;)Z"⟩, 3), (⟨"java/lang/Throwable", "fillInStackTrace", "(I)Ljava/lang/Throwable;"⟩, 6), (⟨"VerifiedCode$Checker", "entersFrame", "(LVerifiedCode$Program;LVerifiedCode$Method;I)Z"⟩, 2), (⟨"VerifiedCode$Checker", "isGoodForFrame", "(LVerifiedCode$Program;LVerifiedCode$Method;I)Z"⟩, 2), (⟨"VerifiedCode$State", "hasTaken", "(LVerifiedCode$Program;LVerifiedCode$Method;II)Z"⟩, 5)]
theorem lw_r1 : ∀ q ∈ lw_privs_1, lw_okq q := List.forall_mem_cons.mpr ⟨lw_p0, List.forall_mem_cons.mpr ⟨lw_p1, List.forall_mem_cons.mpr ⟨lw_p2, List.forall_mem_cons.mpr ⟨lw_p3, List.forall_mem_cons.mpr ⟨lw_p4, List.forall_mem_cons.mpr ⟨lw_p5, List.forall_mem_cons.mpr ⟨lw_p6, List.forall_mem_cons.mpr ⟨lw_p7, List.forall_mem_cons.mpr ⟨lw_p8, List.forall_mem_cons.mpr ⟨lw_p9, List.forall_mem_cons.mpr ⟨lw_p10, List.forall_mem_cons.mpr ⟨lw_p11, List.forall_mem_cons.mpr ⟨lw_p12, List.forall_mem_cons.mpr ⟨lw_p13, List.forall_mem_cons.mpr ⟨lw_p14, List.forall_mem_cons.mpr ⟨lw_p15, fun _ h => absurd h List.not_mem_nil⟩⟩⟩⟩⟩⟩⟩⟩⟩⟩⟩⟩⟩⟩⟩⟩
theorem lw_p16 : lw_okq (⟨"VerifiedCode$State", "hasPlace", "(LVerifiedCode$Program;LVerifiedCode$Method;I)Z"⟩, 5) := ⟨⟨by decide +kernel, by decide +kernel⟩, List.mem_of_getElem? (i := 137) (by decide +kernel), List.mem_of_getElem? (i := 560) (by decide +kernel), List.mem_of_getElem? (i := 561) (by decide +kernel)⟩
theorem lw_p17 : lw_okq (⟨"VerifiedCode$Checker", "change", "(LVerifiedCode$Program;LVerifiedCode$Method;I)V"⟩, 2) := ⟨⟨by decide +kernel, by decide +kernel⟩, List.mem_of_getElem? (i := 131) (by decide +kernel), List.mem_of_getElem? (i := 585) (by decide +kernel), List.mem_of_getElem? (i := 586) (by decide +kernel)⟩
theorem lw_p18 : lw_okq (⟨"VerifiedCode$Checker", "typePut", "(LVerifiedCode$Program;LVerifiedCode$Method;I)I"⟩, 2) := ⟨⟨by decide +kernel, by decide +kernel⟩, List.mem_of_getElem? (i := 131) (by decide +kernel), List.mem_of_getElem? (i := 625) (by decide +kernel), List.mem_of_getElem? (i := 626) (by decide +kernel)⟩
theorem lw_p19 : lw_okq (⟨"VerifiedCode$Checker", "mayGoToTarget", "(LVerifiedCode$Program;LVerifiedCode$Method;I)Z"⟩, 2) := ⟨⟨by decide +kernel, by decide +kernel⟩, List.mem_of_getElem? (i := 131) (by decide +kernel), List.mem_of_getElem? (i := 630) (by decide +kernel), List.mem_of_getElem? (i := 631) (by decide +kernel)⟩
theorem lw_p20 : lw_okq (⟨"VerifiedCode$Machine", "enter", "(I)V"⟩, 9) := ⟨⟨by decide +kernel, by decide +kernel⟩, List.mem_of_getElem? (i := 170) (by decide +kernel), List.mem_of_getElem? (i := 652) (by decide +kernel), List.mem_of_getElem? (i := 653) (by decide +kernel)⟩
theorem lw_p21 : lw_okq (⟨"VerifiedCode$Machine", "setArgument", "(LVerifiedCode$Program;II)V"⟩, 9) := ⟨⟨by decide +kernel, by decide +kernel⟩, List.mem_of_getElem? (i := 170) (by decide +kernel), List.mem_of_getElem? (i := 657) (by decide +kernel), List.mem_of_getElem? (i := 658) (by decide +kernel)⟩
theorem lw_p22 : lw_okq (⟨"VerifiedCode$Machine", "newRow", "(I)I"⟩, 9) := ⟨⟨by decide +kernel, by decide +kernel⟩, List.mem_of_getElem? (i := 170) (by decide +kernel), List.mem_of_getElem? (i := 663) (by decide +kernel), List.mem_of_getElem? (i := 664) (by decide +kernel)⟩
theorem lw_p23 : lw_okq (⟨"VerifiedCode$Machine", "doOne", "(LVerifiedCode$Program;)I"⟩, 9) := ⟨⟨by decide +kernel, by decide +kernel⟩, List.mem_of_getElem? (i := 170) (by decide +kernel), List.mem_of_getElem? (i := 671) (by decide +kernel), List.mem_of_getElem? (i := 672) (by decide +kernel)⟩
theorem lw_p24 : lw_okq (⟨"VerifiedCode$Machine", "trouble", "(LVerifiedCode$State;I)I"⟩, 9) := ⟨⟨by decide +kernel, by decide +kernel⟩, List.mem_of_getElem? (i := 170) (by decide +kernel), List.mem_of_getElem? (i := 677) (by decide +kernel), List.mem_of_getElem? (i := 678) (by decide +kernel)⟩
theorem lw_p25 : lw_okq (⟨"VerifiedCode$Machine", "troubleOfElement", "(LVerifiedCode$State;I)I"⟩, 9) := ⟨⟨by decide +kernel, by decide +kernel⟩, List.mem_of_getElem? (i := 170) (by decide +kernel), List.mem_of_getElem? (i := 683) (by decide +kernel), List.mem_of_getElem? (i := 684) (by decide +kernel)⟩
theorem lw_p26 : lw_okq (⟨"VerifiedCode$Machine", "leave", "(LVerifiedCode$State;I)I"⟩, 9) := ⟨⟨by decide +kernel, by decide +kernel⟩, List.mem_of_getElem? (i := 170) (by decide +kernel), List.mem_of_getElem? (i := 688) (by decide +kernel), List.mem_of_getElem? (i := 689) (by decide +kernel)⟩
theorem lw_p27 : lw_okq (⟨"VerifiedCode$Machine", "resultOf", "(II)I"⟩, 9) := ⟨⟨by decide +kernel, by decide +kernel⟩, List.mem_of_getElem? (i := 170) (by decide +kernel), List.mem_of_getElem? (i := 694) (by decide +kernel), List.mem_of_getElem? (i := 695) (by decide +kernel)⟩
theorem lw_p28 : lw_okq (⟨"VerifiedCode$Machine", "call", "(LVerifiedCode$Program;I)V"⟩, 9) := ⟨⟨by decide +kernel, by decide +kernel⟩, List.mem_of_getElem? (i := 170) (by decide +kernel), List.mem_of_getElem? (i := 701) (by decide +kernel), List.mem_of_getElem? (i := 702) (by decide +kernel)⟩
theorem lw_p29 : lw_okq (⟨"VerifiedCode$Machine", "goesToTarget", "(LVerifiedCode$State;I)Z"⟩, 9) := ⟨⟨by decide +kernel, by decide +kernel⟩, List.mem_of_getElem? (i := 170) (by decide +kernel), List.mem_of_getElem? (i := 706) (by decide +kernel), List.mem_of_getElem? (i := 707) (by decide +kernel)⟩
theorem lw_p30 : lw_okq (⟨"VerifiedCode$Machine", "holds", "(III)Z"⟩, 9) := ⟨⟨by decide +kernel, by decide +kernel⟩, List.mem_of_getElem? (i := 170) (by decide +kernel), List.mem_of_getElem? (i := 710) (by decide +kernel), List.mem_of_getElem? (i := 711) (by decide +kernel)⟩
theorem lw_p31 : lw_okq (⟨"VerifiedCode$Machine", "doWithOperand", "(LVerifiedCode$State;LVerifiedCode$Program;LVerifiedCode$Method;I)V"⟩, 9) := ⟨⟨by decide +kernel, by decide +kernel⟩, List.mem_of_getElem? (i := 170) (by decide +kernel), List.mem_of_getElem? (i := 715) (by decide +kernel), List.mem_of_getElem? (i := 716) (by decide +kernel)⟩
def lw_privs_2 : List (MethodName × Nat) := [(⟨"VerifiedCode$State", "hasPlace", "(LVerifiedCode$Program;LVerifiedCode$Method;I)Z"⟩, 5), (⟨"VerifiedCode$Checker", "change", "(LVerifiedCode$Program;LVerifiedCode$Method;I)V"⟩, 2), (⟨"VerifiedCode$Checker", "typePut", "(LVerifiedCode$Program;LVerifiedCode$Method;I)I"⟩, 2), (⟨"VerifiedCode$Checker", "mayGoToTarget", "(LVerifiedCode$Program;LVerifiedCode$Method;I)Z"⟩, 2), (⟨"VerifiedCode$Machine", "enter", "(I)V"⟩, 9), (⟨"VerifiedCode$Machine", "setArgument", "(LVerifiedCode$Program;II)V"⟩, 9), (⟨"VerifiedCode$Machine", "newRow", "(I)I"⟩, 9), (⟨"VerifiedCode$Machine", "doOne", "(LVerifiedCode$Program;)I"⟩, 9), (⟨"VerifiedCode$Machine", "trouble", "(LVerifiedCode$State;I)I"⟩, 9), (⟨"VerifiedCode$Machine", "troubleOfElement", "(LVerifiedCode$State;I)I"⟩, 9), (⟨"VerifiedCode$Machine", "leave", "(LVerifiedCode$State;I)I"⟩, 9), (⟨"VerifiedCode$Machine", "resultOf", "(II)I"⟩, 9), (⟨"VerifiedCode$Machine", "call", "(LVerifiedCode$Program;I)V"⟩, 9), (⟨"VerifiedCode$Machine", "goesToTarget", "(LVerifiedCode$State;I)Z"⟩, 9), (⟨"VerifiedCode$Machine", "holds", "(III)Z"⟩, 9), (⟨"VerifiedCode$Machine", "doWithOperand", "(LVerifiedCode$State;LVerifiedCode$Program;LVerifiedCode$Method;I)V"⟩, 9)]
theorem lw_r2 : ∀ q ∈ lw_privs_2, lw_okq q := List.forall_mem_cons.mpr ⟨lw_p16, List.forall_mem_cons.mpr ⟨lw_p17, List.forall_mem_cons.mpr ⟨lw_p18, List.forall_mem_cons.mpr ⟨lw_p19, List.forall_mem_cons.mpr ⟨lw_p20, List.forall_mem_cons.mpr ⟨lw_p21, List.forall_mem_cons.mpr ⟨lw_p22, List.forall_mem_cons.mpr ⟨lw_p23, List.forall_mem_cons.mpr ⟨lw_p24, List.forall_mem_cons.mpr ⟨lw_p25, List.forall_mem_cons.mpr ⟨lw_p26, List.forall_mem_cons.mpr ⟨lw_p27, List.forall_mem_cons.mpr ⟨lw_p28, List.forall_mem_cons.mpr ⟨lw_p29, List.forall_mem_cons.mpr ⟨lw_p30, List.forall_mem_cons.mpr ⟨lw_p31, fun _ h => absurd h List.not_mem_nil⟩⟩⟩⟩⟩⟩⟩⟩⟩⟩⟩⟩⟩⟩⟩⟩
theorem lw_p32 : lw_okq (⟨"VerifiedCode$Machine", "doAlone", "(LVerifiedCode$State;I)V"⟩, 9) := ⟨⟨by decide +kernel, by decide +kernel⟩, List.mem_of_getElem? (i := 170) (by decide +kernel), List.mem_of_getElem? (i := 729) (by decide +kernel), List.mem_of_getElem? (i := 730) (by decide +kernel)⟩
theorem lw_p33 : lw_okq (⟨"VerifiedCode$Machine", "storeElement", "(LVerifiedCode$State;)V"⟩, 9) := ⟨⟨by decide +kernel, by decide +kernel⟩, List.mem_of_getElem? (i := 170) (by decide +kernel), List.mem_of_getElem? (i := 735) (by decide +kernel), List.mem_of_getElem? (i := 736) (by decide +kernel)⟩
theorem lw_p34 : lw_okq (⟨"VerifiedCode$Machine", "reckoned", "(III)I"⟩, 9) := ⟨⟨by decide +kernel, by decide +kernel⟩, List.mem_of_getElem? (i := 170) (by decide +kernel), List.mem_of_getElem? (i := 739) (by decide +kernel), List.mem_of_getElem? (i := 740) (by decide +kernel)⟩
theorem lw_p35 : lw_okq (⟨"VerifiedCodeModel", "skip", "(III)V"⟩, 28) := ⟨⟨by decide +kernel, by decide +kernel⟩, List.mem_of_getElem? (i := 743) (by decide +kernel), List.mem_of_getElem? (i := 865) (by decide +kernel), List.mem_of_getElem? (i := 866) (by decide +kernel)⟩
theorem lw_p36 : lw_okq (⟨"VerifiedCodeModel", "next", "(II)I"⟩, 28) := ⟨⟨by decide +kernel, by decide +kernel⟩, List.mem_of_getElem? (i := 743) (by decide +kernel), List.mem_of_getElem? (i := 869) (by decide +kernel), List.mem_of_getElem? (i := 870) (by decide +kernel)⟩
theorem lw_p37 : lw_okq (⟨"VerifiedCodeModel", "readMethod", "(II)V"⟩, 28) := ⟨⟨by decide +kernel, by decide +kernel⟩, List.mem_of_getElem? (i := 743) (by decide +kernel), List.mem_of_getElem? (i := 873) (by decide +kernel), List.mem_of_getElem? (i := 874) (by decide +kernel)⟩
theorem lw_p38 : lw_okq (⟨"VerifiedCodeModel", "readInstruction", "(IIII)V"⟩, 28) := ⟨⟨by decide +kernel, by decide +kernel⟩, List.mem_of_getElem? (i := 743) (by decide +kernel), List.mem_of_getElem? (i := 877) (by decide +kernel), List.mem_of_getElem? (i := 878) (by decide +kernel)⟩
theorem lw_p39 : lw_okq (⟨"VerifiedCodeModel", "begins", "(III)Z"⟩, 28) := ⟨⟨by decide +kernel, by decide +kernel⟩, List.mem_of_getElem? (i := 743) (by decide +kernel), List.mem_of_getElem? (i := 893) (by decide +kernel), List.mem_of_getElem? (i := 894) (by decide +kernel)⟩
theorem lw_p40 : lw_okq (⟨"VerifiedCodeModel", "targetsFit", "(II)Z"⟩, 28) := ⟨⟨by decide +kernel, by decide +kernel⟩, List.mem_of_getElem? (i := 743) (by decide +kernel), List.mem_of_getElem? (i := 897) (by decide +kernel), List.mem_of_getElem? (i := 898) (by decide +kernel)⟩
theorem lw_p41 : lw_okq (⟨"VerifiedCodeModel", "methodCount", "()I"⟩, 28) := ⟨⟨by decide +kernel, by decide +kernel⟩, List.mem_of_getElem? (i := 743) (by decide +kernel), List.mem_of_getElem? (i := 913) (by decide +kernel), List.mem_of_getElem? (i := 914) (by decide +kernel)⟩
theorem lw_p42 : lw_okq (⟨"VerifiedCodeModel", "lackOfMethod", "(I)I"⟩, 28) := ⟨⟨by decide +kernel, by decide +kernel⟩, List.mem_of_getElem? (i := 743) (by decide +kernel), List.mem_of_getElem? (i := 921) (by decide +kernel), List.mem_of_getElem? (i := 922) (by decide +kernel)⟩
theorem lw_p43 : lw_okq (⟨"VerifiedCodeModel", "open", "(I)V"⟩, 28) := ⟨⟨by decide +kernel, by decide +kernel⟩, List.mem_of_getElem? (i := 743) (by decide +kernel), List.mem_of_getElem? (i := 925) (by decide +kernel), List.mem_of_getElem? (i := 926) (by decide +kernel)⟩
theorem lw_p44 : lw_okq (⟨"VerifiedCodeModel", "methodAt", "(I)I"⟩, 28) := ⟨⟨by decide +kernel, by decide +kernel⟩, List.mem_of_getElem? (i := 743) (by decide +kernel), List.mem_of_getElem? (i := 929) (by decide +kernel), List.mem_of_getElem? (i := 930) (by decide +kernel)⟩
theorem lw_p45 : lw_okq (⟨"VerifiedCodeModel", "codeOf", "(I)I"⟩, 28) := ⟨⟨by decide +kernel, by decide +kernel⟩, List.mem_of_getElem? (i := 743) (by decide +kernel), List.mem_of_getElem? (i := 933) (by decide +kernel), List.mem_of_getElem? (i := 934) (by decide +kernel)⟩
theorem lw_p46 : lw_okq (⟨"VerifiedCodeModel", "lengthOf", "(I)I"⟩, 28) := ⟨⟨by decide +kernel, by decide +kernel⟩, List.mem_of_getElem? (i := 743) (by decide +kernel), List.mem_of_getElem? (i := 937) (by decide +kernel), List.mem_of_getElem? (i := 938) (by decide +kernel)⟩
theorem lw_p47 : lw_okq (⟨"VerifiedCodeModel", "placesOf", "(I)I"⟩, 28) := ⟨⟨by decide +kernel, by decide +kernel⟩, List.mem_of_getElem? (i := 743) (by decide +kernel), List.mem_of_getElem? (i := 941) (by decide +kernel), List.mem_of_getElem? (i := 942) (by decide +kernel)⟩
def lw_privs_3 : List (MethodName × Nat) := [(⟨"VerifiedCode$Machine", "doAlone", "(LVerifiedCode$State;I)V"⟩, 9), (⟨"VerifiedCode$Machine", "storeElement", "(LVerifiedCode$State;)V"⟩, 9), (⟨"VerifiedCode$Machine", "reckoned", "(III)I"⟩, 9), (⟨"VerifiedCodeModel", "skip", "(III)V"⟩, 28), (⟨"VerifiedCodeModel", "next", "(II)I"⟩, 28), (⟨"VerifiedCodeModel", "readMethod", "(II)V"⟩, 28), (⟨"VerifiedCodeModel", "readInstruction", "(IIII)V"⟩, 28), (⟨"VerifiedCodeModel", "begins", "(III)Z"⟩, 28), (⟨"VerifiedCodeModel", "targetsFit", "(II)Z"⟩, 28), (⟨"VerifiedCodeModel", "methodCount", "()I"⟩, 28), (⟨"VerifiedCodeModel", "lackOfMethod", "(I)I"⟩, 28), (⟨"VerifiedCodeModel", "open", "(I)V"⟩, 28), (⟨"VerifiedCodeModel", "methodAt", "(I)I"⟩, 28), (⟨"VerifiedCodeModel", "codeOf", "(I)I"⟩, 28), (⟨"VerifiedCodeModel", "lengthOf", "(I)I"⟩, 28), (⟨"VerifiedCodeModel", "placesOf", "(I)I"⟩, 28)]
theorem lw_r3 : ∀ q ∈ lw_privs_3, lw_okq q := List.forall_mem_cons.mpr ⟨lw_p32, List.forall_mem_cons.mpr ⟨lw_p33, List.forall_mem_cons.mpr ⟨lw_p34, List.forall_mem_cons.mpr ⟨lw_p35, List.forall_mem_cons.mpr ⟨lw_p36, List.forall_mem_cons.mpr ⟨lw_p37, List.forall_mem_cons.mpr ⟨lw_p38, List.forall_mem_cons.mpr ⟨lw_p39, List.forall_mem_cons.mpr ⟨lw_p40, List.forall_mem_cons.mpr ⟨lw_p41, List.forall_mem_cons.mpr ⟨lw_p42, List.forall_mem_cons.mpr ⟨lw_p43, List.forall_mem_cons.mpr ⟨lw_p44, List.forall_mem_cons.mpr ⟨lw_p45, List.forall_mem_cons.mpr ⟨lw_p46, List.forall_mem_cons.mpr ⟨lw_p47, fun _ h => absurd h List.not_mem_nil⟩⟩⟩⟩⟩⟩⟩⟩⟩⟩⟩⟩⟩⟩⟩⟩
theorem lw_p48 : lw_okq (⟨"VerifiedCodeModel", "passes", "(I)Z"⟩, 28) := ⟨⟨by decide +kernel, by decide +kernel⟩, List.mem_of_getElem? (i := 743) (by decide +kernel), List.mem_of_getElem? (i := 945) (by decide +kernel), List.mem_of_getElem? (i := 946) (by decide +kernel)⟩
theorem lw_p49 : lw_okq (⟨"VerifiedCodeModel", "arrive", "(I)V"⟩, 28) := ⟨⟨by decide +kernel, by decide +kernel⟩, List.mem_of_getElem? (i := 743) (by decide +kernel), List.mem_of_getElem? (i := 949) (by decide +kernel), List.mem_of_getElem? (i := 950) (by decide +kernel)⟩
theorem lw_p50 : lw_okq (⟨"VerifiedCodeModel", "begin", "(I)V"⟩, 28) := ⟨⟨by decide +kernel, by decide +kernel⟩, List.mem_of_getElem? (i := 743) (by decide +kernel), List.mem_of_getElem? (i := 953) (by decide +kernel), List.mem_of_getElem? (i := 954) (by decide +kernel)⟩
theorem lw_p51 : lw_okq (⟨"VerifiedCodeModel", "frame", "(IZ)I"⟩, 28) := ⟨⟨by decide +kernel, by decide +kernel⟩, List.mem_of_getElem? (i := 743) (by decide +kernel), List.mem_of_getElem? (i := 957) (by decide +kernel), List.mem_of_getElem? (i := 958) (by decide +kernel)⟩
theorem lw_p52 : lw_okq (⟨"VerifiedCodeModel", "become", "(I)V"⟩, 28) := ⟨⟨by decide +kernel, by decide +kernel⟩, List.mem_of_getElem? (i := 743) (by decide +kernel), List.mem_of_getElem? (i := 961) (by decide +kernel), List.mem_of_getElem? (i := 962) (by decide +kernel)⟩
theorem lw_p53 : lw_okq (⟨"VerifiedCodeModel", "pass", "(I)V"⟩, 28) := ⟨⟨by decide +kernel, by decide +kernel⟩, List.mem_of_getElem? (i := 743) (by decide +kernel), List.mem_of_getElem? (i := 965) (by decide +kernel), List.mem_of_getElem? (i := 966) (by decide +kernel)⟩
theorem lw_p54 : lw_okq (⟨"VerifiedCodeModel", "takes", "(I)I"⟩, 28) := ⟨⟨by decide +kernel, by decide +kernel⟩, List.mem_of_getElem? (i := 743) (by decide +kernel), List.mem_of_getElem? (i := 969) (by decide +kernel), List.mem_of_getElem? (i := 970) (by decide +kernel)⟩
theorem lw_p55 : lw_okq (⟨"VerifiedCodeModel", "needs", "(II)I"⟩, 28) := ⟨⟨by decide +kernel, by decide +kernel⟩, List.mem_of_getElem? (i := 743) (by decide +kernel), List.mem_of_getElem? (i := 973) (by decide +kernel), List.mem_of_getElem? (i := 974) (by decide +kernel)⟩
theorem lw_p56 : lw_okq (⟨"VerifiedCodeModel", "gives", "(I)I"⟩, 28) := ⟨⟨by decide +kernel, by decide +kernel⟩, List.mem_of_getElem? (i := 743) (by decide +kernel), List.mem_of_getElem? (i := 980) (by decide +kernel), List.mem_of_getElem? (i := 981) (by decide +kernel)⟩
theorem lw_p57 : lw_okq (⟨"VerifiedCodeModel", "returnsOf", "(I)I"⟩, 28) := ⟨⟨by decide +kernel, by decide +kernel⟩, List.mem_of_getElem? (i := 743) (by decide +kernel), List.mem_of_getElem? (i := 984) (by decide +kernel), List.mem_of_getElem? (i := 985) (by decide +kernel)⟩
theorem lw_p58 : lw_okq (⟨"VerifiedCodeModel", "push", "(III)V"⟩, 28) := ⟨⟨by decide +kernel, by decide +kernel⟩, List.mem_of_getElem? (i := 743) (by decide +kernel), List.mem_of_getElem? (i := 991) (by decide +kernel), List.mem_of_getElem? (i := 992) (by decide +kernel)⟩
theorem lw_p59 : lw_okq (⟨"VerifiedCodeModel", "fits", "(I)Z"⟩, 28) := ⟨⟨by decide +kernel, by decide +kernel⟩, List.mem_of_getElem? (i := 743) (by decide +kernel), List.mem_of_getElem? (i := 995) (by decide +kernel), List.mem_of_getElem? (i := 996) (by decide +kernel)⟩
theorem lw_p60 : lw_okq (⟨"VerifiedCodeModel", "can", "(II)Z"⟩, 28) := ⟨⟨by decide +kernel, by decide +kernel⟩, List.mem_of_getElem? (i := 743) (by decide +kernel), List.mem_of_getElem? (i := 1002) (by decide +kernel), List.mem_of_getElem? (i := 1003) (by decide +kernel)⟩
theorem lw_p61 : lw_okq (⟨"VerifiedCodeModel", "target", "(I)I"⟩, 28) := ⟨⟨by decide +kernel, by decide +kernel⟩, List.mem_of_getElem? (i := 743) (by decide +kernel), List.mem_of_getElem? (i := 1006) (by decide +kernel), List.mem_of_getElem? (i := 1007) (by decide +kernel)⟩
theorem lw_p62 : lw_okq (⟨"VerifiedCodeModel", "argue", "(II)V"⟩, 28) := ⟨⟨by decide +kernel, by decide +kernel⟩, List.mem_of_getElem? (i := 743) (by decide +kernel), List.mem_of_getElem? (i := 1014) (by decide +kernel), List.mem_of_getElem? (i := 1015) (by decide +kernel)⟩
theorem lw_p63 : lw_okq (⟨"VerifiedCodeModel", "makeRow", "(I)I"⟩, 28) := ⟨⟨by decide +kernel, by decide +kernel⟩, List.mem_of_getElem? (i := 743) (by decide +kernel), List.mem_of_getElem? (i := 1018) (by decide +kernel), List.mem_of_getElem? (i := 1019) (by decide +kernel)⟩
def lw_privs_4 : List (MethodName × Nat) := [(⟨"VerifiedCodeModel", "passes", "(I)Z"⟩, 28), (⟨"VerifiedCodeModel", "arrive", "(I)V"⟩, 28), (⟨"VerifiedCodeModel", "begin", "(I)V"⟩, 28), (⟨"VerifiedCodeModel", "frame", "(IZ)I"⟩, 28), (⟨"VerifiedCodeModel", "become", "(I)V"⟩, 28), (⟨"VerifiedCodeModel", "pass", "(I)V"⟩, 28), (⟨"VerifiedCodeModel", "takes", "(I)I"⟩, 28), (⟨"VerifiedCodeModel", "needs", "(II)I"⟩, 28), (⟨"VerifiedCodeModel", "gives", "(I)I"⟩, 28), (⟨"VerifiedCodeModel", "returnsOf", "(I)I"⟩, 28), (⟨"VerifiedCodeModel", "push", "(III)V"⟩, 28), (⟨"VerifiedCodeModel", "fits", "(I)Z"⟩, 28), (⟨"VerifiedCodeModel", "can", "(II)Z"⟩, 28), (⟨"VerifiedCodeModel", "target", "(I)I"⟩, 28), (⟨"VerifiedCodeModel", "argue", "(II)V"⟩, 28), (⟨"VerifiedCodeModel", "makeRow", "(I)I"⟩, 28)]
theorem lw_r4 : ∀ q ∈ lw_privs_4, lw_okq q := List.forall_mem_cons.mpr ⟨lw_p48, List.forall_mem_cons.mpr ⟨lw_p49, List.forall_mem_cons.mpr ⟨lw_p50, List.forall_mem_cons.mpr ⟨lw_p51, List.forall_mem_cons.mpr ⟨lw_p52, List.forall_mem_cons.mpr ⟨lw_p53, List.forall_mem_cons.mpr ⟨lw_p54, List.forall_mem_cons.mpr ⟨lw_p55, List.forall_mem_cons.mpr ⟨lw_p56, List.forall_mem_cons.mpr ⟨lw_p57, List.forall_mem_cons.mpr ⟨lw_p58, List.forall_mem_cons.mpr ⟨lw_p59, List.forall_mem_cons.mpr ⟨lw_p60, List.forall_mem_cons.mpr ⟨lw_p61, List.forall_mem_cons.mpr ⟨lw_p62, List.forall_mem_cons.mpr ⟨lw_p63, fun _ h => absurd h List.not_mem_nil⟩⟩⟩⟩⟩⟩⟩⟩⟩⟩⟩⟩⟩⟩⟩⟩
theorem lw_p64 : lw_okq (⟨"VerifiedCodeModel", "step", "()I"⟩, 28) := ⟨⟨by decide +kernel, by decide +kernel⟩, List.mem_of_getElem? (i := 743) (by decide +kernel), List.mem_of_getElem? (i := 1022) (by decide +kernel), List.mem_of_getElem? (i := 1023) (by decide +kernel)⟩
theorem lw_p65 : lw_okq (⟨"VerifiedCodeModel", "wrong", "(II)I"⟩, 28) := ⟨⟨by decide +kernel, by decide +kernel⟩, List.mem_of_getElem? (i := 743) (by decide +kernel), List.mem_of_getElem? (i := 1026) (by decide +kernel), List.mem_of_getElem? (i := 1027) (by decide +kernel)⟩
theorem lw_p66 : lw_okq (⟨"VerifiedCodeModel", "enter", "(II)V"⟩, 28) := ⟨⟨by decide +kernel, by decide +kernel⟩, List.mem_of_getElem? (i := 743) (by decide +kernel), List.mem_of_getElem? (i := 1030) (by decide +kernel), List.mem_of_getElem? (i := 1031) (by decide +kernel)⟩
theorem lw_p67 : lw_okq (⟨"VerifiedCodeModel", "leave", "(III)I"⟩, 28) := ⟨⟨by decide +kernel, by decide +kernel⟩, List.mem_of_getElem? (i := 743) (by decide +kernel), List.mem_of_getElem? (i := 1034) (by decide +kernel), List.mem_of_getElem? (i := 1035) (by decide +kernel)⟩
theorem lw_p68 : lw_okq (⟨"VerifiedCodeModel", "goes", "(II)Z"⟩, 28) := ⟨⟨by decide +kernel, by decide +kernel⟩, List.mem_of_getElem? (i := 743) (by decide +kernel), List.mem_of_getElem? (i := 1038) (by decide +kernel), List.mem_of_getElem? (i := 1039) (by decide +kernel)⟩
theorem lw_p69 : lw_okq (⟨"VerifiedCodeModel", "work", "(IIII)V"⟩, 28) := ⟨⟨by decide +kernel, by decide +kernel⟩, List.mem_of_getElem? (i := 743) (by decide +kernel), List.mem_of_getElem? (i := 1042) (by decide +kernel), List.mem_of_getElem? (i := 1043) (by decide +kernel)⟩
theorem lw_p70 : lw_okq (⟨"VerifiedCodeModel", "value", "(IIII)I"⟩, 28) := ⟨⟨by decide +kernel, by decide +kernel⟩, List.mem_of_getElem? (i := 743) (by decide +kernel), List.mem_of_getElem? (i := 1049) (by decide +kernel), List.mem_of_getElem? (i := 1050) (by decide +kernel)⟩
theorem lw_p71 : lw_okq (⟨"VerifiedCodeModel", "constant", "(I)I"⟩, 28) := ⟨⟨by decide +kernel, by decide +kernel⟩, List.mem_of_getElem? (i := 743) (by decide +kernel), List.mem_of_getElem? (i := 1053) (by decide +kernel), List.mem_of_getElem? (i := 1054) (by decide +kernel)⟩
def lw_privs_5 : List (MethodName × Nat) := [(⟨"VerifiedCodeModel", "step", "()I"⟩, 28), (⟨"VerifiedCodeModel", "wrong", "(II)I"⟩, 28), (⟨"VerifiedCodeModel", "enter", "(II)V"⟩, 28), (⟨"VerifiedCodeModel", "leave", "(III)I"⟩, 28), (⟨"VerifiedCodeModel", "goes", "(II)Z"⟩, 28), (⟨"VerifiedCodeModel", "work", "(IIII)V"⟩, 28), (⟨"VerifiedCodeModel", "value", "(IIII)I"⟩, 28), (⟨"VerifiedCodeModel", "constant", "(I)I"⟩, 28)]
theorem lw_r5 : ∀ q ∈ lw_privs_5, lw_okq q := List.forall_mem_cons.mpr ⟨lw_p64, List.forall_mem_cons.mpr ⟨lw_p65, List.forall_mem_cons.mpr ⟨lw_p66, List.forall_mem_cons.mpr ⟨lw_p67, List.forall_mem_cons.mpr ⟨lw_p68, List.forall_mem_cons.mpr ⟨lw_p69, List.forall_mem_cons.mpr ⟨lw_p70, List.forall_mem_cons.mpr ⟨lw_p71, fun _ h => absurd h List.not_mem_nil⟩⟩⟩⟩⟩⟩⟩⟩
def lw_privs : List (MethodName × Nat) := lw_privs_1 ++ (lw_privs_2 ++ (lw_privs_3 ++ (lw_privs_4 ++ (lw_privs_5))))
def lw_tbl : List Cond := k2_sels lw_privs ++ tables_1
theorem lw_privs_ok : ∀ q ∈ lw_privs, lw_okq q := by
  show ∀ q ∈ lw_privs_1 ++ (lw_privs_2 ++ (lw_privs_3 ++ (lw_privs_4 ++ (lw_privs_5)))), lw_okq q
  exact List.forall_mem_append.mpr ⟨lw_r1, List.forall_mem_append.mpr ⟨lw_r2, List.forall_mem_append.mpr ⟨lw_r3, List.forall_mem_append.mpr ⟨lw_r4, lw_r5⟩⟩⟩⟩
end
section
/-! ONE WORLD: cells by number (place in the list), addresses by a map, shapes by a table; the ints of all cells in one memory.
A shape: an array (kind 0: ints, 1: booleans, k + 2: references, by the numbers that they refer to; how many), or an object (class number; fields: none: an int of the memory, some none: a reference whose number the memory holds, some (some j): always cell j). -/
abbrev jj_Mem : Type := Nat → Nat → Int32
abbrev jj_Sh : Type := (Nat × Nat × (Nat → Nat)) ⊕ (Nat × List (Option (Option Nat)))
/-- shapes, how many cells, classes, array kinds' types, words -/
abbrev jj_Y : Type := (Nat → jj_Sh) × Nat × List vw_C × List FieldType × List Cond
/-- launch, addresses, classes' and slots' numbers, array classes' numbers, the size of the heap from which on all is ours, but for one address -/
abbrev jj_X : Type := Launch × (Nat → Nat) × va_G × (Nat → ClassId) × (Nat × Nat)
/-- a method: name, code, locals, what it returns -/
abbrev jj_M : Type := MethodName × ByteArray × Nat × Option FieldType
def jj_set (x : jj_Mem) (i k : Nat) (v : Int32) : jj_Mem := va_up x i (upd (x i) k v)
theorem jj_set_get (x : jj_Mem) (i k : Nat) (v : Int32) (j l : Nat) : jj_set x i k v j l = if j = i ∧ l = k then v else x j l := by
  unfold jj_set va_up
  by_cases h : j = i
  · subst h
    by_cases h2 : l = k
    · subst h2; simp [upd]
    · simp [upd, h2]
  · simp [h]
def jj_v (X : jj_X) (v : Value) : Value := match v with
  | .ref i => .ref (X.2.1 i)
  | v => v
theorem jj_v_cat (X : jj_X) (v : Value) : (jj_v X v).category = v.category := by cases v <;> rfl
def jj_fv (X : jj_X) (f : Option (Option Nat)) (v : Int32) : Value := match f with
  | none => .int v
  | some none => .ref (X.2.1 v.toNatClampNeg)
  | some (some j) => .ref (X.2.1 j)
def jj_fl (X : jj_X) (y : Nat → Int32) : Nat → List (Option (Option Nat)) → List Value
  | _, [] => []
  | k, f :: r => jj_fv X f (y k) :: jj_fl X y (k + 1) r
theorem jj_fl_len (X : jj_X) (y : Nat → Int32) : ∀ (fs : List (Option (Option Nat))) (k0 : Nat), (jj_fl X y k0 fs).length = fs.length
  | [], _ => rfl
  | f :: r, k0 => by simp [jj_fl, jj_fl_len X y r (k0 + 1)]
theorem jj_fl_get (X : jj_X) (y : Nat → Int32) : ∀ (fs : List (Option (Option Nat))) (k0 k : Nat) (f : Option (Option Nat)), fs[k]? = some f → (jj_fl X y k0 fs)[k]? = some (jj_fv X f (y (k0 + k)))
  | [], _, k, f, h => by simp at h
  | g :: r, k0, 0, f, h => by
    simp at h
    subst h
    simp [jj_fl]
  | g :: r, k0, k + 1, f, h => by
    rw [List.getElem?_cons_succ] at h
    have := jj_fl_get X y r (k0 + 1) k f h
    simp only [jj_fl, List.getElem?_cons_succ]
    rw [this]
    congr 3
    omega
theorem jj_fl_out (X : jj_X) (y : Nat → Int32) (k : Nat) (v : Int32) : ∀ (fs : List (Option (Option Nat))) (k0 : Nat), k < k0 → jj_fl X (upd y k v) k0 fs = jj_fl X y k0 fs
  | [], _, _ => rfl
  | f :: r, k0, h => by
    have e : upd y k v k0 = y k0 := by unfold upd; rw [if_neg (by omega)]
    simp only [jj_fl, e, jj_fl_out X y k v r (k0 + 1) (by omega)]
theorem jj_fl_set (X : jj_X) (y : Nat → Int32) (v : Int32) : ∀ (fs : List (Option (Option Nat))) (k0 k : Nat) (f : Option (Option Nat)), fs[k]? = some f → (jj_fl X y k0 fs).set k (jj_fv X f v) = jj_fl X (upd y (k0 + k) v) k0 fs
  | [], _, k, f, h => by simp at h
  | g :: r, k0, 0, f, h => by
    simp at h
    subst h
    have e : upd y (k0 + 0) v k0 = v := by unfold upd; rw [if_pos (by omega)]
    simp only [jj_fl, List.set_cons_zero, e]
    rw [jj_fl_out X y (k0 + 0) v r (k0 + 1) (by omega)]
  | g :: r, k0, k + 1, f, h => by
    rw [List.getElem?_cons_succ] at h
    have e : upd y (k0 + (k + 1)) v k0 = y k0 := by unfold upd; rw [if_neg (by omega)]
    have e2 : k0 + (k + 1) = k0 + 1 + k := by omega
    simp only [jj_fl, List.set_cons_succ, e]
    rw [jj_fl_set X y v r (k0 + 1) k f h, e2]
def jj_e (X : jj_X) (sh : jj_Sh) (y : Nat → Int32) : va_E := match sh with
  | .inl (0, n, _) => .inl (X.2.2.2.1 0, n, .inl y)
  | .inl (1, n, _) => .inl (X.2.2.2.1 1, n, .inl y)
  | .inl (k + 2, n, f) => .inl (X.2.2.2.1 (k + 2), n, .inr (.inr (.inr (.inr (fun j => some (X.2.1 (f j)))))))
  | .inr (ci, fs) => .inr (ci, jj_fl X y 0 fs)
def jj_ws (Y : jj_Y) (X : jj_X) (x : jj_Mem) : va_W := (List.range Y.2.1).map (fun i => (X.2.1 i, jj_e X (Y.1 i) (x i)))
theorem jj_ws_get {Y : jj_Y} {X : jj_X} {x : jj_Mem} {i : Nat} (h : i < Y.2.1) : (jj_ws Y X x)[i]? = some (X.2.1 i, jj_e X (Y.1 i) (x i)) := by
  simp [jj_ws, h]
theorem jj_ws_of {Y : jj_Y} {X : jj_X} {x : jj_Mem} {i : Nat} {q : Nat × va_E} (h : (jj_ws Y X x)[i]? = some q) : i < Y.2.1 ∧ q = (X.2.1 i, jj_e X (Y.1 i) (x i)) := by
  have hl : i < Y.2.1 := by
    have := (List.getElem?_eq_some_iff.mp h).1
    simpa [jj_ws] using this
  rw [jj_ws_get hl] at h
  exact ⟨hl, (Option.some.inj h).symm⟩
theorem jj_ws_set {Y : jj_Y} {X : jj_X} {x : jj_Mem} {i : Nat} (h : i < Y.2.1) (y : Nat → Int32) : (jj_ws Y X x).set i (X.2.1 i, jj_e X (Y.1 i) y) = jj_ws Y X (va_up x i y) := by
  apply List.ext_getElem?
  intro j
  by_cases hj : j = i
  · subst hj
    rw [List.getElem?_set_self (by simpa [jj_ws] using h), jj_ws_get h, va_up_self]
  · rw [List.getElem?_set_ne (Ne.symm hj)]
    by_cases hl : j < Y.2.1
    · rw [jj_ws_get hl, jj_ws_get hl, va_up_ne _ _ hj]
    · rw [List.getElem?_eq_none (by simp [jj_ws]; omega), List.getElem?_eq_none (by simp [jj_ws]; omega)]
def jj_tys (Y : jj_Y) (X : jj_X) : List (ClassId × FieldType) := (List.range Y.2.2.2.1.length).map (fun k => (X.2.2.2.1 k, Y.2.2.2.1.getD k .int))
theorem jj_tys_get {Y : jj_Y} {X : jj_X} {k : Nat} {ty : FieldType} (h : Y.2.2.2.1[k]? = some ty) : (jj_tys Y X)[k]? = some (X.2.2.2.1 k, ty) := by
  have hl := (List.getElem?_eq_some_iff.mp h).1
  simp only [jj_tys, List.getElem?_map, List.getElem?_range hl, Option.map_some, List.getD_eq_getElem?_getD, h]
  rfl
def jj_A (X : jj_X) : Nat → Prop := fun q => X.2.2.2.2.1 ≤ q ∧ q ≠ X.2.2.2.2.2
def jj_hz (X : jj_X) (n : Nat) : Prop := X.2.2.2.2.1 ≤ n ∧ X.2.2.2.2.2 < n
theorem jj_hz.mono {X : jj_X} {n m : Nat} (h : jj_hz X n) (hm : n ≤ m) : jj_hz X m := ⟨Nat.le_trans h.1 hm, Nat.lt_of_lt_of_le h.2 hm⟩
def jj_ok (Y : jj_Y) (X : jj_X) : Prop := (∀ i j, i < Y.2.1 → j < Y.2.1 → X.2.1 i = X.2.1 j → i = j) ∧ ∀ i, i < Y.2.1 → jj_A X (X.2.1 i)
theorem jj_D {Y : jj_Y} {X : jj_X} (h : jj_ok Y X) (x : jj_Mem) : va_D (jj_A X) (jj_ws Y X x) := by
  refine ⟨fun i j p q hi hj e => ?_, fun k q hk => ?_⟩
  · obtain ⟨h1, rfl⟩ := jj_ws_of hi
    obtain ⟨h2, rfl⟩ := jj_ws_of hj
    exact h.1 i j h1 h2 e
  · obtain ⟨h1, rfl⟩ := jj_ws_of hk
    exact h.2 k h1
theorem jj_wrefl (s : State) : s.WarmedH s.vm := ⟨rfl, rfl, fun d k h => ⟨k, h, rfl, rfl, fun i => Or.inl rfl, Or.inl ⟨rfl, rfl⟩⟩⟩
/-- words that hold in a state and in all that come of it -/
def jj_wd (ws : List Cond) (U : State) : Prop := ∀ w ∈ ws, ∀ (a : Array Value) (V : State), U.WarmedH V.vm → w.before a V = true
theorem jj_wd.moved {ws : List Cond} {s U : State} (hW : s.WarmedH U.vm) (h : jj_wd ws s) : jj_wd ws U := fun w hw a V hV => h w hw a V (State.WarmedH.trans hW hV)
def jj_fr (Y : jj_Y) (X : jj_X) (d : Nat) (M : jj_M) (p : Program) (R : Room) (s : State) (m : MethodId) (args : Array Value) (meth : Method) (c : Code) : Prop :=
  p.tables.exec = Jvm.exec ∧ c.code = M.2.1 ∧ c.maxLocals = M.2.2.1 ∧ s.vm.findClass M.1.cls = some m.cls ∧ meth.sig.returnType = M.2.2.2 ∧ meth.locks = false ∧ jj_wd Y.2.2.2.2 s ∧ va_K X.2.2.1 Y.2.2.1 (jj_tys Y X) s ∧ d ≤ R.frames ∧ 40 * d ≤ R.locals ∧ jj_ok Y X ∧ jj_hz X s.heap.size ∧ (∀ w ∈ Y.2.2.2.2, w.before args s = true)
def jj_in (Y : jj_Y) (X : jj_X) (x : jj_Mem) (U : State) : Prop := va_P X.2.2.1 Y.2.2.1 (jj_ws Y X x) U.heap ∧ va_K X.2.2.1 Y.2.2.1 (jj_tys Y X) U ∧ jj_wd Y.2.2.2.2 U ∧ jj_hz X U.heap.size ∧ jj_ok Y X
def jj_Q (Y : jj_Y) (X : jj_X) (post : Option Value → jj_Mem → Prop) : Array Value → State → Outcome → State → Prop := fun _ st oc t =>
  (∃ (r : Option Value) (x : jj_Mem), oc = .returned (r.map (jj_v X)) ∧ post r x ∧ va_P X.2.2.1 Y.2.2.1 (jj_ws Y X x) t.heap ∧ va_K X.2.2.1 Y.2.2.1 (jj_tys Y X) t) ∧ va_F (jj_A X) st t
def jj_has (X : jj_X) (ls : Array Slot) (nL : Nat) (lo : List (Option Value)) : Prop := ls.size = nL ∧ lv_wf ls ∧ ∀ (i : Nat) (v : Value), lo[i]? = some (some v) → ls[i]? = some (.val (jj_v X v))
/-- THE JUDGEMENT: a frame of method M at pc with these locals and this stack, the memory x: it comes to its return, with post -/
def jj_J (Y : jj_Y) (X : jj_X) (d : Nat) (M : jj_M) (pc : Nat) (lo : List (Option Value)) (st : List Value) (x : jj_Mem) (post : Option Value → jj_Mem → Prop) : Prop :=
  ∀ (p : Program) (e : Env) (R : Room) (s : State) (m : MethodId) (args : Array Value) (below : List Frame) (meth : Method) (c : Code), jj_fr Y X d M p R s m args meth c →
    ∀ (H : Heap) (locs : List Loc) (ls : Array Slot), va_P X.2.2.1 Y.2.2.1 (jj_ws Y X x) H → va_S (jj_A X) s.heap H locs → jj_has X ls M.2.2.1 lo →
      W p X.1 e R s m args below meth c H locs 0 0 (MQ below (jj_Q Y X post) args s 0 0 (jj_A X)) (F0 m pc ls (st.map (jj_v X)))
/-- a method's contract -/
def jj_Met (Y : jj_Y) (X : jj_X) (d : Nat) (M : jj_M) (as : List Value) (x : jj_Mem) (post : Option Value → jj_Mem → Prop) : Prop :=
  Met X.1 M.1 [.code M.1 M.2.1 M.2.2.1 M.2.2.2] ({ frames := d, cells := 0, slots := 0, locals := 40 * d }) (va_Pc (as.map (jj_v X)) (jj_in Y X x)) (jj_Q Y X post) 0 0 (jj_A X)
/-- locals at a method's entry -/
def jj_lo : List Value → List (Option Value)
  | [] => []
  | v :: vs => if v.category = 2 then some v :: none :: jj_lo vs else some v :: jj_lo vs
theorem jj_lo_args (X : jj_X) : ∀ (vs : List Value) (i k : Nat) (v : Value), (jj_lo vs)[i]? = some (some v) → (k + i, jj_v X v) ∈ lv_args k (vs.map (jj_v X))
  | [], i, k, v, h => by simp [jj_lo] at h
  | u :: us, i, k, v, h => by
    simp only [List.map_cons, lv_args, jj_v_cat]
    by_cases hc : u.category = 2
    · rw [if_pos hc]
      rw [jj_lo, if_pos hc] at h
      match i, h with
      | 0, h => simp at h; subst h; simp
      | 1, h => simp at h
      | i + 2, h =>
        rw [List.getElem?_cons_succ, List.getElem?_cons_succ] at h
        have := jj_lo_args X us i (k + 2) v h
        rw [show k + 2 + i = k + (i + 2) by omega] at this
        exact List.mem_cons_of_mem _ this
    · rw [if_neg hc]
      rw [jj_lo, if_neg hc] at h
      match i, h with
      | 0, h => simp at h; subst h; simp
      | i + 1, h =>
        rw [List.getElem?_cons_succ] at h
        have := jj_lo_args X us i (k + 1) v h
        rw [show k + 1 + i = k + (i + 1) by omega] at this
        exact List.mem_cons_of_mem _ this
theorem jj_lg (X : jj_X) : ∀ vs : List Value, (lg_sl (vs.map (jj_v X))).length = (lg_sl vs).length
  | [] => rfl
  | u :: us => by
    have := jj_lg X us
    simp only [lg_sl, List.map_cons, List.flatMap_cons, List.length_append, jj_v_cat] at this ⊢
    rw [this]
    by_cases hc : u.category = 2 <;> simp [hc]
/-- a contract, from the judgement at the entry -/
theorem jj_met {Y : jj_Y} {X : jj_X} {d : Nat} {M : jj_M} {as : List Value} {x : jj_Mem} {post : Option Value → jj_Mem → Prop} {lo : List (Option Value)} (hy : plainName M.1.cls = true) (hn : (lg_sl as).length ≤ M.2.2.1) (hlo : ∀ (i : Nat) (v : Value), lo[i]? = some (some v) → (jj_lo as)[i]? = some (some v)) (h : jj_J Y X d M 0 lo [] x post) : jj_Met Y X d M as x post := by
  refine Met.ofW (cc := M.2.1) (maxL := M.2.2.1) (ret := M.2.2.2) hy rfl ?_
  intro p e s m args below meth c s₁ B hml hv
  obtain ⟨rfl, hP, hK, hw, hsz, hok⟩ := hv
  have hl := lv_entry (as.map (jj_v X)) (n := M.2.2.1) (by rw [jj_lg]; exact hn)
  rw [lg_entry_eq]
  refine h p e _ s m _ below meth c ⟨B.exec, B.bytes, hml, findClass_of_methodNamed B.named, B.returns, B.notSynchronized, hw, hK, Nat.le_refl _, Nat.le_refl _, hok, hsz, fun w hw2 => hw w hw2 _ _ (jj_wrefl s)⟩ s.heap [] _ hP va_S.rf ⟨hl.1, hl.2.1, fun i v hi => ?_⟩
  have := jj_lo_args X as i 0 v (hlo i v hi)
  rw [Nat.zero_add] at this
  exact hl.2.2 _ this
end
section
/-! the judgement's rules, one an instruction -/
section JJR
variable {Y : jj_Y} {X : jj_X} {d : Nat} {M : jj_M} {pc : Nat} {lo : List (Option Value)} {st : List Value} {x : jj_Mem} {post : Option Value → jj_Mem → Prop}
theorem jj_iconst {n : Int} {v : Int32} (hd : decode M.2.1 pc = .ok (.iconst n, 1)) (hv : Int32.ofInt n = v) (k : jj_J Y X d M (pc + 1) lo (.int v :: st) x post) : jj_J Y X d M pc lo st x post := by
  intro p e R s m args below meth c F H locs ls hP hS hl
  exact lv_iconst F.1 F.2.1 hd hv (k p e R s m args below meth c F H locs ls hP hS hl)

theorem jj_bipush {n : Int} {v : Int32} (hd : decode M.2.1 pc = .ok (.bipush n, 2)) (hv : (Int8.ofInt n).toInt32 = v) (k : jj_J Y X d M (pc + 2) lo (.int v :: st) x post) : jj_J Y X d M pc lo st x post := by
  intro p e R s m args below meth c F H locs ls hP hS hl
  exact lv_bipush F.1 F.2.1 hd hv (k p e R s m args below meth c F H locs ls hP hS hl)

theorem jj_sipush {n : Int} {v : Int32} (hd : decode M.2.1 pc = .ok (.sipush n, 3)) (hv : (Int16.ofInt n).toInt32 = v) (k : jj_J Y X d M (pc + 3) lo (.int v :: st) x post) : jj_J Y X d M pc lo st x post := by
  intro p e R s m args below meth c F H locs ls hP hS hl
  exact lv_sipush F.1 F.2.1 hd hv (k p e R s m args below meth c F H locs ls hP hS hl)

theorem jj_ldc {index : Nat} {v : Int32} (hd : decode M.2.1 pc = .ok (.ldc index, 2)) (hw : Cond.constant M.1.cls index v ∈ Y.2.2.2.2) (k : jj_J Y X d M (pc + 2) lo (.int v :: st) x post) : jj_J Y X d M pc lo st x post := by
  intro p e R s m args below meth c F H locs ls hP hS hl
  exact lv_ldc F.1 F.2.1 F.2.2.2.1 (F.2.2.2.2.2.2.2.2.2.2.2.2 _ hw) hd (k p e R s m args below meth c F H locs ls hP hS hl)

theorem jj_iload_n {n : Fin 4} {v : Int32} (hd : decode M.2.1 pc = .ok (.iload_n n, 1)) (hl0 : lo[(n : Nat)]? = some (some (.int v))) (k : jj_J Y X d M (pc + 1) lo (.int v :: st) x post) : jj_J Y X d M pc lo st x post := by
  intro p e R s m args below meth c F H locs ls hP hS hl
  exact lv_iload_n F.1 F.2.1 hd rfl (hl.2.2 _ _ hl0) (k p e R s m args below meth c F H locs ls hP hS hl)

theorem jj_iload {i : Nat} {v : Int32} (hd : decode M.2.1 pc = .ok (.iload i, 2)) (hl0 : lo[i]? = some (some (.int v))) (k : jj_J Y X d M (pc + 2) lo (.int v :: st) x post) : jj_J Y X d M pc lo st x post := by
  intro p e R s m args below meth c F H locs ls hP hS hl
  exact lv_iload F.1 F.2.1 hd (hl.2.2 _ _ hl0) (k p e R s m args below meth c F H locs ls hP hS hl)

theorem jj_aload_n {n : Fin 4} {v : Nat} (hd : decode M.2.1 pc = .ok (.aload_n n, 1)) (hl0 : lo[(n : Nat)]? = some (some (.ref v))) (k : jj_J Y X d M (pc + 1) lo (.ref v :: st) x post) : jj_J Y X d M pc lo st x post := by
  intro p e R s m args below meth c F H locs ls hP hS hl
  exact lv_aload_n F.1 F.2.1 hd rfl (hl.2.2 _ _ hl0) (k p e R s m args below meth c F H locs ls hP hS hl)

theorem jj_aload {i : Nat} {v : Nat} (hd : decode M.2.1 pc = .ok (.aload i, 2)) (hl0 : lo[i]? = some (some (.ref v))) (k : jj_J Y X d M (pc + 2) lo (.ref v :: st) x post) : jj_J Y X d M pc lo st x post := by
  intro p e R s m args below meth c F H locs ls hP hS hl
  exact lv_aload F.1 F.2.1 hd (hl.2.2 _ _ hl0) (k p e R s m args below meth c F H locs ls hP hS hl)

theorem jj_lload_n {n : Fin 4} {v : Int64} (hd : decode M.2.1 pc = .ok (.lload_n n, 1)) (hl0 : lo[(n : Nat)]? = some (some (.long v))) (k : jj_J Y X d M (pc + 1) lo (.long v :: st) x post) : jj_J Y X d M pc lo st x post := by
  intro p e R s m args below meth c F H locs ls hP hS hl
  exact lv_lload_n F.1 F.2.1 hd rfl (hl.2.2 _ _ hl0) (k p e R s m args below meth c F H locs ls hP hS hl)

theorem jj_lload {i : Nat} {v : Int64} (hd : decode M.2.1 pc = .ok (.lload i, 2)) (hl0 : lo[i]? = some (some (.long v))) (k : jj_J Y X d M (pc + 2) lo (.long v :: st) x post) : jj_J Y X d M pc lo st x post := by
  intro p e R s m args below meth c F H locs ls hP hS hl
  exact lv_lload F.1 F.2.1 hd (hl.2.2 _ _ hl0) (k p e R s m args below meth c F H locs ls hP hS hl)

/-- all locals, as the kit's list -/
def jj_al (X : jj_X) : Nat → List (Option Value) → List (Nat × Value)
  | _, [] => []
  | k, none :: r => jj_al X (k + 1) r
  | k, some v :: r => (k, jj_v X v) :: jj_al X (k + 1) r
theorem jj_al_of (X : jj_X) : ∀ (lo : List (Option Value)) (k : Nat) (q : Nat × Value), q ∈ jj_al X k lo → ∃ (j : Nat) (v : Value), lo[j]? = some (some v) ∧ q = (k + j, jj_v X v)
  | [], k, q, h => by simp [jj_al] at h
  | none :: r, k, q, h => by
    obtain ⟨j, v, h1, h2⟩ := jj_al_of X r (k + 1) q h
    exact ⟨j + 1, v, by simpa using h1, by rw [h2]; congr 1; omega⟩
  | some u :: r, k, q, h => by
    rcases List.mem_cons.mp h with h | h
    · exact ⟨0, u, rfl, h⟩
    · obtain ⟨j, v, h1, h2⟩ := jj_al_of X r (k + 1) q h
      exact ⟨j + 1, v, by simpa using h1, by rw [h2]; congr 1; omega⟩
theorem jj_al_in (X : jj_X) : ∀ (lo : List (Option Value)) (k j : Nat) (v : Value), lo[j]? = some (some v) → (k + j, jj_v X v) ∈ jj_al X k lo
  | [], k, j, v, h => by simp at h
  | none :: r, k, 0, v, h => by simp at h
  | none :: r, k, j + 1, v, h => by
    rw [List.getElem?_cons_succ] at h
    have := jj_al_in X r (k + 1) j v h
    rw [show k + 1 + j = k + (j + 1) by omega] at this
    exact this
  | some u :: r, k, 0, v, h => by
    simp at h
    subst h
    exact List.mem_cons_self
  | some u :: r, k, j + 1, v, h => by
    rw [List.getElem?_cons_succ] at h
    have := jj_al_in X r (k + 1) j v h
    rw [show k + 1 + j = k + (j + 1) by omega] at this
    exact List.mem_cons_of_mem _ this
theorem jj_has.lv {X : jj_X} {ls : Array Slot} {nL : Nat} {lo : List (Option Value)} (h : jj_has X ls nL lo) : lv_has ls nL (jj_al X 0 lo) := by
  refine ⟨h.1, h.2.1, fun q hq => ?_⟩
  obtain ⟨j, v, h1, rfl⟩ := jj_al_of X lo 0 q hq
  have := h.2.2 j v h1
  simpa using this
/-- no long lies just below place i -/
def jj_k1 (lo : List (Option Value)) (i : Nat) : Bool := match i with
  | 0 => true
  | i + 1 => match lo[i]? with
    | some (some w) => w.category == 1
    | _ => true
theorem jj_has.put {X : jj_X} {ls' : Array Slot} {nL i : Nat} {lo : List (Option Value)} {v : Value} (h : lv_has ls' nL ((i, jj_v X v) :: (jj_al X 0 lo).filter (fun q => !(q.1 == i) && !(q.1 + 1 == i && q.2.category == 2)))) (hk : jj_k1 lo i = true) : jj_has X ls' nL (lo.set i (some v)) := by
  refine ⟨h.1, h.2.1, fun j w hj => ?_⟩
  by_cases e : j = i
  · subst e
    by_cases hl : j < lo.length
    · rw [List.getElem?_set_self hl] at hj
      cases hj
      exact h.2.2 _ List.mem_cons_self
    · rw [List.getElem?_eq_none (by simp; omega)] at hj
      cases hj
  · rw [List.getElem?_set_ne (Ne.symm e)] at hj
    have h1 := jj_al_in X lo 0 j w hj
    rw [Nat.zero_add] at h1
    refine h.2.2 (j, jj_v X w) (List.mem_cons_of_mem _ (List.mem_filter.mpr ⟨h1, ?_⟩))
    simp only [jj_v_cat, Bool.and_eq_true, Bool.not_eq_true', beq_eq_false_iff_ne, ne_eq, e, not_false_eq_true, true_and]
    by_cases e2 : j + 1 = i
    · subst e2
      simp only [jj_k1, hj, beq_iff_eq] at hk
      simp [hk]
    · simp [e2]
theorem jj_istore_n {n : Fin 4} {v : Int32} {lo' : List (Option Value)} (hd : decode M.2.1 pc = .ok (.istore_n n, 1)) (hl0 : lo.set (n : Nat) (some (.int v)) = lo') (hn : (n : Nat) < M.2.2.1) (hk : jj_k1 lo (n : Nat) = true) (k : jj_J Y X d M (pc + 1) lo' st x post) : jj_J Y X d M pc lo (.int v :: st) x post := by
  intro p e R s m args below meth c F H locs ls hP hS hl
  subst hl0
  exact lv_istore_n F.1 F.2.1 hd rfl hl.lv hn rfl (fun ls2 h2 => k p e R s m args below meth c F H locs ls2 hP hS (jj_has.put (v := .int v) h2 hk))

theorem jj_istore {i : Nat} {v : Int32} {lo' : List (Option Value)} (hd : decode M.2.1 pc = .ok (.istore i, 2)) (hl0 : lo.set i (some (.int v)) = lo') (hn : i < M.2.2.1) (hk : jj_k1 lo i = true) (k : jj_J Y X d M (pc + 2) lo' st x post) : jj_J Y X d M pc lo (.int v :: st) x post := by
  intro p e R s m args below meth c F H locs ls hP hS hl
  subst hl0
  exact lv_istore F.1 F.2.1 hd hl.lv hn rfl (fun ls2 h2 => k p e R s m args below meth c F H locs ls2 hP hS (jj_has.put (v := .int v) h2 hk))

theorem jj_astore_n {n : Fin 4} {v : Nat} {lo' : List (Option Value)} (hd : decode M.2.1 pc = .ok (.astore_n n, 1)) (hl0 : lo.set (n : Nat) (some (.ref v)) = lo') (hn : (n : Nat) < M.2.2.1) (hk : jj_k1 lo (n : Nat) = true) (k : jj_J Y X d M (pc + 1) lo' st x post) : jj_J Y X d M pc lo (.ref v :: st) x post := by
  intro p e R s m args below meth c F H locs ls hP hS hl
  subst hl0
  exact lv_astore_n F.1 F.2.1 hd rfl hl.lv hn rfl (fun ls2 h2 => k p e R s m args below meth c F H locs ls2 hP hS (jj_has.put (v := .ref v) h2 hk))

theorem jj_astore {i : Nat} {v : Nat} {lo' : List (Option Value)} (hd : decode M.2.1 pc = .ok (.astore i, 2)) (hl0 : lo.set i (some (.ref v)) = lo') (hn : i < M.2.2.1) (hk : jj_k1 lo i = true) (k : jj_J Y X d M (pc + 2) lo' st x post) : jj_J Y X d M pc lo (.ref v :: st) x post := by
  intro p e R s m args below meth c F H locs ls hP hS hl
  subst hl0
  exact lv_astore F.1 F.2.1 hd hl.lv hn rfl (fun ls2 h2 => k p e R s m args below meth c F H locs ls2 hP hS (jj_has.put (v := .ref v) h2 hk))

theorem jj_iinc {i : Nat} {n : Int} {u v : Int32} {lo' : List (Option Value)} (hd : decode M.2.1 pc = .ok (.iinc i n, 3)) (hu : lo[i]? = some (some (.int u))) (hv : u + Int32.ofInt n = v) (hl0 : lo.set i (some (.int v)) = lo') (hn : i < M.2.2.1) (hk : jj_k1 lo i = true) (k : jj_J Y X d M (pc + 3) lo' st x post) : jj_J Y X d M pc lo st x post := by
  intro p e R s m args below meth c F H locs ls hP hS hl
  subst hl0
  obtain ⟨kk, hkk⟩ := List.getElem?_of_mem (jj_al_in X lo 0 i _ hu)
  rw [Nat.zero_add] at hkk
  exact lv_iinc F.1 F.2.1 hd hl.lv hkk hv hn rfl (fun ls2 h2 => k p e R s m args below meth c F H locs ls2 hP hS (jj_has.put (v := .int v) h2 hk))

theorem jj_iadd {a b : Int32} (hd : decode M.2.1 pc = .ok (.iadd, 1)) (k : jj_J Y X d M (pc + 1) lo (.int (a + b) :: st) x post) : jj_J Y X d M pc lo (.int b :: .int a :: st) x post := by
  intro p e R s m args below meth c F H locs ls hP hS hl
  exact lv_iadd F.1 F.2.1 hd (k p e R s m args below meth c F H locs ls hP hS hl)

theorem jj_isub {a b : Int32} (hd : decode M.2.1 pc = .ok (.isub, 1)) (k : jj_J Y X d M (pc + 1) lo (.int (a - b) :: st) x post) : jj_J Y X d M pc lo (.int b :: .int a :: st) x post := by
  intro p e R s m args below meth c F H locs ls hP hS hl
  exact lv_isub F.1 F.2.1 hd (k p e R s m args below meth c F H locs ls hP hS hl)

theorem jj_imul {a b : Int32} (hd : decode M.2.1 pc = .ok (.imul, 1)) (k : jj_J Y X d M (pc + 1) lo (.int (a * b) :: st) x post) : jj_J Y X d M pc lo (.int b :: .int a :: st) x post := by
  intro p e R s m args below meth c F H locs ls hP hS hl
  exact lv_imul F.1 F.2.1 hd (k p e R s m args below meth c F H locs ls hP hS hl)

theorem jj_iand {a b : Int32} (hd : decode M.2.1 pc = .ok (.iand, 1)) (k : jj_J Y X d M (pc + 1) lo (.int (a &&& b) :: st) x post) : jj_J Y X d M pc lo (.int b :: .int a :: st) x post := by
  intro p e R s m args below meth c F H locs ls hP hS hl
  exact lv_iand F.1 F.2.1 hd (k p e R s m args below meth c F H locs ls hP hS hl)

theorem jj_ior {a b : Int32} (hd : decode M.2.1 pc = .ok (.ior, 1)) (k : jj_J Y X d M (pc + 1) lo (.int (a ||| b) :: st) x post) : jj_J Y X d M pc lo (.int b :: .int a :: st) x post := by
  intro p e R s m args below meth c F H locs ls hP hS hl
  exact lv_ior F.1 F.2.1 hd (k p e R s m args below meth c F H locs ls hP hS hl)

theorem jj_ishl {a b : Int32} (hd : decode M.2.1 pc = .ok (.ishl, 1)) (k : jj_J Y X d M (pc + 1) lo (.int (a <<< (b &&& 31)) :: st) x post) : jj_J Y X d M pc lo (.int b :: .int a :: st) x post := by
  intro p e R s m args below meth c F H locs ls hP hS hl
  exact lv_ishl F.1 F.2.1 hd (k p e R s m args below meth c F H locs ls hP hS hl)

theorem jj_idiv {a b : Int32} (hd : decode M.2.1 pc = .ok (.idiv, 1)) (hb0 : ¬ b = 0) (k : jj_J Y X d M (pc + 1) lo (.int (a / b) :: st) x post) : jj_J Y X d M pc lo (.int b :: .int a :: st) x post := by
  intro p e R s m args below meth c F H locs ls hP hS hl
  exact lv_idiv F.1 F.2.1 hd hb0 (k p e R s m args below meth c F H locs ls hP hS hl)

theorem jj_irem {a b : Int32} (hd : decode M.2.1 pc = .ok (.irem, 1)) (hb0 : ¬ b = 0) (k : jj_J Y X d M (pc + 1) lo (.int (a - a / b * b) :: st) x post) : jj_J Y X d M pc lo (.int b :: .int a :: st) x post := by
  intro p e R s m args below meth c F H locs ls hP hS hl
  exact lv_irem F.1 F.2.1 hd hb0 (k p e R s m args below meth c F H locs ls hP hS hl)

theorem jj_ineg {a : Int32} (hd : decode M.2.1 pc = .ok (.ineg, 1)) (k : jj_J Y X d M (pc + 1) lo (.int (-a) :: st) x post) : jj_J Y X d M pc lo (.int a :: st) x post := by
  intro p e R s m args below meth c F H locs ls hP hS hl
  exact lv_ineg F.1 F.2.1 hd (k p e R s m args below meth c F H locs ls hP hS hl)

theorem jj_l2i {a : Int64} (hd : decode M.2.1 pc = .ok (.l2i, 1)) (k : jj_J Y X d M (pc + 1) lo (.int a.toInt32 :: st) x post) : jj_J Y X d M pc lo (.long a :: st) x post := by
  intro p e R s m args below meth c F H locs ls hP hS hl
  exact lv_l2i F.1 F.2.1 hd rfl (k p e R s m args below meth c F H locs ls hP hS hl)

theorem jj_lshr {a : Int64} {b : Int32} (hd : decode M.2.1 pc = .ok (.lshr, 1)) (k : jj_J Y X d M (pc + 1) lo (.long (a >>> (b.toInt64 &&& 63)) :: st) x post) : jj_J Y X d M pc lo (.int b :: .long a :: st) x post := by
  intro p e R s m args below meth c F H locs ls hP hS hl
  exact lv_lshr F.1 F.2.1 hd rfl (k p e R s m args below meth c F H locs ls hP hS hl)

theorem jj_dup {u : Value} (hd : decode M.2.1 pc = .ok (.dup, 1)) (hu : u.category = 1) (k : jj_J Y X d M (pc + 1) lo (u :: u :: st) x post) : jj_J Y X d M pc lo (u :: st) x post := by
  intro p e R s m args below meth c F H locs ls hP hS hl
  exact lv_dup F.1 F.2.1 hd (by rw [jj_v_cat]; exact hu) (k p e R s m args below meth c F H locs ls hP hS hl)

theorem jj_pop {u : Value} (hd : decode M.2.1 pc = .ok (.pop, 1)) (hu : u.category = 1) (k : jj_J Y X d M (pc + 1) lo st x post) : jj_J Y X d M pc lo (u :: st) x post := by
  intro p e R s m args below meth c F H locs ls hP hS hl
  exact lv_pop F.1 F.2.1 hd (by rw [jj_v_cat]; exact hu) (k p e R s m args below meth c F H locs ls hP hS hl)

theorem jj_if_eq {a : Int32} {off : Int} {tgt : Nat} (hd : decode M.2.1 pc = .ok (.ifCond .eq off, 3)) (ht : (pc : Int) + off = (tgt : Int)) (kt : a = 0 → jj_J Y X d M tgt lo st x post) (kf : ¬ a = 0 → jj_J Y X d M (pc + 3) lo st x post) : jj_J Y X d M pc lo (.int a :: st) x post := by
  intro p e R s m args below meth c F H locs ls hP hS hl
  exact lv_if_eq F.1 F.2.1 hd ht (fun hc => kt hc p e R s m args below meth c F H locs ls hP hS hl) (fun hc => kf hc p e R s m args below meth c F H locs ls hP hS hl)

theorem jj_ic_eq {a b : Int32} {off : Int} {tgt : Nat} (hd : decode M.2.1 pc = .ok (.if_icmp .eq off, 3)) (ht : (pc : Int) + off = (tgt : Int)) (kt : a = b → jj_J Y X d M tgt lo st x post) (kf : ¬ a = b → jj_J Y X d M (pc + 3) lo st x post) : jj_J Y X d M pc lo (.int b :: .int a :: st) x post := by
  intro p e R s m args below meth c F H locs ls hP hS hl
  exact lv_icmp_eq F.1 F.2.1 hd ht (fun hc => kt hc p e R s m args below meth c F H locs ls hP hS hl) (fun hc => kf hc p e R s m args below meth c F H locs ls hP hS hl)

theorem jj_if_ne {a : Int32} {off : Int} {tgt : Nat} (hd : decode M.2.1 pc = .ok (.ifCond .ne off, 3)) (ht : (pc : Int) + off = (tgt : Int)) (kt : ¬ a = 0 → jj_J Y X d M tgt lo st x post) (kf : a = 0 → jj_J Y X d M (pc + 3) lo st x post) : jj_J Y X d M pc lo (.int a :: st) x post := by
  intro p e R s m args below meth c F H locs ls hP hS hl
  exact lv_if_ne F.1 F.2.1 hd ht (fun hc => kt hc p e R s m args below meth c F H locs ls hP hS hl) (fun hc => kf hc p e R s m args below meth c F H locs ls hP hS hl)

theorem jj_ic_ne {a b : Int32} {off : Int} {tgt : Nat} (hd : decode M.2.1 pc = .ok (.if_icmp .ne off, 3)) (ht : (pc : Int) + off = (tgt : Int)) (kt : ¬ a = b → jj_J Y X d M tgt lo st x post) (kf : a = b → jj_J Y X d M (pc + 3) lo st x post) : jj_J Y X d M pc lo (.int b :: .int a :: st) x post := by
  intro p e R s m args below meth c F H locs ls hP hS hl
  exact lv_icmp_ne F.1 F.2.1 hd ht (fun hc => kt hc p e R s m args below meth c F H locs ls hP hS hl) (fun hc => kf hc p e R s m args below meth c F H locs ls hP hS hl)

theorem jj_if_lt {a : Int32} {off : Int} {tgt : Nat} (hd : decode M.2.1 pc = .ok (.ifCond .lt off, 3)) (ht : (pc : Int) + off = (tgt : Int)) (kt : a < 0 → jj_J Y X d M tgt lo st x post) (kf : ¬ a < 0 → jj_J Y X d M (pc + 3) lo st x post) : jj_J Y X d M pc lo (.int a :: st) x post := by
  intro p e R s m args below meth c F H locs ls hP hS hl
  exact lv_if_lt F.1 F.2.1 hd ht (fun hc => kt hc p e R s m args below meth c F H locs ls hP hS hl) (fun hc => kf hc p e R s m args below meth c F H locs ls hP hS hl)

theorem jj_ic_lt {a b : Int32} {off : Int} {tgt : Nat} (hd : decode M.2.1 pc = .ok (.if_icmp .lt off, 3)) (ht : (pc : Int) + off = (tgt : Int)) (kt : a < b → jj_J Y X d M tgt lo st x post) (kf : ¬ a < b → jj_J Y X d M (pc + 3) lo st x post) : jj_J Y X d M pc lo (.int b :: .int a :: st) x post := by
  intro p e R s m args below meth c F H locs ls hP hS hl
  exact lv_icmp_lt F.1 F.2.1 hd ht (fun hc => kt hc p e R s m args below meth c F H locs ls hP hS hl) (fun hc => kf hc p e R s m args below meth c F H locs ls hP hS hl)

theorem jj_if_ge {a : Int32} {off : Int} {tgt : Nat} (hd : decode M.2.1 pc = .ok (.ifCond .ge off, 3)) (ht : (pc : Int) + off = (tgt : Int)) (kt : 0 ≤ a → jj_J Y X d M tgt lo st x post) (kf : ¬ 0 ≤ a → jj_J Y X d M (pc + 3) lo st x post) : jj_J Y X d M pc lo (.int a :: st) x post := by
  intro p e R s m args below meth c F H locs ls hP hS hl
  exact lv_if_ge F.1 F.2.1 hd ht (fun hc => kt hc p e R s m args below meth c F H locs ls hP hS hl) (fun hc => kf hc p e R s m args below meth c F H locs ls hP hS hl)

theorem jj_ic_ge {a b : Int32} {off : Int} {tgt : Nat} (hd : decode M.2.1 pc = .ok (.if_icmp .ge off, 3)) (ht : (pc : Int) + off = (tgt : Int)) (kt : b ≤ a → jj_J Y X d M tgt lo st x post) (kf : ¬ b ≤ a → jj_J Y X d M (pc + 3) lo st x post) : jj_J Y X d M pc lo (.int b :: .int a :: st) x post := by
  intro p e R s m args below meth c F H locs ls hP hS hl
  exact lv_icmp_ge F.1 F.2.1 hd ht (fun hc => kt hc p e R s m args below meth c F H locs ls hP hS hl) (fun hc => kf hc p e R s m args below meth c F H locs ls hP hS hl)

theorem jj_if_gt {a : Int32} {off : Int} {tgt : Nat} (hd : decode M.2.1 pc = .ok (.ifCond .gt off, 3)) (ht : (pc : Int) + off = (tgt : Int)) (kt : 0 < a → jj_J Y X d M tgt lo st x post) (kf : ¬ 0 < a → jj_J Y X d M (pc + 3) lo st x post) : jj_J Y X d M pc lo (.int a :: st) x post := by
  intro p e R s m args below meth c F H locs ls hP hS hl
  exact lv_if_gt F.1 F.2.1 hd ht (fun hc => kt hc p e R s m args below meth c F H locs ls hP hS hl) (fun hc => kf hc p e R s m args below meth c F H locs ls hP hS hl)

theorem jj_ic_gt {a b : Int32} {off : Int} {tgt : Nat} (hd : decode M.2.1 pc = .ok (.if_icmp .gt off, 3)) (ht : (pc : Int) + off = (tgt : Int)) (kt : b < a → jj_J Y X d M tgt lo st x post) (kf : ¬ b < a → jj_J Y X d M (pc + 3) lo st x post) : jj_J Y X d M pc lo (.int b :: .int a :: st) x post := by
  intro p e R s m args below meth c F H locs ls hP hS hl
  exact lv_icmp_gt F.1 F.2.1 hd ht (fun hc => kt hc p e R s m args below meth c F H locs ls hP hS hl) (fun hc => kf hc p e R s m args below meth c F H locs ls hP hS hl)

theorem jj_if_le {a : Int32} {off : Int} {tgt : Nat} (hd : decode M.2.1 pc = .ok (.ifCond .le off, 3)) (ht : (pc : Int) + off = (tgt : Int)) (kt : a ≤ 0 → jj_J Y X d M tgt lo st x post) (kf : ¬ a ≤ 0 → jj_J Y X d M (pc + 3) lo st x post) : jj_J Y X d M pc lo (.int a :: st) x post := by
  intro p e R s m args below meth c F H locs ls hP hS hl
  exact lv_if_le F.1 F.2.1 hd ht (fun hc => kt hc p e R s m args below meth c F H locs ls hP hS hl) (fun hc => kf hc p e R s m args below meth c F H locs ls hP hS hl)

theorem jj_ic_le {a b : Int32} {off : Int} {tgt : Nat} (hd : decode M.2.1 pc = .ok (.if_icmp .le off, 3)) (ht : (pc : Int) + off = (tgt : Int)) (kt : a ≤ b → jj_J Y X d M tgt lo st x post) (kf : ¬ a ≤ b → jj_J Y X d M (pc + 3) lo st x post) : jj_J Y X d M pc lo (.int b :: .int a :: st) x post := by
  intro p e R s m args below meth c F H locs ls hP hS hl
  exact lv_icmp_le F.1 F.2.1 hd ht (fun hc => kt hc p e R s m args below meth c F H locs ls hP hS hl) (fun hc => kf hc p e R s m args below meth c F H locs ls hP hS hl)

theorem jj_goto {off : Int} {tgt : Nat} (hd : decode M.2.1 pc = .ok (.goto off, 3)) (ht : (pc : Int) + off = (tgt : Int)) (k : jj_J Y X d M tgt lo st x post) : jj_J Y X d M pc lo st x post := by
  intro p e R s m args below meth c F H locs ls hP hS hl
  exact lv_goto F.1 F.2.1 hd ht (k p e R s m args below meth c F H locs ls hP hS hl)

theorem jj_lookup {dflt : Int} {ps : Array (Int × Int)} {len : Nat} {a : Int32} {off : Int} {tgt : Nat} (hd : decode M.2.1 pc = .ok (.lookupswitch dflt ps, len)) (hp : (ps.toList.zip (ps.toList.drop 1)).all (fun (a, next) => a.1 < next.1) = true) (ho : Op.lookupswitch.offset ps.toList dflt a.toInt = off) (ht : (pc : Int) + off = (tgt : Int)) (k : jj_J Y X d M tgt lo st x post) : jj_J Y X d M pc lo (.int a :: st) x post := by
  intro p e R s m args below meth c F H locs ls hP hS hl
  exact lv_lookup F.1 F.2.1 hd hp ho ht (k p e R s m args below meth c F H locs ls hP hS hl)

theorem jj_tableOut {dflt lw hi : Int} {offs : Array Int} {len : Nat} {a : Int32} {tgt : Nat} (hd : decode M.2.1 pc = .ok (.tableswitch dflt lw hi offs, len)) (h : a.toInt < lw ∨ hi < a.toInt) (ht : (pc : Int) + dflt = (tgt : Int)) (k : jj_J Y X d M tgt lo st x post) : jj_J Y X d M pc lo (.int a :: st) x post := by
  intro p e R s m args below meth c F H locs ls hP hS hl
  exact lv_tableOut F.1 F.2.1 hd h ht (k p e R s m args below meth c F H locs ls hP hS hl)

theorem jj_tableIn {dflt lw hi : Int} {offs : Array Int} {len : Nat} {a : Int32} {off : Int} {tgt : Nat} (hd : decode M.2.1 pc = .ok (.tableswitch dflt lw hi offs, len)) (h1 : ¬ a.toInt < lw) (h2 : ¬ hi < a.toInt) (ho : offs[(a.toInt - lw).toNat]? = some off) (ht : (pc : Int) + off = (tgt : Int)) (k : jj_J Y X d M tgt lo st x post) : jj_J Y X d M pc lo (.int a :: st) x post := by
  intro p e R s m args below meth c F H locs ls hP hS hl
  exact lv_tableIn F.1 F.2.1 hd h1 h2 ho ht (k p e R s m args below meth c F H locs ls hP hS hl)

end JJR
/-! fields, arrays, calls, returns -/
def jj_fk (Y : jj_Y) (own : String) (idx ci k : Nat) : Prop := ∃ (C : String) (T : u_T) (N : Nat), Y.2.2.1[ci]? = some (C, T, N) ∧ k < N ∧ (∀ w ∈ u_ws C T N, w ∈ Y.2.2.2.2) ∧ Cond.fieldLink own idx (T k).1 (T k).2.1 (T k).2.2.1 ∈ Y.2.2.2.2
def jj_pk (Y : jj_Y) (own : String) (idx ci k : Nat) (ty : FieldType) : Prop := ∃ (C : String) (T : u_T) (N : Nat) (t0 : Nat → FieldType), Y.2.2.1[ci]? = some (C, T, N) ∧ k < N ∧ (∀ w ∈ u_ws C T N, w ∈ Y.2.2.2.2) ∧ Cond.fieldLink own idx (T k).1 (T k).2.1 (T k).2.2.1 ∈ Y.2.2.2.2 ∧ (∀ k, k < N → parseFieldDescriptor (T k).2.2.1 = some (t0 k)) ∧ (∀ a, a < N → ∀ b, b < N → a ≠ b → (T a).2.1 ≠ (T b).2.1) ∧ (T k).2.2.2 = false ∧ parseFieldDescriptor (T k).2.2.1 = some ty
section JJF
variable {Y : jj_Y} {X : jj_X} {d : Nat} {M : jj_M} {pc : Nat} {lo : List (Option Value)} {st : List Value} {x : jj_Mem} {post : Option Value → jj_Mem → Prop}
theorem jj_getV {i idx ci k : Nat} {fs : List (Option (Option Nat))} {f : Option (Option Nat)} {u : Value} (hd : decode M.2.1 pc = .ok (.getfield idx, 3)) (hk : jj_fk Y M.1.cls idx ci k) (hi : i < Y.2.1) (hs : Y.1 i = .inr (ci, fs)) (hf : fs[k]? = some f) (hu : jj_fv X f (x i k) = jj_v X u) (kk : jj_J Y X d M (pc + 3) lo (u :: st) x post) : jj_J Y X d M pc lo (.ref i :: st) x post := by
  intro p e R s m args below meth c F H locs ls hP hS hl
  obtain ⟨hx, hb, -, hown, -, -, -, hK, -, -, -, -, hts⟩ := id F
  obtain ⟨C, T, N, hc, hkN, hin, hlk⟩ := hk
  refine va_get (D := X.2.2.1) (ci := ci) (v := jj_v X u) (C := C) (T := T) (N := N) hx hb hts hin hown hK hP i (fs := jj_fl X (x i) 0 fs) (by rw [jj_ws_get hi, hs]; rfl) hc k hkN (hts _ hlk) (fun _ h => h) ?_ hd (kk p e R s m args below meth c F H locs ls hP hS hl)
  rw [jj_fl_get X (x i) fs 0 k f hf, Nat.zero_add, hu]
theorem jj_getI {i idx ci k : Nat} {fs : List (Option (Option Nat))} {v : Int32} (hd : decode M.2.1 pc = .ok (.getfield idx, 3)) (hk : jj_fk Y M.1.cls idx ci k) (hi : i < Y.2.1) (hs : Y.1 i = .inr (ci, fs)) (hf : fs[k]? = some none) (hv : x i k = v) (kk : jj_J Y X d M (pc + 3) lo (.int v :: st) x post) : jj_J Y X d M pc lo (.ref i :: st) x post := jj_getV hd hk hi hs hf (by rw [hv]; rfl) kk
theorem jj_getR {i idx ci k j : Nat} {fs : List (Option (Option Nat))} (hd : decode M.2.1 pc = .ok (.getfield idx, 3)) (hk : jj_fk Y M.1.cls idx ci k) (hi : i < Y.2.1) (hs : Y.1 i = .inr (ci, fs)) (hf : fs[k]? = some (some (some j))) (kk : jj_J Y X d M (pc + 3) lo (.ref j :: st) x post) : jj_J Y X d M pc lo (.ref i :: st) x post := jj_getV hd hk hi hs hf rfl kk
theorem jj_getD {i idx ci k j : Nat} {fs : List (Option (Option Nat))} (hd : decode M.2.1 pc = .ok (.getfield idx, 3)) (hk : jj_fk Y M.1.cls idx ci k) (hi : i < Y.2.1) (hs : Y.1 i = .inr (ci, fs)) (hf : fs[k]? = some (some none)) (hv : (x i k).toNatClampNeg = j) (kk : jj_J Y X d M (pc + 3) lo (.ref j :: st) x post) : jj_J Y X d M pc lo (.ref i :: st) x post := jj_getV hd hk hi hs hf (by rw [← hv]; rfl) kk
theorem jj_putV {i idx ci k : Nat} {fs : List (Option (Option Nat))} {f : Option (Option Nat)} {u : Value} {v : Int32} {ty : FieldType} (hd : decode M.2.1 pc = .ok (.putfield idx, 3)) (hk : jj_pk Y M.1.cls idx ci k ty) (hi : i < Y.2.1) (hs : Y.1 i = .inr (ci, fs)) (hf : fs[k]? = some f) (hu : jj_fv X f v = jj_v X u) (hn : narrow ty (jj_v X u) = jj_v X u) (hfit : fits ty (jj_v X u) = true) (kk : jj_J Y X d M (pc + 3) lo st (jj_set x i k v) post) : jj_J Y X d M pc lo (u :: .ref i :: st) x post := by
  intro p e R s m args below meth c F H locs ls hP hS hl
  obtain ⟨hx, hb, -, hown, -, -, -, hK, -, -, hok, -, hts⟩ := id F
  obtain ⟨C, T, N, t0, hc, hkN, hin, hlk, ht0, hnm, hfin, hty⟩ := hk
  have hkl : k < fs.length := (List.getElem?_eq_some_iff.mp hf).1
  refine va_put (D := X.2.2.1) (ci := ci) (v := jj_v X u) (ty := ty) (C := C) (T := T) (N := N) hx hb hts hin t0 ht0 hnm hown hK hP (jj_D hok x) hS i (fs := jj_fl X (x i) 0 fs) (by rw [jj_ws_get hi, hs]; rfl) hc k hkN (hts _ hlk) (fun _ h => h) hfin hty hn hfit (by rw [jj_fl_len]; exact hkl) hd (fun H1 locs1 hP1 hD1 hS1 => ?_)
  have e1 : (Sum.inr (ci, (jj_fl X (x i) 0 fs).set k (jj_v X u)) : va_E) = jj_e X (Y.1 i) (upd (x i) k v) := by
    rw [hs]
    show _ = Sum.inr (ci, jj_fl X (upd (x i) k v) 0 fs)
    have := jj_fl_set X (x i) v fs 0 k f hf
    rw [Nat.zero_add] at this
    rw [← this, hu]
  rw [e1, jj_ws_set hi] at hP1
  exact kk p e R s m args below meth c F H1 locs1 ls hP1 hS1 hl
theorem jj_putI {i idx ci k : Nat} {fs : List (Option (Option Nat))} {v : Int32} (hd : decode M.2.1 pc = .ok (.putfield idx, 3)) (hk : jj_pk Y M.1.cls idx ci k .int) (hi : i < Y.2.1) (hs : Y.1 i = .inr (ci, fs)) (hf : fs[k]? = some none) (kk : jj_J Y X d M (pc + 3) lo st (jj_set x i k v) post) : jj_J Y X d M pc lo (.int v :: .ref i :: st) x post := jj_putV hd hk hi hs hf rfl rfl rfl kk
theorem jj_bool {v : Int32} (h : v = 0 ∨ v = 1) : narrow .boolean (.int v) = .int v ∧ fits .boolean (.int v) = true := by
  rcases h with rfl | rfl <;> decide
theorem jj_putZ {i idx ci k : Nat} {fs : List (Option (Option Nat))} {v : Int32} (hd : decode M.2.1 pc = .ok (.putfield idx, 3)) (hk : jj_pk Y M.1.cls idx ci k .boolean) (hi : i < Y.2.1) (hs : Y.1 i = .inr (ci, fs)) (hf : fs[k]? = some none) (hv : v = 0 ∨ v = 1) (kk : jj_J Y X d M (pc + 3) lo st (jj_set x i k v) post) : jj_J Y X d M pc lo (.int v :: .ref i :: st) x post := jj_putV hd hk hi hs hf rfl (jj_bool hv).1 (jj_bool hv).2 kk
theorem jj_putD {i idx ci k j : Nat} {C : String} {fs : List (Option (Option Nat))} (hd : decode M.2.1 pc = .ok (.putfield idx, 3)) (hk : jj_pk Y M.1.cls idx ci k (.object C)) (hi : i < Y.2.1) (hs : Y.1 i = .inr (ci, fs)) (hf : fs[k]? = some (some none)) (hj : j < 2 ^ 31) (kk : jj_J Y X d M (pc + 3) lo st (jj_set x i k (nI j)) post) : jj_J Y X d M pc lo (.ref j :: .ref i :: st) x post := jj_putV (v := nI j) hd hk hi hs hf (by show Value.ref _ = Value.ref _; rw [nI_clamp hj]) rfl rfl kk
theorem jj_iaload {i n : Nat} {f : Nat → Nat} {j v : Int32} (hd : decode M.2.1 pc = .ok (.iaload, 1)) (ht : Y.2.2.2.1[0]? = some .int) (hi : i < Y.2.1) (hs : Y.1 i = .inl (0, n, f)) (hj : vp_in j n) (hv : x i j.toNatClampNeg = v) (kk : jj_J Y X d M (pc + 1) lo (.int v :: st) x post) : jj_J Y X d M pc lo (.int j :: .ref i :: st) x post := by
  intro p e R s m args below meth c F H locs ls hP hS hl
  subst hv
  exact va_iald (D := X.2.2.1) F.1 F.2.1 F.2.2.2.2.2.2.2.1 hP i 0 (by rw [jj_ws_get hi, hs]; rfl) (jj_tys_get ht) hj hd (kk p e R s m args below meth c F H locs ls hP hS hl)
theorem jj_baload {i n : Nat} {f : Nat → Nat} {j v : Int32} (hd : decode M.2.1 pc = .ok (.baload, 1)) (ht : Y.2.2.2.1[1]? = some .boolean) (hi : i < Y.2.1) (hs : Y.1 i = .inl (1, n, f)) (hj : vp_in j n) (hv : x i j.toNatClampNeg = v) (kk : jj_J Y X d M (pc + 1) lo (.int v :: st) x post) : jj_J Y X d M pc lo (.int j :: .ref i :: st) x post := by
  intro p e R s m args below meth c F H locs ls hP hS hl
  subst hv
  exact va_zald (D := X.2.2.1) F.1 F.2.1 F.2.2.2.2.2.2.2.1 hP i 1 (by rw [jj_ws_get hi, hs]; rfl) (jj_tys_get ht) hj hd (kk p e R s m args below meth c F H locs ls hP hS hl)
theorem jj_aaload {i n kd : Nat} {f : Nat → Nat} {C : String} {j : Int32} {q : Nat} (hd : decode M.2.1 pc = .ok (.aaload, 1)) (ht : Y.2.2.2.1[kd + 2]? = some (.object C)) (hi : i < Y.2.1) (hs : Y.1 i = .inl (kd + 2, n, f)) (hj : vp_in j n) (hv : f j.toNatClampNeg = q) (kk : jj_J Y X d M (pc + 1) lo (.ref q :: st) x post) : jj_J Y X d M pc lo (.int j :: .ref i :: st) x post := by
  intro p e R s m args below meth c F H locs ls hP hS hl
  subst hv
  exact va_aldq (D := X.2.2.1) (f := fun z => some (X.2.1 (f z))) F.1 F.2.1 F.2.2.2.2.2.2.2.1 hP i (kd + 2) (by rw [jj_ws_get hi, hs]; rfl) (jj_tys_get ht) hj hd (kk p e R s m args below meth c F H locs ls hP hS hl)
theorem jj_iastore {i n : Nat} {f : Nat → Nat} {j v : Int32} (hd : decode M.2.1 pc = .ok (.iastore, 1)) (ht : Y.2.2.2.1[0]? = some .int) (hi : i < Y.2.1) (hs : Y.1 i = .inl (0, n, f)) (hj : vp_in j n) (kk : jj_J Y X d M (pc + 1) lo st (jj_set x i j.toNatClampNeg v) post) : jj_J Y X d M pc lo (.int v :: .int j :: .ref i :: st) x post := by
  intro p e R s m args below meth c F H locs ls hP hS hl
  obtain ⟨hx, hb, -, hown, -, -, -, hK, -, -, hok, -, hts⟩ := id F
  refine va_iast (D := X.2.2.1) hx hb hK hP (jj_D hok x) hS i 0 (by rw [jj_ws_get hi, hs]; rfl) (jj_tys_get ht) hj hd (fun H1 locs1 hP1 hD1 hS1 => ?_)
  have e1 : (Sum.inl (X.2.2.2.1 0, n, Sum.inl (upd (x i) j.toNatClampNeg v)) : va_E) = jj_e X (Y.1 i) (upd (x i) j.toNatClampNeg v) := by rw [hs]; rfl
  rw [e1, jj_ws_set hi] at hP1
  exact kk p e R s m args below meth c F H1 locs1 ls hP1 hS1 hl
theorem jj_bastore {i n : Nat} {f : Nat → Nat} {j v : Int32} (hd : decode M.2.1 pc = .ok (.bastore, 1)) (ht : Y.2.2.2.1[1]? = some .boolean) (hi : i < Y.2.1) (hs : Y.1 i = .inl (1, n, f)) (hj : vp_in j n) (hv : v = 0 ∨ v = 1) (kk : jj_J Y X d M (pc + 1) lo st (jj_set x i j.toNatClampNeg v) post) : jj_J Y X d M pc lo (.int v :: .int j :: .ref i :: st) x post := by
  intro p e R s m args below meth c F H locs ls hP hS hl
  obtain ⟨hx, hb, -, hown, -, -, -, hK, -, -, hok, -, hts⟩ := id F
  refine va_zast (D := X.2.2.1) hx hb hK hP (jj_D hok x) hS i 1 (by rw [jj_ws_get hi, hs]; rfl) (jj_tys_get ht) hj hd (fun H1 locs1 hP1 hD1 hS1 => ?_)
  have e0 : vp_nar .boolean v = v := by rcases hv with rfl | rfl <;> decide
  have e1 : (Sum.inl (X.2.2.2.1 1, n, Sum.inl (upd (x i) j.toNatClampNeg (vp_nar .boolean v))) : va_E) = jj_e X (Y.1 i) (upd (x i) j.toNatClampNeg v) := by rw [hs, e0]; rfl
  rw [e1, jj_ws_set hi] at hP1
  exact kk p e R s m args below meth c F H1 locs1 ls hP1 hS1 hl
theorem jj_ireturn {v : Int32} (hd : decode M.2.1 pc = .ok (.ireturn, 1)) (hr : M.2.2.2 = some .int) (hp : post (some (.int v)) x) : jj_J Y X d M pc lo [.int v] x post := by
  intro p e R s m args below meth c F H locs ls hP hS hl
  obtain ⟨hx, hb, -, hown, hrt, hlk, -, hK, -, -, hok, -, hts⟩ := id F
  exact W.iret hx hb (hrt.trans hr) (fun t ht hW => ⟨⟨some (.int v), x, rfl, hp, by rw [ht]; exact hP, va_K.moved hW.alike hK⟩, hS.F ht⟩) hS.2.2 hd hlk
theorem jj_zreturn {v : Int32} (hd : decode M.2.1 pc = .ok (.ireturn, 1)) (hr : M.2.2.2 = some .boolean) (hv : v = 0 ∨ v = 1) (hp : post (some (.int v)) x) : jj_J Y X d M pc lo [.int v] x post := by
  intro p e R s m args below meth c F H locs ls hP hS hl
  obtain ⟨hx, hb, -, hown, hrt, hlk, -, hK, -, -, hok, -, hts⟩ := id F
  exact W.zret hx hb (hrt.trans hr) (jj_bool hv).1 (fun t ht hW => ⟨⟨some (.int v), x, rfl, hp, by rw [ht]; exact hP, va_K.moved hW.alike hK⟩, hS.F ht⟩) hS.2.2 hd hlk
theorem jj_return (hd : decode M.2.1 pc = .ok (.return_, 1)) (hr : M.2.2.2 = none) (hp : post none x) : jj_J Y X d M pc lo [] x post := by
  intro p e R s m args below meth c F H locs ls hP hS hl
  obtain ⟨hx, hb, -, hown, hrt, hlk, -, hK, -, -, hok, -, hts⟩ := id F
  exact W.vret hx hb (hrt.trans hr) (fun t ht hW => ⟨⟨none, x, rfl, hp, by rw [ht]; exact hP, va_K.moved hW.alike hK⟩, hS.F ht⟩) hS.2.2 hd hlk
theorem jj_areturn {i : Nat} {C : String} (hd : decode M.2.1 pc = .ok (.areturn, 1)) (hr : M.2.2.2 = some (.object C)) (hp : post (some (.ref i)) x) : jj_J Y X d M pc lo [.ref i] x post := by
  intro p e R s m args below meth c F H locs ls hP hS hl
  obtain ⟨hx, hb, -, hown, hrt, hlk, -, hK, -, -, hok, -, hts⟩ := id F
  exact W.aret (v := .ref (X.2.1 i)) hx hb (hrt.trans hr) (Or.inl ⟨_, rfl⟩) (Or.inr ⟨_, rfl⟩) (fun t ht hW => ⟨⟨some (.ref i), x, rfl, hp, by rw [ht]; exact hP, va_K.moved hW.alike hK⟩, hS.F ht⟩) hS.2.2 hd hlk
end JJF
/-! calls -/
theorem jj_in.blind {Y : jj_Y} {X : jj_X} {x : jj_Mem} {av : List Value} : FrameBlind (va_Pc av (jj_in Y X x)) := by
  intro a U g mk h
  obtain ⟨h0, hP, hK, hw, hz, hok⟩ := h
  exact ⟨h0, hP, va_K.moved (u := U) (U := U.calling g mk a) (Vm.Alike.refl U.vm) hK, fun w hw2 a2 V hV => hw w hw2 a2 V (State.WarmedH.of_rootvm (s := U.calling g mk a) (u := U) rfl hV), hz, hok⟩
def jj_cm (Y : jj_Y) (N : jj_M) (n : Nat) : Prop := Cond.initialized N.1.cls ∈ Y.2.2.2.2 ∧ Cond.code N.1 N.2.1 N.2.2.1 N.2.2.2 ∈ Y.2.2.2.2 ∧ (N.1.cls ≠ "java/lang/invoke/MethodHandle" ∧ N.1.cls ≠ "java/lang/invoke/VarHandle" ∧ (parseMethodDescriptor N.1.desc).map (fun d => d.parameters.length) = some n) ∧ N.2.2.1 ≤ 21
def jj_cv (Y : jj_Y) (own : String) (idx : Nat) (N : jj_M) (n : Nat) : Prop := jj_cm Y N n ∧ Cond.methodLink own idx N.1 ∈ Y.2.2.2.2 ∧ Cond.instanceMethod N.1 ∈ Y.2.2.2.2 ∧ Cond.selects N.1.cls N.1 N.1 ∈ Y.2.2.2.2
def jj_cs (Y : jj_Y) (own : String) (idx : Nat) (N : jj_M) (n : Nat) : Prop := jj_cm Y N n ∧ Cond.methodLink own idx N.1 ∈ Y.2.2.2.2 ∧ Cond.static N.1 ∈ Y.2.2.2.2
def jj_cn (Y : jj_Y) (own : String) (idx : Nat) (N : jj_M) (n : Nat) : Prop := jj_cm Y N n ∧ (∃ host, Cond.methodLinkNest own idx N.1 host ∈ Y.2.2.2.2) ∧ Cond.static N.1 ∈ Y.2.2.2.2
section JJC
variable {Y : jj_Y} {X : jj_X} {d : Nat} {M N : jj_M} {pc : Nat} {lo : List (Option Value)} {st stk : List Value} {x : jj_Mem} {post post' : Option Value → jj_Mem → Prop}
/-- behind a call -/
theorem jj_behind {p : Program} {e : Env} {R : Room} {s : State} {m : MethodId} {args : Array Value} {below : List Frame} {meth : Method} {c : Code} {H : Heap} {locs : List Loc} {ls : Array Slot} {a : Array Value}
    (F : jj_fr Y X d M p R s m args meth c) (hS : va_S (jj_A X) s.heap H locs) (hl : jj_has X ls M.2.2.1 lo)
    (hr : va_Run p X.1 e R s m args below meth c H locs 0 0 0 0 (F0 m pc ls (stk.map (jj_v X))) (st.map (jj_v X)) (jj_Q Y X post' a) (jj_A X))
    (kk : ∀ (r : Option Value) (x' : jj_Mem), post' r x' → jj_J Y X d M (pc + 3) lo (r.toList ++ st) x' post) :
    W p X.1 e R s m args below meth c H locs 0 0 (MQ below (jj_Q Y X post) args s 0 0 (jj_A X)) (F0 m pc ls (stk.map (jj_v X))) := by
  intro T hT Z
  obtain ⟨v, st₀, t, T', L, h0, Z', hL, e1, e2, ⟨⟨r, x', hv, hp, hPt, hKt⟩, hz, hk⟩, go⟩ := hr T hT Z
  cases hv
  rw [h0] at hz hk
  have hS' : va_S (jj_A X) s.heap T'.heap (locs ++ L) := ⟨Nat.le_trans hS.1 (by rw [e1]; exact hz), fun q h1 h2 => by rw [e1, hk q (Nat.lt_of_lt_of_le h1 hS.1) h2]; exact hS.2.1 q h1 h2, fun q hq => by
      rcases List.mem_append.mp hq with h | h
      · exact hS.2.2 q h
      · exact hL q h⟩
  obtain ⟨t2, a1, b1⟩ := kk r x' hp p e R s m args below meth c F T'.heap (locs ++ L) ls (by rw [e1]; exact hPt) hS' hl T' rfl Z'
  refine ⟨t2, go t2 ?_, b1⟩
  have e3 : (r.map (jj_v X)).toList ++ st.map (jj_v X) = (r.toList ++ st).map (jj_v X) := by cases r <;> simp
  rw [e3]
  exact a1
theorem jj_pre {p : Program} {R : Room} {s : State} {m : MethodId} {args : Array Value} {meth : Method} {c : Code} {H : Heap} {locs : List Loc} {as : List Value}
    (F : jj_fr Y X d M p R s m args meth c) (hP : va_P X.2.2.1 Y.2.2.1 (jj_ws Y X x) H) (hS : va_S (jj_A X) s.heap H locs) : PreS s H (va_Pc (as.map (jj_v X)) (jj_in Y X x)) (as.map (jj_v X)) := by
  obtain ⟨hx, hb, -, hown, hrt, hlk, hw, hK, -, -, hok, hsz, hts⟩ := id F
  exact ⟨jj_in.blind, fun U hU hW => ⟨rfl, by rw [hU]; exact hP, va_K.moved hW.alike hK, hw.moved hW, by rw [hU]; exact hsz.mono hS.1, hok⟩⟩
theorem jj_cb {p : Program} {R : Room} {s : State} {m : MethodId} {args : Array Value} {meth : Method} {c : Code} {own : String} {idx n : Nat}
    (F : jj_fr Y X (d + 1) M p R s m args meth c) (hk : jj_cm Y N n) (hlk : Cond.methodLink own idx N.1 ∈ Y.2.2.2.2) : CallB R s args own idx N.1 N.2.1 N.2.2.1 N.2.2.2 [.code N.1 N.2.1 N.2.2.1 N.2.2.2] ({ frames := d, cells := 0, slots := 0, locals := 40 * d }) 0 0 n := by
  obtain ⟨hx, hb, -, hown, hrt, -, hw, hK, hfr, hlo, hok, hsz, hts⟩ := id F
  obtain ⟨k1, k2, k3, k4⟩ := hk
  refine ⟨rfl, rfl, hfr, ?_, fun w hw2 a' U hW => ?_, List.mem_singleton.mpr rfl, hts _ k2, hts _ k1, ⟨k3.1, k3.2.1⟩, fun sig h => ?_, hts _ hlk⟩
  · show 8 + (N.2.2.1 + 11) + 40 * d ≤ R.locals
    omega
  · rw [List.mem_singleton.mp hw2]
    exact hw _ k2 a' U hW
  · have h2 := k3.2.2
    rw [h] at h2
    exact (Option.some.inj h2).symm
theorem jj_callV {i idx ci n : Nat} {fs : List (Option (Option Nat))} {as : List Value} (hM : jj_Met Y X d N (.ref i :: as) x post') (hd : decode M.2.1 pc = .ok (.invokevirtual idx, 3)) (hk : jj_cv Y M.1.cls idx N n) (hi : i < Y.2.1) (hs : Y.1 i = .inr (ci, fs)) (hc : ∃ q, Y.2.2.1[ci]? = some q ∧ q.1 = N.1.cls) (hn : as.length = n) (hst : stk = as.reverse ++ .ref i :: st) (hroom : (st.map fun v => v.category).sum ≤ 8)
    (kk : ∀ (r : Option Value) (x' : jj_Mem), post' r x' → jj_J Y X (d + 1) M (pc + 3) lo (r.toList ++ st) x' post) : jj_J Y X (d + 1) M pc lo stk x post := by
  intro p e R s m args below meth c F H locs ls hP hS hl
  obtain ⟨hx, hb, hml, hown, hrt, hlk, hw, hK, hfr, hlo, hok, hsz, hts⟩ := id F
  obtain ⟨q, hq, hqn⟩ := hc
  have hrecv := va_recv (D := X.2.2.1) (a := X.2.1 i) (q0 := i) (fs := jj_fl X (x i) 0 fs) hK hP hq (by rw [jj_ws_get hi, hs]; rfl)
  rw [hqn] at hrecv
  refine jj_behind F hS hl (va_runV (n := n) (nL := M.2.2.1) (C := N.1.cls) (As := as.map (jj_v X)) (b := X.2.1 i) (rest := st.map (jj_v X)) ⟨hx, hb, hml, hown, hts⟩ hM ⟨jj_cb F hk.1 hk.2.1, hts _ hk.2.2.1, hts _ hk.2.2.2⟩ ⟨jj_in.blind, hrecv, (jj_pre (as := .ref i :: as) F hP hS).2⟩ rfl (by rw [List.length_map]; exact hn) hl.1 ?_ ?_ hd ⟨Nat.zero_le _, Nat.zero_le _⟩) kk
  · show stk.map (jj_v X) = _
    rw [hst, List.map_append, List.map_reverse]
    rfl
  · refine lv_room ?_
    rw [List.map_map]
    rw [show ((fun v : Value => v.category) ∘ jj_v X) = (fun v => v.category) from funext (fun v => jj_v_cat X v)]
    exact hroom
theorem jj_callS {idx n : Nat} {as : List Value} (hM : jj_Met Y X d N as x post') (hd : decode M.2.1 pc = .ok (.invokestatic idx, 3)) (hk : jj_cs Y M.1.cls idx N n) (hn : as.length = n) (hst : stk = as.reverse ++ st) (hroom : (st.map fun v => v.category).sum ≤ 8)
    (kk : ∀ (r : Option Value) (x' : jj_Mem), post' r x' → jj_J Y X (d + 1) M (pc + 3) lo (r.toList ++ st) x' post) : jj_J Y X (d + 1) M pc lo stk x post := by
  intro p e R s m args below meth c F H locs ls hP hS hl
  obtain ⟨hx, hb, hml, hown, hrt, hlk, hw, hK, hfr, hlo, hok, hsz, hts⟩ := id F
  refine jj_behind F hS hl (va_runS (n := n) (nL := M.2.2.1) (As := as.map (jj_v X)) (rest := st.map (jj_v X)) ⟨hx, hb, hml, hown, hts⟩ hM ⟨jj_cb F hk.1 hk.2.1, hts _ hk.2.2⟩ (jj_pre F hP hS) rfl (by rw [List.length_map]; exact hn) hl.1 ?_ ?_ hd ⟨Nat.zero_le _, Nat.zero_le _⟩) kk
  · show stk.map (jj_v X) = _
    rw [hst, List.map_append, List.map_reverse]
  · refine lv_room ?_
    rw [List.map_map]
    rw [show ((fun v : Value => v.category) ∘ jj_v X) = (fun v => v.category) from funext (fun v => jj_v_cat X v)]
    exact hroom
theorem jj_callSN {idx n : Nat} {as : List Value} (hM : jj_Met Y X d N as x post') (hd : decode M.2.1 pc = .ok (.invokestatic idx, 3)) (hk : jj_cn Y M.1.cls idx N n) (hn : as.length = n) (hst : stk = as.reverse ++ st) (hroom : (st.map fun v => v.category).sum ≤ 8)
    (kk : ∀ (r : Option Value) (x' : jj_Mem), post' r x' → jj_J Y X (d + 1) M (pc + 3) lo (r.toList ++ st) x' post) : jj_J Y X (d + 1) M pc lo stk x post := by
  intro p e R s m args below meth c F H locs ls hP hS hl
  obtain ⟨hx, hb, hml, hown, hrt, hlk, hw, hK, hfr, hlo, hok, hsz, hts⟩ := id F
  obtain ⟨⟨k1, k2, k3, k4⟩, ⟨host, k5⟩, k6⟩ := hk
  refine jj_behind F hS hl (va_runSN (n := n) (nL := M.2.2.1) (host := host) (As := as.map (jj_v X)) (rest := st.map (jj_v X)) ⟨hx, hb, hml, hown, hts⟩ hM ⟨⟨⟨rfl, rfl, hfr, ?_, fun w hw2 a' U hW => ?_, List.mem_singleton.mpr rfl⟩, hts _ k2, hts _ k1, ⟨k3.1, k3.2.1⟩, fun sig h => ?_, hts _ k5⟩, hts _ k6, trivial⟩ (jj_pre F hP hS) rfl (by rw [List.length_map]; exact hn) hl.1 ?_ ?_ hd ⟨Nat.zero_le _, Nat.zero_le _⟩) kk
  · show 8 + (N.2.2.1 + 11) + 40 * d ≤ R.locals
    omega
  · rw [List.mem_singleton.mp hw2]
    exact hw _ k2 a' U hW
  · have h2 := k3.2.2
    rw [h] at h2
    exact (Option.some.inj h2).symm
  · show stk.map (jj_v X) = _
    rw [hst, List.map_append, List.map_reverse]
  · refine lv_room ?_
    rw [List.map_map]
    rw [show ((fun v : Value => v.category) ∘ jj_v X) = (fun v => v.category) from funext (fun v => jj_v_cat X v)]
    exact hroom
/-- Math.max -/
theorem jj_max {idx : Nat} {a b : Int32} (hd : decode M.2.1 pc = .ok (.invokestatic idx, 3)) (h1 : Cond.methodLink M.1.cls idx Lib.Math.max.name ∈ Y.2.2.2.2) (h2 : Cond.static Lib.Math.max.name ∈ Y.2.2.2.2) (h3 : Cond.initialized "java/lang/Math" ∈ Y.2.2.2.2) (h4 : Cond.code Lib.Math.max.name Lib.Math.max.code 2 (some .int) ∈ Y.2.2.2.2) (hroom : (st.map fun v => v.category).sum ≤ 8)
    (k : jj_J Y X (d + 1) M (pc + 3) lo (.int (if a < b then b else a) :: st) x post) : jj_J Y X (d + 1) M pc lo (.int b :: .int a :: st) x post := by
  intro p e R s m args below meth c F H locs ls hP hS hl
  obtain ⟨hx, hb, hml, hown, hrt, hlk, hw, hK, hfr, hlo, hok, hsz, hts⟩ := id F
  refine va_mmax hx hb (by rw [hml, hl.1]) hown (hts _ h1) (hts _ h2) (hts _ h3) (hts _ h4) (by omega) ?_ (Nat.zero_le _) (Nat.zero_le _) hd (k p e R s m args below meth c F H locs ls hP hS hl)
  rw [List.map_map]
  rw [show ((fun v : Value => v.category) ∘ jj_v X) = (fun v => v.category) from funext (fun v => jj_v_cat X v)]
  omega
/-- System.arraycopy of ints -/
theorem jj_copy {idx i0 i1 n0 n1 : Nat} {f0 f1 : Nat → Nat} {sp dp n : Int32} (hd : decode M.2.1 pc = .ok (.invokestatic idx, 3)) (k1 : Cond.methodLink M.1.cls idx arraycopyName ∈ Y.2.2.2.2) (k2 : Cond.native arraycopyName ∈ Y.2.2.2.2) (k3 : Cond.static arraycopyName ∈ Y.2.2.2.2) (k4 : Cond.initialized "java/lang/System" ∈ Y.2.2.2.2) (ht : Y.2.2.2.1[0]? = some .int) (hroom : (st.map fun v => v.category).sum ≤ 8)
    (hi0 : i0 < Y.2.1) (hs0 : Y.1 i0 = .inl (0, n0, f0)) (hi1 : i1 < Y.2.1) (hs1 : Y.1 i1 = .inl (0, n1, f1)) (h1 : ¬ sp < 0) (h2 : ¬ dp < 0) (h3 : ¬ n < 0) (h4 : sp.toNatClampNeg + n.toNatClampNeg ≤ n0) (h5 : dp.toNatClampNeg + n.toNatClampNeg ≤ n1)
    (k : jj_J Y X (d + 1) M (pc + 3) lo st (va_up x i1 (va_cpy (x i0) (x i1) sp.toNatClampNeg dp.toNatClampNeg n.toNatClampNeg)) post) : jj_J Y X (d + 1) M pc lo (.int n :: .int dp :: .ref i1 :: .int sp :: .ref i0 :: st) x post := by
  intro p e R s m args below meth c F H locs ls hP hS hl
  obtain ⟨hx, hb, hml, hown, hrt, hlk, hw, hK, hfr, hlo, hok, hsz, hts⟩ := id F
  refine va_copyi (D := X.2.2.1) hx hb (by rw [hml, hl.1]) hown (hts _ k1) (hts _ k2) (hts _ k3) (hts _ k4) hK hP (jj_D hok x) hS i0 i1 0 0 (by rw [jj_ws_get hi0, hs0]; rfl) (by rw [jj_ws_get hi1, hs1]; rfl) (jj_tys_get ht) (jj_tys_get ht) rfl h1 h2 h3 h4 h5 (fun _ _ => rfl) (by omega) ?_ hd (fun H1 locs1 hP1 hD1 hS1 => ?_)
  · rw [List.map_map]
    rw [show ((fun v : Value => v.category) ∘ jj_v X) = (fun v => v.category) from funext (fun v => jj_v_cat X v)]
    have e9 : nativeFrameWords "java/lang/System" "arraycopy" 5 + 11 ≤ 32 := by decide +kernel
    omega
  · have e1 : (Sum.inl (X.2.2.2.1 0, n1, Sum.inl (va_cpy (x i0) (x i1) sp.toNatClampNeg dp.toNatClampNeg n.toNatClampNeg)) : va_E) = jj_e X (Y.1 i1) (va_cpy (x i0) (x i1) sp.toNatClampNeg dp.toNatClampNeg n.toNatClampNeg) := by rw [hs1]; rfl
    rw [e1, jj_ws_set hi1] at hP1
    exact k p e R s m args below meth c F H1 locs1 ls hP1 hS1 hl
end JJC
/-- a contract's post may be weakened -/
theorem jj_J.mono {Y : jj_Y} {X : jj_X} {d : Nat} {M : jj_M} {pc : Nat} {lo : List (Option Value)} {st : List Value} {x : jj_Mem} {post post' : Option Value → jj_Mem → Prop} (h : jj_J Y X d M pc lo st x post) (hp : ∀ r x', post r x' → post' r x') : jj_J Y X d M pc lo st x post' := by
  intro p e R s m args below meth c F H locs ls hP hS hl T hT Z
  obtain ⟨t, a, o, b1, b2, ⟨⟨r, x', q1, q2, q3⟩, q4⟩, b3⟩ := h p e R s m args below meth c F H locs ls hP hS hl T hT Z
  exact ⟨t, a, o, b1, b2, ⟨⟨r, x', q1, hp r x' q2, q3⟩, q4⟩, b3⟩
theorem jj_J.sub {Y : jj_Y} {X : jj_X} {d : Nat} {M : jj_M} {pc : Nat} {lo lo' : List (Option Value)} {st : List Value} {x : jj_Mem} {post : Option Value → jj_Mem → Prop} (h : jj_J Y X d M pc lo' st x post) (hs : ∀ (i : Nat) (v : Value), lo'[i]? = some (some v) → lo[i]? = some (some v)) : jj_J Y X d M pc lo st x post := by
  intro p e R s m args below meth c F H locs ls hP hS hl
  exact h p e R s m args below meth c F H locs ls hP hS ⟨hl.1, hl.2.1, fun i v hi => hl.2.2 i v (hs i v hi)⟩
end
section
/-! what the laid functions are made of -/
theorem jj_gt {c : Prop} [Decidable c] {α : Type} {a : Option α} {q : α} (h : (if c then a else none) = some q) : c ∧ a = some q := by
  by_cases hc : c
  · rw [if_pos hc] at h; exact ⟨hc, h⟩
  · rw [if_neg hc] at h; cases h
def jj_b1 {α γ : Type} (o : Option α) (k : α → Option γ) : Option γ := match o with
  | some a => k a
  | none => none
def jj_b2 {α β γ : Type} (o : Option (α × β)) (k : α → β → Option γ) : Option γ := match o with
  | some (a, b) => k a b
  | none => none
theorem jj_b1o {α γ : Type} {o : Option α} {k : α → Option γ} {q : γ} (h : jj_b1 o k = some q) : ∃ a, o = some a ∧ k a = some q := by
  cases o with
  | none => cases h
  | some a => exact ⟨a, rfl, h⟩
theorem jj_b2o {α β γ : Type} {o : Option (α × β)} {k : α → β → Option γ} {q : γ} (h : jj_b2 o k = some q) : ∃ a b, o = some (a, b) ∧ k a b = some q := by
  cases o with
  | none => cases h
  | some a => exact ⟨a.1, a.2, rfl, h⟩
def jj_inb (j : Int32) (n : Nat) : Bool := !(decide (j < 0)) && decide (j.toNatClampNeg < n)
theorem jj_inn {j : Int32} {n : Nat} (h : jj_inb j n = true) : vp_in j n := by
  simp only [jj_inb, Bool.and_eq_true, Bool.not_eq_true', decide_eq_false_iff_not, decide_eq_true_eq] at h
  rintro (q | q)
  · exact h.1 q
  · exact Nat.not_le.mpr h.2 q
theorem jj_inb_nI {a n : Nat} (h : a < n) (hn : n < 2 ^ 31) : jj_inb (nI a) n = true := by
  simp only [jj_inb, Bool.and_eq_true, Bool.not_eq_true', decide_eq_false_iff_not, decide_eq_true_eq]
  exact ⟨nI_pos (by omega), by rw [nI_clamp (by omega)]; exact h⟩
def jj_nz (b : Int32) : Bool := !(b == 0)
theorem jj_nzo {b : Int32} (h : jj_nz b = true) : ¬ b = 0 := by
  simpa [jj_nz] using h
def jj_zb (v : Int32) : Bool := v == 0 || v == 1
theorem jj_zbo {v : Int32} (h : jj_zb v = true) : v = 0 ∨ v = 1 := by
  simpa [jj_zb] using h
def jj_cpb (sp dp n : Int32) (n0 n1 : Nat) : Bool := !(decide (sp < 0)) && !(decide (dp < 0)) && !(decide (n < 0)) && decide (sp.toNatClampNeg + n.toNatClampNeg ≤ n0) && decide (dp.toNatClampNeg + n.toNatClampNeg ≤ n1)
theorem jj_cpo {sp dp n : Int32} {n0 n1 : Nat} (h : jj_cpb sp dp n n0 n1 = true) : ¬ sp < 0 ∧ ¬ dp < 0 ∧ ¬ n < 0 ∧ sp.toNatClampNeg + n.toNatClampNeg ≤ n0 ∧ dp.toNatClampNeg + n.toNatClampNeg ≤ n1 := by
  simp only [jj_cpb, Bool.and_eq_true, Bool.not_eq_true', decide_eq_false_iff_not, decide_eq_true_eq] at h
  exact ⟨h.1.1.1.1, h.1.1.1.2, h.1.1.2, h.1.2, h.2⟩
theorem jj_andl {a b : Bool} (h : (a && b) = true) : a = true := by simp at h; exact h.1
theorem jj_andr {a b : Bool} (h : (a && b) = true) : b = true := by simp at h; exact h.2
def jj_mask : List Bool → List (Option Value) → List (Option Value)
  | true :: ks, v :: lo => v :: jj_mask ks lo
  | false :: ks, _ :: lo => none :: jj_mask ks lo
  | _, _ => []
theorem jj_mask_ok : ∀ (ks : List Bool) {lo : List (Option Value)} {i : Nat} {v : Value}, (jj_mask ks lo)[i]? = some (some v) → lo[i]? = some (some v)
  | [], lo, i, v, h => by simp [jj_mask] at h
  | true :: ks, [], i, v, h => by simp [jj_mask] at h
  | false :: ks, [], i, v, h => by simp [jj_mask] at h
  | true :: ks, u :: lo, 0, v, h => by simpa [jj_mask] using h
  | true :: ks, u :: lo, i + 1, v, h => by
    simp only [jj_mask, List.getElem?_cons_succ] at h ⊢
    exact jj_mask_ok ks h
  | false :: ks, u :: lo, 0, v, h => by simp [jj_mask] at h
  | false :: ks, u :: lo, i + 1, v, h => by
    simp only [jj_mask, List.getElem?_cons_succ] at h ⊢
    exact jj_mask_ok ks h
def jp_i (q : Int32 × jj_Mem) : Option Value → jj_Mem → Prop := fun r x => r = some (.int q.1) ∧ x = q.2
def jp_v (q : jj_Mem) : Option Value → jj_Mem → Prop := fun r x => r = none ∧ x = q
def jp_r (q : Nat × jj_Mem) : Option Value → jj_Mem → Prop := fun r x => r = some (.ref q.1) ∧ x = q.2
/-- a contract, from the judgement at the entry, with k empty places behind the arguments -/
theorem jj_metp {Y : jj_Y} {X : jj_X} {d : Nat} {M : jj_M} {as : List Value} {x : jj_Mem} {post : Option Value → jj_Mem → Prop} (k : Nat) {lo : List (Option Value)} (hy : plainName M.1.cls = true) (hn : (lg_sl as).length ≤ M.2.2.1) (hlo : jj_lo as ++ List.replicate k none = lo) (h : jj_J Y X d M 0 lo [] x post) : jj_Met Y X d M as x post := by
  refine jj_met hy hn (fun i v hi => ?_) h
  subst hlo
  by_cases q : i < (jj_lo as).length
  · rwa [List.getElem?_append_left q] at hi
  · rw [List.getElem?_append_right (by omega), List.getElem?_replicate] at hi
    split at hi <;> simp at hi
section JJK
variable {Y : jj_Y} {X : jj_X} {d : Nat} {M N : jj_M} {pc : Nat} {lo : List (Option Value)} {st stk : List Value} {x x1 : jj_Mem} {post : Option Value → jj_Mem → Prop}
theorem jj_callVi {i idx ci n : Nat} {fs : List (Option (Option Nat))} {as : List Value} {r : Int32} (hM : jj_Met Y X d N (.ref i :: as) x (jp_i (r, x1))) (hd : decode M.2.1 pc = .ok (.invokevirtual idx, 3)) (hk : jj_cv Y M.1.cls idx N n) (hi : i < Y.2.1) (hs : Y.1 i = .inr (ci, fs)) (hc : ∃ q, Y.2.2.1[ci]? = some q ∧ q.1 = N.1.cls) (hn : as.length = n) (hst : stk = as.reverse ++ .ref i :: st) (hroom : (st.map fun v => v.category).sum ≤ 8) (kk : jj_J Y X (d + 1) M (pc + 3) lo (.int r :: st) x1 post) : jj_J Y X (d + 1) M pc lo stk x post :=
  jj_callV hM hd hk hi hs hc hn hst hroom (fun r2 x2 h => by obtain ⟨rfl, rfl⟩ := h; exact kk)
theorem jj_callVv {i idx ci n : Nat} {fs : List (Option (Option Nat))} {as : List Value} (hM : jj_Met Y X d N (.ref i :: as) x (jp_v x1)) (hd : decode M.2.1 pc = .ok (.invokevirtual idx, 3)) (hk : jj_cv Y M.1.cls idx N n) (hi : i < Y.2.1) (hs : Y.1 i = .inr (ci, fs)) (hc : ∃ q, Y.2.2.1[ci]? = some q ∧ q.1 = N.1.cls) (hn : as.length = n) (hst : stk = as.reverse ++ .ref i :: st) (hroom : (st.map fun v => v.category).sum ≤ 8) (kk : jj_J Y X (d + 1) M (pc + 3) lo st x1 post) : jj_J Y X (d + 1) M pc lo stk x post :=
  jj_callV hM hd hk hi hs hc hn hst hroom (fun r2 x2 h => by obtain ⟨rfl, rfl⟩ := h; exact kk)
theorem jj_callVr {i idx ci n : Nat} {fs : List (Option (Option Nat))} {as : List Value} {r : Nat} (hM : jj_Met Y X d N (.ref i :: as) x (jp_r (r, x1))) (hd : decode M.2.1 pc = .ok (.invokevirtual idx, 3)) (hk : jj_cv Y M.1.cls idx N n) (hi : i < Y.2.1) (hs : Y.1 i = .inr (ci, fs)) (hc : ∃ q, Y.2.2.1[ci]? = some q ∧ q.1 = N.1.cls) (hn : as.length = n) (hst : stk = as.reverse ++ .ref i :: st) (hroom : (st.map fun v => v.category).sum ≤ 8) (kk : jj_J Y X (d + 1) M (pc + 3) lo (.ref r :: st) x1 post) : jj_J Y X (d + 1) M pc lo stk x post :=
  jj_callV hM hd hk hi hs hc hn hst hroom (fun r2 x2 h => by obtain ⟨rfl, rfl⟩ := h; exact kk)
theorem jj_callSi {idx n : Nat} {as : List Value} {r : Int32} (hM : jj_Met Y X d N as x (jp_i (r, x1))) (hd : decode M.2.1 pc = .ok (.invokestatic idx, 3)) (hk : jj_cs Y M.1.cls idx N n) (hn : as.length = n) (hst : stk = as.reverse ++ st) (hroom : (st.map fun v => v.category).sum ≤ 8) (kk : jj_J Y X (d + 1) M (pc + 3) lo (.int r :: st) x1 post) : jj_J Y X (d + 1) M pc lo stk x post :=
  jj_callS hM hd hk hn hst hroom (fun r2 x2 h => by obtain ⟨rfl, rfl⟩ := h; exact kk)
theorem jj_callSNi {idx n : Nat} {as : List Value} {r : Int32} (hM : jj_Met Y X d N as x (jp_i (r, x1))) (hd : decode M.2.1 pc = .ok (.invokestatic idx, 3)) (hk : jj_cn Y M.1.cls idx N n) (hn : as.length = n) (hst : stk = as.reverse ++ st) (hroom : (st.map fun v => v.category).sum ≤ 8) (kk : jj_J Y X (d + 1) M (pc + 3) lo (.int r :: st) x1 post) : jj_J Y X (d + 1) M pc lo stk x post :=
  jj_callSN hM hd hk hn hst hroom (fun r2 x2 h => by obtain ⟨rfl, rfl⟩ := h; exact kk)
end JJK
end
section
/-! methods over ints alone, by reckoning: se_run walks the code itself; what it answers, the method answers -/
def se_cmp (c : Jvm.ClassFile.Cond) (a b : Int32) : Bool := match c with
  | .eq => a == b
  | .ne => !(a == b)
  | .lt => decide (a < b)
  | .ge => decide (b ≤ a)
  | .gt => decide (b < a)
  | .le => decide (a ≤ b)
def se_code (bs : ByteArray) (pc : Nat) : Option (Instr × Nat) := match decode bs pc with
  | .ok r => some r
  | .error _ => none
theorem se_code_ok {bs : ByteArray} {pc : Nat} {r : Instr × Nat} (h : se_code bs pc = some r) : decode bs pc = .ok r := by
  unfold se_code at h
  split at h
  · next r2 e => rw [e]; exact congrArg _ (Option.some.inj h)
  · cases h
def se_go (pc : Nat) (off : Int) (k : Nat → Option Int32) : Option Int32 := match (pc : Int) + off with
  | .ofNat t => k t
  | .negSucc _ => none
theorem se_go_ok {pc : Nat} {off : Int} {k : Nat → Option Int32} {v : Int32} (h : se_go pc off k = some v) : ∃ t : Nat, (pc : Int) + off = (t : Int) ∧ k t = some v := by
  unfold se_go at h
  split at h
  · next t e => exact ⟨t, e, h⟩
  · cases h
def se_run (bz : Bool) (nL : Nat) (call : Nat → Option (Nat × (List Int32 → Option Int32))) (code : Nat → Option (Instr × Nat)) : Nat → Nat → List Int32 → List Int32 → Option Int32
  | 0, _, _, _ => none
  | f + 1, pc, lo, st => match code pc with
    | some (.iload_n k, 1) => match lo[(k : Nat)]? with
      | some v => se_run bz nL call code f (pc + 1) lo (v :: st)
      | none => none
    | some (.iload k, 2) => match lo[k]? with
      | some v => se_run bz nL call code f (pc + 2) lo (v :: st)
      | none => none
    | some (.iconst n, 1) => se_run bz nL call code f (pc + 1) lo (Int32.ofInt n :: st)
    | some (.bipush n, 2) => se_run bz nL call code f (pc + 2) lo ((Int8.ofInt n).toInt32 :: st)
    | some (.sipush n, 3) => se_run bz nL call code f (pc + 3) lo ((Int16.ofInt n).toInt32 :: st)
    | some (.istore_n k, 1) => match st with
      | v :: st => if (k : Nat) < nL ∧ (k : Nat) ≤ lo.length then se_run bz nL call code f (pc + 1) (if (k : Nat) = lo.length then lo ++ [v] else lo.set k v) st else none
      | [] => none
    | some (.istore k, 2) => match st with
      | v :: st => if k < nL ∧ k ≤ lo.length then se_run bz nL call code f (pc + 2) (if k = lo.length then lo ++ [v] else lo.set k v) st else none
      | [] => none
    | some (.iadd, 1) => match st with
      | b :: a :: st => se_run bz nL call code f (pc + 1) lo ((a + b) :: st)
      | _ => none
    | some (.isub, 1) => match st with
      | b :: a :: st => se_run bz nL call code f (pc + 1) lo ((a - b) :: st)
      | _ => none
    | some (.imul, 1) => match st with
      | b :: a :: st => se_run bz nL call code f (pc + 1) lo ((a * b) :: st)
      | _ => none
    | some (.ifCond c off, 3) => match st with
      | a :: st => se_go pc off (fun t => if se_cmp c a 0 = true then se_run bz nL call code f t lo st else se_run bz nL call code f (pc + 3) lo st)
      | [] => none
    | some (.if_icmp c off, 3) => match st with
      | b :: a :: st => se_go pc off (fun t => if se_cmp c a b = true then se_run bz nL call code f t lo st else se_run bz nL call code f (pc + 3) lo st)
      | _ => none
    | some (.goto off, 3) => se_go pc off (fun t => se_run bz nL call code f t lo st)
    | some (.lookupswitch dflt ps, _) => match st with
      | a :: st => if (ps.toList.zip (ps.toList.drop 1)).all (fun (a, next) => a.1 < next.1) = true then se_go pc (Op.lookupswitch.offset ps.toList dflt a.toInt) (fun t => se_run bz nL call code f t lo st) else none
      | [] => none
    | some (.invokestatic idx, 3) => match call idx with
      | some (n, g) => if n ≤ st.length ∧ (st.drop n).length ≤ 8 then (match g (st.take n).reverse with
        | some v => se_run bz nL call code f (pc + 3) lo (v :: st.drop n)
        | none => none) else none
      | none => none
    | some (.ireturn, 1) => match st with
      | [v] => if bz = true then (if v = 0 ∨ v = 1 then some v else none) else some v
      | _ => none
    | _ => none
def se_lo (lo : List Int32) : List (Option Value) := lo.map (fun v => some (Value.int v))
def se_st (st : List Int32) : List Value := st.map (fun v => Value.int v)
theorem se_lo_get {lo : List Int32} {k : Nat} {v : Int32} (h : lo[k]? = some v) : (se_lo lo)[k]? = some (some (.int v)) := by
  simp [se_lo, h]
theorem se_k1 (lo : List Int32) (k : Nat) : jj_k1 (se_lo lo) k = true := by
  cases k with
  | zero => rfl
  | succ k =>
    simp only [jj_k1, se_lo, List.getElem?_map]
    cases lo[k]? <;> rfl
theorem se_cat : ∀ st : List Int32, ((se_st st).map fun v => v.category).sum = st.length
  | [] => rfl
  | a :: r => by
    have := se_cat r
    simp only [se_st, List.map_cons, List.sum_cons, List.length_cons] at this ⊢
    rw [this]
    simp [Value.category, Nat.add_comm]
theorem se_set {lo : List Int32} {k : Nat} {v : Int32} (hk : k ≤ lo.length) : ∀ (i : Nat) (u : Value), (se_lo (if k = lo.length then lo ++ [v] else lo.set k v))[i]? = some (some u) → ((se_lo lo ++ [none]).set k (some (.int v)))[i]? = some (some u) := by
  intro i u h
  have hl : (se_lo lo).length = lo.length := by simp [se_lo]
  by_cases e : k = lo.length
  · rw [if_pos e] at h
    subst e
    by_cases hi : i < lo.length
    · rw [List.getElem?_set_ne (by omega), List.getElem?_append_left (by omega)]
      simp only [se_lo, List.map_append, List.map_cons, List.map_nil] at h
      rw [List.getElem?_append_left (by simpa using hi)] at h
      exact h
    · simp only [se_lo, List.map_append, List.map_cons, List.map_nil] at h
      rw [List.getElem?_append_right (by simp; omega)] at h
      have hz := (List.getElem?_eq_some_iff.mp h).1
      simp at hz
      have e2 : i = lo.length := by omega
      subst e2
      simp at h
      rw [List.getElem?_set_self (by simp [hl])]
      exact congrArg (fun z => some (some z)) h
  · rw [if_neg e] at h
    have hlt : k < lo.length := by omega
    by_cases hi : i = k
    · subst hi
      simp [se_lo, hlt] at h
      rw [List.getElem?_set_self (by simp [hl]; omega)]
      exact congrArg (fun z => some (some z)) h
    · rw [List.getElem?_set_ne (Ne.symm hi)]
      simp only [se_lo, List.getElem?_map] at h
      rw [List.getElem?_set_ne (Ne.symm hi)] at h
      have hi2 : i < lo.length := by
        by_cases q : i < lo.length
        · exact q
        · rw [List.getElem?_eq_none (by omega)] at h; cases h
      rw [List.getElem?_append_left (by omega)]
      simpa [se_lo] using h
set_option maxHeartbeats 4000000 in
theorem se_sound {Y : jj_Y} {X : jj_X} {D : Nat} {M : jj_M} {x : jj_Mem} {bz : Bool} {nL : Nat} {call : Nat → Option (Nat × (List Int32 → Option Int32))} {code : Nat → Option (Instr × Nat)} (hnL : nL = M.2.2.1) (hret : M.2.2.2 = some (if bz = true then .boolean else .int)) (hcode : ∀ pc r, code pc = some r → decode M.2.1 pc = .ok r)
    (hcall : ∀ idx n g, call idx = some (n, g) → ∃ (d : Nat) (N : jj_M), D = d + 1 ∧ (jj_cs Y M.1.cls idx N n ∨ jj_cn Y M.1.cls idx N n) ∧ ∀ (as : List Int32) (v : Int32), as.length = n → g as = some v → jj_Met Y X d N (se_st as) x (fun r x' => r = some (.int v) ∧ x' = x)) :
    ∀ (f pc : Nat) (lo st : List Int32) (v : Int32), se_run bz nL call code f pc lo st = some v → jj_J Y X D M pc (se_lo lo) (se_st st) x (fun r x' => r = some (.int v) ∧ x' = x) := by
  intro f
  induction f with
  | zero => intro pc lo st v h; simp [se_run] at h
  | succ f ih =>
    intro pc lo st v h
    have hset : ∀ (k : Nat) (w : Int32), k ≤ lo.length → ∀ (pc2 : Nat) (st2 : List Int32), jj_J Y X D M pc2 (se_lo (if k = lo.length then lo ++ [w] else lo.set k w)) (se_st st2) x (fun r x' => r = some (.int v) ∧ x' = x) → jj_J Y X D M pc2 ((se_lo lo ++ [none]).set k (some (.int w))) (se_st st2) x (fun r x' => r = some (.int v) ∧ x' = x) := fun k w hk pc2 st2 hJ => hJ.sub (se_set hk)
    have hwide : ∀ (pc2 : Nat) (st2 : List Value), jj_J Y X D M pc2 (se_lo lo ++ [none]) st2 x (fun r x' => r = some (.int v) ∧ x' = x) → jj_J Y X D M pc2 (se_lo lo) st2 x (fun r x' => r = some (.int v) ∧ x' = x) := fun pc2 st2 hJ => hJ.sub (fun i u hi => by
      by_cases q : i < (se_lo lo).length
      · rwa [List.getElem?_append_left q] at hi
      · rw [List.getElem?_append_right (by omega)] at hi
        have hz := (List.getElem?_eq_some_iff.mp hi).1
        simp at hz
        have e : i - (se_lo lo).length = 0 := by omega
        rw [e] at hi
        simp at hi)
    have hk1 : ∀ k : Nat, jj_k1 (se_lo lo ++ [none]) k = true := by
      intro k
      cases k with
      | zero => rfl
      | succ k =>
        have := se_k1 lo (k + 1)
        simp only [jj_k1] at this ⊢
        by_cases q : k < (se_lo lo).length
        · rwa [List.getElem?_append_left q]
        · rw [List.getElem?_append_right (by omega)]
          cases k - (se_lo lo).length <;> simp
    unfold se_run at h
    split at h
    · next k e =>
      split at h
      · next w hw => exact jj_iload_n (hcode _ _ e) (se_lo_get hw) (ih _ _ _ _ h)
      · cases h
    · next k e =>
      split at h
      · next w hw => exact jj_iload (hcode _ _ e) (se_lo_get hw) (ih _ _ _ _ h)
      · cases h
    · next n e => exact jj_iconst (hcode _ _ e) rfl (ih _ _ _ _ h)
    · next n e => exact jj_bipush (hcode _ _ e) rfl (ih _ _ _ _ h)
    · next n e => exact jj_sipush (hcode _ _ e) rfl (ih _ _ _ _ h)
    · next k e =>
      split at h
      · next w st2 =>
        split at h
        · next hk => exact hwide _ _ (jj_istore_n (hcode _ _ e) rfl (hnL ▸ hk.1) (hk1 _) (hset _ _ hk.2 _ _ (ih _ _ _ _ h)))
        · cases h
      · cases h
    · next k e =>
      split at h
      · next w st2 =>
        split at h
        · next hk => exact hwide _ _ (jj_istore (hcode _ _ e) rfl (hnL ▸ hk.1) (hk1 _) (hset _ _ hk.2 _ _ (ih _ _ _ _ h)))
        · cases h
      · cases h
    · next e =>
      split at h
      · exact jj_iadd (hcode _ _ e) (ih _ _ _ _ h)
      · cases h
    · next e =>
      split at h
      · exact jj_isub (hcode _ _ e) (ih _ _ _ _ h)
      · cases h
    · next e =>
      split at h
      · exact jj_imul (hcode _ _ e) (ih _ _ _ _ h)
      · cases h
    · next cnd off e =>
      split at h
      · next a st2 =>
        obtain ⟨t, ht, h⟩ := se_go_ok h
        have hd := hcode _ _ e
        split at h
        · next hc =>
          have K := ih _ _ _ _ h
          cases cnd <;> simp only [se_cmp, beq_iff_eq, Bool.not_eq_true', beq_eq_false_iff_ne, decide_eq_true_eq, ne_eq] at hc
          · exact jj_if_eq hd ht (fun _ => K) (fun q => absurd hc q)
          · exact jj_if_ne hd ht (fun _ => K) (fun q => absurd q hc)
          · exact jj_if_lt hd ht (fun _ => K) (fun q => absurd hc q)
          · exact jj_if_ge hd ht (fun _ => K) (fun q => absurd hc q)
          · exact jj_if_gt hd ht (fun _ => K) (fun q => absurd hc q)
          · exact jj_if_le hd ht (fun _ => K) (fun q => absurd hc q)
        · next hc =>
          have K := ih _ _ _ _ h
          cases cnd <;> simp only [se_cmp, beq_iff_eq, Bool.not_eq_true', beq_eq_false_iff_ne, decide_eq_true_eq, ne_eq, Classical.not_not] at hc
          · exact jj_if_eq hd ht (fun q => absurd q hc) (fun _ => K)
          · exact jj_if_ne hd ht (fun q => absurd hc q) (fun _ => K)
          · exact jj_if_lt hd ht (fun q => absurd q hc) (fun _ => K)
          · exact jj_if_ge hd ht (fun q => absurd q hc) (fun _ => K)
          · exact jj_if_gt hd ht (fun q => absurd q hc) (fun _ => K)
          · exact jj_if_le hd ht (fun q => absurd q hc) (fun _ => K)
      · cases h
    · next cnd off e =>
      split at h
      · next b a st2 =>
        obtain ⟨t, ht, h⟩ := se_go_ok h
        have hd := hcode _ _ e
        split at h
        · next hc =>
          have K := ih _ _ _ _ h
          cases cnd <;> simp only [se_cmp, beq_iff_eq, Bool.not_eq_true', beq_eq_false_iff_ne, decide_eq_true_eq, ne_eq] at hc
          · exact jj_ic_eq hd ht (fun _ => K) (fun q => absurd hc q)
          · exact jj_ic_ne hd ht (fun _ => K) (fun q => absurd q hc)
          · exact jj_ic_lt hd ht (fun _ => K) (fun q => absurd hc q)
          · exact jj_ic_ge hd ht (fun _ => K) (fun q => absurd hc q)
          · exact jj_ic_gt hd ht (fun _ => K) (fun q => absurd hc q)
          · exact jj_ic_le hd ht (fun _ => K) (fun q => absurd hc q)
        · next hc =>
          have K := ih _ _ _ _ h
          cases cnd <;> simp only [se_cmp, beq_iff_eq, Bool.not_eq_true', beq_eq_false_iff_ne, decide_eq_true_eq, ne_eq, Classical.not_not] at hc
          · exact jj_ic_eq hd ht (fun q => absurd q hc) (fun _ => K)
          · exact jj_ic_ne hd ht (fun q => absurd hc q) (fun _ => K)
          · exact jj_ic_lt hd ht (fun q => absurd q hc) (fun _ => K)
          · exact jj_ic_ge hd ht (fun q => absurd q hc) (fun _ => K)
          · exact jj_ic_gt hd ht (fun q => absurd q hc) (fun _ => K)
          · exact jj_ic_le hd ht (fun q => absurd q hc) (fun _ => K)
      · cases h
    · next off e =>
      obtain ⟨t, ht, h⟩ := se_go_ok h
      exact jj_goto (hcode _ _ e) ht (ih _ _ _ _ h)
    · next dflt ps n e =>
      split at h
      · next a st2 =>
        split at h
        · next hp =>
          obtain ⟨t, ht, h⟩ := se_go_ok h
          exact jj_lookup (hcode _ _ e) hp rfl ht (ih _ _ _ _ h)
        · cases h
      · cases h
    · next idx e =>
      split at h
      · next n g hc =>
        split at h
        · next hn =>
          split at h
          · next w hg =>
            obtain ⟨d, N, rfl, hN, hM⟩ := hcall idx n g hc
            have hM' := hM _ w (by simp; omega) hg
            have hst : se_st st = (se_st (st.take n).reverse).reverse ++ se_st (st.drop n) := by
              simp only [se_st, List.map_reverse, List.reverse_reverse, ← List.map_append, List.take_append_drop]
            have hlen : (se_st (st.take n).reverse).length = n := by simp [se_st]; omega
            have hroom : ((se_st (st.drop n)).map fun v => v.category).sum ≤ 8 := by rw [se_cat]; exact hn.2
            have K := ih _ _ _ _ h
            rcases hN with hN | hN
            · exact jj_callS hM' (hcode _ _ e) hN hlen hst hroom (fun r x' hr => by obtain ⟨rfl, rfl⟩ := hr; exact K)
            · exact jj_callSN hM' (hcode _ _ e) hN hlen hst hroom (fun r x' hr => by obtain ⟨rfl, rfl⟩ := hr; exact K)
          · cases h
        · cases h
      · cases h
    · next e =>
      split at h
      · next w =>
        split at h
        · next hb =>
          split at h
          · next hw =>
            cases h
            exact jj_zreturn (hcode _ _ e) (by rw [hret, if_pos hb]) hw ⟨rfl, rfl⟩
          · cases h
        · next hb =>
          cases h
          exact jj_ireturn (hcode _ _ e) (by rw [hret, if_neg hb]) ⟨rfl, rfl⟩
      · cases h
    · cases h
theorem se_sound0 {Y : jj_Y} {X : jj_X} {d : Nat} {M : jj_M} {x : jj_Mem} {bz : Bool} {nL : Nat} {code : Nat → Option (Instr × Nat)} (hnL : nL = M.2.2.1) (hret : M.2.2.2 = some (if bz = true then .boolean else .int)) (hcode : ∀ pc r, code pc = some r → decode M.2.1 pc = .ok r) :
    ∀ (f pc : Nat) (lo st : List Int32) (v : Int32), se_run bz nL (fun _ => none) code f pc lo st = some v → jj_J Y X d M pc (se_lo lo) (se_st st) x (fun r x' => r = some (.int v) ∧ x' = x) :=
  se_sound hnL hret hcode (fun _ _ _ h => by cases h)
theorem jj_pad (k : Nat) {l : List (Option Value)} {i : Nat} {u : Value} (h : l[i]? = some (some u)) : (l ++ List.replicate k none)[i]? = some (some u) := by
  have hl := (List.getElem?_eq_some_iff.mp h).1
  rw [List.getElem?_append_left hl]
  exact h
end
section
/-! names: the objects' kinds, their fields, the methods -/
def jR_VC : String := "VerifiedCode"
def jF_VC : u_T := fun k => match k with
  | 0 => ("VerifiedCode", "typed", "[I", true)
  | 1 => ("VerifiedCode", "typedCount", "I", false)
  | 2 => ("VerifiedCode", "program", "LVerifiedCode$Program;", false)
  | 3 => ("VerifiedCode", "spare", "LVerifiedCode$Program;", false)
  | 4 => ("VerifiedCode", "reader", "LVerifiedCode$Reader;", true)
  | 5 => ("VerifiedCode", "checker", "LVerifiedCode$Checker;", true)
  | _ => ("VerifiedCode", "machine", "LVerifiedCode$Machine;", true)
def jt_VC : Nat → FieldType := fun k => match k with
  | 0 => (.array .int)
  | 1 => .int
  | 2 => (.object "VerifiedCode$Program")
  | 3 => (.object "VerifiedCode$Program")
  | 4 => (.object "VerifiedCode$Reader")
  | 5 => (.object "VerifiedCode$Checker")
  | _ => (.object "VerifiedCode$Machine")
theorem jn_VC : ∀ a, a < 7 → ∀ b, b < 7 → a ≠ b → (jF_VC a).2.1 ≠ (jF_VC b).2.1 := by decide +kernel
theorem jt_VC_ok : ∀ k, k < 7 → parseFieldDescriptor (jF_VC k).2.2.1 = some (jt_VC k) := by decide +kernel
def jR_Pr : String := "VerifiedCode$Program"
def jF_Pr : u_T := fun k => match k with
  | 0 => ("VerifiedCode$Program", "file", "[I", true)
  | 1 => ("VerifiedCode$Program", "fileSize", "I", false)
  | 2 => ("VerifiedCode$Program", "constantCount", "I", false)
  | 3 => ("VerifiedCode$Program", "constantsAt", "I", false)
  | 4 => ("VerifiedCode$Program", "methodCount", "I", false)
  | _ => ("VerifiedCode$Program", "parts", "[LVerifiedCode$Method;", true)
def jt_Pr : Nat → FieldType := fun k => match k with
  | 0 => (.array .int)
  | 1 => .int
  | 2 => .int
  | 3 => .int
  | 4 => .int
  | _ => (.array (.object "VerifiedCode$Method"))
theorem jn_Pr : ∀ a, a < 6 → ∀ b, b < 6 → a ≠ b → (jF_Pr a).2.1 ≠ (jF_Pr b).2.1 := by decide +kernel
theorem jt_Pr_ok : ∀ k, k < 6 → parseFieldDescriptor (jF_Pr k).2.2.1 = some (jt_Pr k) := by decide +kernel
def jR_Me : String := "VerifiedCode$Method"
def jF_Me : u_T := fun k => match k with
  | 0 => ("VerifiedCode$Method", "parameterCount", "I", false)
  | 1 => ("VerifiedCode$Method", "parametersAt", "I", false)
  | 2 => ("VerifiedCode$Method", "returns", "I", false)
  | 3 => ("VerifiedCode$Method", "depth", "I", false)
  | 4 => ("VerifiedCode$Method", "places", "I", false)
  | 5 => ("VerifiedCode$Method", "codeAt", "I", false)
  | 6 => ("VerifiedCode$Method", "codeLength", "I", false)
  | 7 => ("VerifiedCode$Method", "frameCount", "I", false)
  | _ => ("VerifiedCode$Method", "framesAt", "[I", true)
def jt_Me : Nat → FieldType := fun k => match k with
  | 0 => .int
  | 1 => .int
  | 2 => .int
  | 3 => .int
  | 4 => .int
  | 5 => .int
  | 6 => .int
  | 7 => .int
  | _ => (.array .int)
theorem jn_Me : ∀ a, a < 9 → ∀ b, b < 9 → a ≠ b → (jF_Me a).2.1 ≠ (jF_Me b).2.1 := by decide +kernel
theorem jt_Me_ok : ∀ k, k < 9 → parseFieldDescriptor (jF_Me k).2.2.1 = some (jt_Me k) := by decide +kernel
def jR_Rd : String := "VerifiedCode$Reader"
def jF_Rd : u_T := fun k => match k with
  | 0 => ("VerifiedCode$Reader", "at", "I", false)
  | 1 => ("VerifiedCode$Reader", "latest", "I", false)
  | _ => ("VerifiedCode$Reader", "begins", "[Z", true)
def jt_Rd : Nat → FieldType := fun k => match k with
  | 0 => .int
  | 1 => .int
  | _ => (.array .boolean)
theorem jn_Rd : ∀ a, a < 3 → ∀ b, b < 3 → a ≠ b → (jF_Rd a).2.1 ≠ (jF_Rd b).2.1 := by decide +kernel
theorem jt_Rd_ok : ∀ k, k < 3 → parseFieldDescriptor (jF_Rd k).2.2.1 = some (jt_Rd k) := by decide +kernel
def jR_St : String := "VerifiedCode$State"
def jF_St : u_T := fun k => match k with
  | 0 => ("VerifiedCode$State", "placeKinds", "[I", true)
  | 1 => ("VerifiedCode$State", "placeValues", "[I", true)
  | 2 => ("VerifiedCode$State", "kinds", "[I", true)
  | 3 => ("VerifiedCode$State", "values", "[I", true)
  | _ => ("VerifiedCode$State", "height", "I", false)
def jt_St : Nat → FieldType := fun k => match k with
  | 0 => (.array .int)
  | 1 => (.array .int)
  | 2 => (.array .int)
  | 3 => (.array .int)
  | _ => .int
theorem jn_St : ∀ a, a < 5 → ∀ b, b < 5 → a ≠ b → (jF_St a).2.1 ≠ (jF_St b).2.1 := by decide +kernel
theorem jt_St_ok : ∀ k, k < 5 → parseFieldDescriptor (jF_St k).2.2.1 = some (jt_St k) := by decide +kernel
def jR_Ck : String := "VerifiedCode$Checker"
def jF_Ck : u_T := fun k => match k with
  | 0 => ("VerifiedCode$Checker", "state", "LVerifiedCode$State;", true)
  | _ => ("VerifiedCode$Checker", "hasState", "Z", false)
def jt_Ck : Nat → FieldType := fun k => match k with
  | 0 => (.object "VerifiedCode$State")
  | _ => .boolean
theorem jn_Ck : ∀ a, a < 2 → ∀ b, b < 2 → a ≠ b → (jF_Ck a).2.1 ≠ (jF_Ck b).2.1 := by decide +kernel
theorem jt_Ck_ok : ∀ k, k < 2 → parseFieldDescriptor (jF_Ck k).2.2.1 = some (jt_Ck k) := by decide +kernel
def jR_Ma : String := "VerifiedCode$Machine"
def jF_Ma : u_T := fun k => match k with
  | 0 => ("VerifiedCode$Machine", "lastResult", "I", false)
  | 1 => ("VerifiedCode$Machine", "stepsDone", "I", false)
  | 2 => ("VerifiedCode$Machine", "states", "[LVerifiedCode$State;", true)
  | 3 => ("VerifiedCode$Machine", "running", "[I", true)
  | 4 => ("VerifiedCode$Machine", "offsets", "[I", true)
  | 5 => ("VerifiedCode$Machine", "top", "I", false)
  | 6 => ("VerifiedCode$Machine", "elements", "[I", true)
  | 7 => ("VerifiedCode$Machine", "lengths", "[I", true)
  | _ => ("VerifiedCode$Machine", "rowCount", "I", false)
def jt_Ma : Nat → FieldType := fun k => match k with
  | 0 => .int
  | 1 => .int
  | 2 => (.array (.object "VerifiedCode$State"))
  | 3 => (.array .int)
  | 4 => (.array .int)
  | 5 => .int
  | 6 => (.array .int)
  | 7 => (.array .int)
  | _ => .int
theorem jn_Ma : ∀ a, a < 9 → ∀ b, b < 9 → a ≠ b → (jF_Ma a).2.1 ≠ (jF_Ma b).2.1 := by decide +kernel
theorem jt_Ma_ok : ∀ k, k < 9 → parseFieldDescriptor (jF_Ma k).2.2.1 = some (jt_Ma k) := by decide +kernel
def jR_Mo : String := "VerifiedCodeModel"
def jF_Mo : u_T := fun k => match k with
  | 0 => ("VerifiedCodeModel", "code", "I", false)
  | 1 => ("VerifiedCodeModel", "size", "I", false)
  | 2 => ("VerifiedCodeModel", "file", "[I", false)
  | 3 => ("VerifiedCodeModel", "at", "I", false)
  | 4 => ("VerifiedCodeModel", "failed", "Z", false)
  | 5 => ("VerifiedCodeModel", "there", "Z", false)
  | 6 => ("VerifiedCodeModel", "keptSize", "I", false)
  | 7 => ("VerifiedCodeModel", "kept", "[I", false)
  | 8 => ("VerifiedCodeModel", "base", "I", false)
  | 9 => ("VerifiedCodeModel", "params", "I", false)
  | 10 => ("VerifiedCodeModel", "depth", "I", false)
  | 11 => ("VerifiedCodeModel", "places", "I", false)
  | 12 => ("VerifiedCodeModel", "length", "I", false)
  | 13 => ("VerifiedCodeModel", "start", "I", false)
  | 14 => ("VerifiedCodeModel", "placeKind", "[I", false)
  | 15 => ("VerifiedCodeModel", "placeValue", "[I", false)
  | 16 => ("VerifiedCodeModel", "stackKind", "[I", false)
  | 17 => ("VerifiedCodeModel", "stackValue", "[I", false)
  | 18 => ("VerifiedCodeModel", "height", "[I", false)
  | 19 => ("VerifiedCodeModel", "where", "[I", false)
  | 20 => ("VerifiedCodeModel", "which", "[I", false)
  | 21 => ("VerifiedCodeModel", "open", "I", false)
  | 22 => ("VerifiedCodeModel", "some", "Z", false)
  | 23 => ("VerifiedCodeModel", "made", "I", false)
  | 24 => ("VerifiedCodeModel", "rowSize", "[I", false)
  | 25 => ("VerifiedCodeModel", "cells", "[I", false)
  | 26 => ("VerifiedCodeModel", "steps", "I", false)
  | _ => ("VerifiedCodeModel", "result", "I", false)
def jt_Mo : Nat → FieldType := fun k => match k with
  | 0 => .int
  | 1 => .int
  | 2 => (.array .int)
  | 3 => .int
  | 4 => .boolean
  | 5 => .boolean
  | 6 => .int
  | 7 => (.array .int)
  | 8 => .int
  | 9 => .int
  | 10 => .int
  | 11 => .int
  | 12 => .int
  | 13 => .int
  | 14 => (.array .int)
  | 15 => (.array .int)
  | 16 => (.array .int)
  | 17 => (.array .int)
  | 18 => (.array .int)
  | 19 => (.array .int)
  | 20 => (.array .int)
  | 21 => .int
  | 22 => .boolean
  | 23 => .int
  | 24 => (.array .int)
  | 25 => (.array .int)
  | 26 => .int
  | _ => .int
theorem jn_Mo : ∀ a, a < 28 → ∀ b, b < 28 → a ≠ b → (jF_Mo a).2.1 ≠ (jF_Mo b).2.1 := by decide +kernel
theorem jt_Mo_ok : ∀ k, k < 28 → parseFieldDescriptor (jF_Mo k).2.2.1 = some (jt_Mo k) := by decide +kernel
def j_cl : List vw_C := [(jR_VC, jF_VC, 7), (jR_Pr, jF_Pr, 6), (jR_Me, jF_Me, 9), (jR_Rd, jF_Rd, 3), (jR_St, jF_St, 5), (jR_Ck, jF_Ck, 2), (jR_Ma, jF_Ma, 9), (jR_Mo, jF_Mo, 28)]
abbrev m_Ck_firstRefused : jj_M := (⟨"VerifiedCode$Checker", "firstRefused", "(LVerifiedCode$Program;LVerifiedCode$Method;)I"⟩, prog_2_method_2_code, 5, (some .int))
abbrev m_Ck_entersFrame : jj_M := (⟨"VerifiedCode$Checker", "entersFrame", "(LVerifiedCode$Program;LVerifiedCode$Method;I)Z"⟩, prog_2_method_3_code, 6, (some .boolean))
abbrev m_Ck_isGoodForFrame : jj_M := (⟨"VerifiedCode$Checker", "isGoodForFrame", "(LVerifiedCode$Program;LVerifiedCode$Method;I)Z"⟩, prog_2_method_4_code, 5, (some .boolean))
abbrev m_Ck_mayGoToTarget : jj_M := (⟨"VerifiedCode$Checker", "mayGoToTarget", "(LVerifiedCode$Program;LVerifiedCode$Method;I)Z"⟩, prog_2_method_5_code, 5, (some .boolean))
abbrev m_Ck_change : jj_M := (⟨"VerifiedCode$Checker", "change", "(LVerifiedCode$Program;LVerifiedCode$Method;I)V"⟩, prog_2_method_6_code, 5, none)
abbrev m_Ck_typePut : jj_M := (⟨"VerifiedCode$Checker", "typePut", "(LVerifiedCode$Program;LVerifiedCode$Method;I)I"⟩, prog_2_method_7_code, 4, (some .int))
abbrev m_In_hasTarget : jj_M := (⟨"VerifiedCode$Instruction", "hasTarget", "(I)Z"⟩, prog_3_method_2_code, 1, (some .boolean))
abbrev m_In_hasPlace : jj_M := (⟨"VerifiedCode$Instruction", "hasPlace", "(I)Z"⟩, prog_3_method_3_code, 1, (some .boolean))
abbrev m_In_isReturn : jj_M := (⟨"VerifiedCode$Instruction", "isReturn", "(I)Z"⟩, prog_3_method_4_code, 1, (some .boolean))
abbrev m_In_length : jj_M := (⟨"VerifiedCode$Instruction", "length", "(I)I"⟩, prog_3_method_5_code, 1, (some .int))
abbrev m_In_takes : jj_M := (⟨"VerifiedCode$Instruction", "takes", "(I)I"⟩, prog_3_method_6_code, 1, (some .int))
abbrev m_In_typeTaken : jj_M := (⟨"VerifiedCode$Instruction", "typeTaken", "(II)I"⟩, prog_3_method_7_code, 2, (some .int))
abbrev m_In_puts : jj_M := (⟨"VerifiedCode$Instruction", "puts", "(I)I"⟩, prog_3_method_8_code, 1, (some .int))
abbrev m_In_typeOfPlace : jj_M := (⟨"VerifiedCode$Instruction", "typeOfPlace", "(I)I"⟩, prog_3_method_9_code, 1, (some .int))
abbrev m_In_typeOfReturn : jj_M := (⟨"VerifiedCode$Instruction", "typeOfReturn", "(I)I"⟩, prog_3_method_10_code, 1, (some .int))
abbrev m_Ma_begin : jj_M := (⟨"VerifiedCode$Machine", "begin", "(LVerifiedCode$Program;IIII)V"⟩, prog_4_method_2_code, 7, none)
abbrev m_Ma_enter : jj_M := (⟨"VerifiedCode$Machine", "enter", "(I)V"⟩, prog_4_method_3_code, 2, none)
abbrev m_Ma_setArgument : jj_M := (⟨"VerifiedCode$Machine", "setArgument", "(LVerifiedCode$Program;II)V"⟩, prog_4_method_4_code, 6, none)
abbrev m_Ma_newRow : jj_M := (⟨"VerifiedCode$Machine", "newRow", "(I)I"⟩, prog_4_method_5_code, 4, (some .int))
abbrev m_Ma_goToEnd : jj_M := (⟨"VerifiedCode$Machine", "goToEnd", "(LVerifiedCode$Program;)I"⟩, prog_4_method_6_code, 4, (some .int))
abbrev m_Ma_doOne : jj_M := (⟨"VerifiedCode$Machine", "doOne", "(LVerifiedCode$Program;)I"⟩, prog_4_method_7_code, 7, (some .int))
abbrev m_Ma_trouble : jj_M := (⟨"VerifiedCode$Machine", "trouble", "(LVerifiedCode$State;I)I"⟩, prog_4_method_8_code, 3, (some .int))
abbrev m_Ma_troubleOfElement : jj_M := (⟨"VerifiedCode$Machine", "troubleOfElement", "(LVerifiedCode$State;I)I"⟩, prog_4_method_9_code, 4, (some .int))
abbrev m_Ma_call : jj_M := (⟨"VerifiedCode$Machine", "call", "(LVerifiedCode$Program;I)V"⟩, prog_4_method_10_code, 6, none)
abbrev m_Ma_leave : jj_M := (⟨"VerifiedCode$Machine", "leave", "(LVerifiedCode$State;I)I"⟩, prog_4_method_11_code, 6, (some .int))
abbrev m_Ma_resultOf : jj_M := (⟨"VerifiedCode$Machine", "resultOf", "(II)I"⟩, prog_4_method_12_code, 3, (some .int))
abbrev m_Ma_goesToTarget : jj_M := (⟨"VerifiedCode$Machine", "goesToTarget", "(LVerifiedCode$State;I)Z"⟩, prog_4_method_13_code, 4, (some .boolean))
abbrev m_Ma_holds : jj_M := (⟨"VerifiedCode$Machine", "holds", "(III)Z"⟩, prog_4_method_14_code, 4, (some .boolean))
abbrev m_Ma_doWithOperand : jj_M := (⟨"VerifiedCode$Machine", "doWithOperand", "(LVerifiedCode$State;LVerifiedCode$Program;LVerifiedCode$Method;I)V"⟩, prog_4_method_15_code, 6, none)
abbrev m_Ma_doAlone : jj_M := (⟨"VerifiedCode$Machine", "doAlone", "(LVerifiedCode$State;I)V"⟩, prog_4_method_16_code, 5, none)
abbrev m_Ma_storeElement : jj_M := (⟨"VerifiedCode$Machine", "storeElement", "(LVerifiedCode$State;)V"⟩, prog_4_method_17_code, 4, none)
abbrev m_Ma_reckoned : jj_M := (⟨"VerifiedCode$Machine", "reckoned", "(III)I"⟩, prog_4_method_18_code, 4, (some .int))
abbrev m_Pr_takeFile : jj_M := (⟨"VerifiedCode$Program", "takeFile", "([II)V"⟩, prog_6_method_2_code, 3, none)
abbrev m_Pr_constant : jj_M := (⟨"VerifiedCode$Program", "constant", "(I)I"⟩, prog_6_method_3_code, 3, (some .int))
abbrev m_Pr_parameterType : jj_M := (⟨"VerifiedCode$Program", "parameterType", "(LVerifiedCode$Method;I)I"⟩, prog_6_method_4_code, 3, (some .int))
abbrev m_Pr_code : jj_M := (⟨"VerifiedCode$Program", "code", "(LVerifiedCode$Method;I)I"⟩, prog_6_method_5_code, 3, (some .int))
abbrev m_Pr_operand : jj_M := (⟨"VerifiedCode$Program", "operand", "(LVerifiedCode$Method;I)I"⟩, prog_6_method_6_code, 3, (some .int))
abbrev m_Pr_signedByte : jj_M := (⟨"VerifiedCode$Program", "signedByte", "(LVerifiedCode$Method;I)I"⟩, prog_6_method_7_code, 4, (some .int))
abbrev m_Pr_target : jj_M := (⟨"VerifiedCode$Program", "target", "(LVerifiedCode$Method;I)I"⟩, prog_6_method_8_code, 4, (some .int))
abbrev m_Pr_called : jj_M := (⟨"VerifiedCode$Program", "called", "(LVerifiedCode$Method;I)LVerifiedCode$Method;"⟩, prog_6_method_9_code, 3, (some (.object "VerifiedCode$Method")))
abbrev m_Pr_frameOffset : jj_M := (⟨"VerifiedCode$Program", "frameOffset", "(LVerifiedCode$Method;I)I"⟩, prog_6_method_10_code, 3, (some .int))
abbrev m_Pr_framePlace : jj_M := (⟨"VerifiedCode$Program", "framePlace", "(LVerifiedCode$Method;II)I"⟩, prog_6_method_11_code, 4, (some .int))
abbrev m_Pr_frameHeight : jj_M := (⟨"VerifiedCode$Program", "frameHeight", "(LVerifiedCode$Method;I)I"⟩, prog_6_method_12_code, 3, (some .int))
abbrev m_Pr_frameValue : jj_M := (⟨"VerifiedCode$Program", "frameValue", "(LVerifiedCode$Method;II)I"⟩, prog_6_method_13_code, 4, (some .int))
abbrev m_Pr_frameAt : jj_M := (⟨"VerifiedCode$Program", "frameAt", "(LVerifiedCode$Method;I)I"⟩, prog_6_method_14_code, 4, (some .int))
abbrev m_Pr_takenCount : jj_M := (⟨"VerifiedCode$Program", "takenCount", "(LVerifiedCode$Method;I)I"⟩, prog_6_method_15_code, 4, (some .int))
abbrev m_Pr_takenType : jj_M := (⟨"VerifiedCode$Program", "takenType", "(LVerifiedCode$Method;II)I"⟩, prog_6_method_16_code, 5, (some .int))
abbrev m_Pr_putCount : jj_M := (⟨"VerifiedCode$Program", "putCount", "(LVerifiedCode$Method;I)I"⟩, prog_6_method_17_code, 4, (some .int))
abbrev m_Rd_readsFile : jj_M := (⟨"VerifiedCode$Reader", "readsFile", "(LVerifiedCode$Program;)Z"⟩, prog_7_method_2_code, 3, (some .boolean))
abbrev m_Rd_next : jj_M := (⟨"VerifiedCode$Reader", "next", "(LVerifiedCode$Program;II)Z"⟩, prog_7_method_3_code, 4, (some .boolean))
abbrev m_Rd_nextOnes : jj_M := (⟨"VerifiedCode$Reader", "nextOnes", "(LVerifiedCode$Program;III)Z"⟩, prog_7_method_4_code, 6, (some .boolean))
abbrev m_Rd_readsConstants : jj_M := (⟨"VerifiedCode$Reader", "readsConstants", "(LVerifiedCode$Program;)Z"⟩, prog_7_method_5_code, 2, (some .boolean))
abbrev m_Rd_readsMethod : jj_M := (⟨"VerifiedCode$Reader", "readsMethod", "(LVerifiedCode$Program;LVerifiedCode$Method;)Z"⟩, prog_7_method_6_code, 3, (some .boolean))
abbrev m_Rd_readsHead : jj_M := (⟨"VerifiedCode$Reader", "readsHead", "(LVerifiedCode$Program;LVerifiedCode$Method;)Z"⟩, prog_7_method_7_code, 3, (some .boolean))
abbrev m_Rd_readsCode : jj_M := (⟨"VerifiedCode$Reader", "readsCode", "(LVerifiedCode$Program;LVerifiedCode$Method;)Z"⟩, prog_7_method_8_code, 5, (some .boolean))
abbrev m_Rd_readsInstruction : jj_M := (⟨"VerifiedCode$Reader", "readsInstruction", "(LVerifiedCode$Program;LVerifiedCode$Method;I)Z"⟩, prog_7_method_9_code, 6, (some .boolean))
abbrev m_Rd_highestOperand : jj_M := (⟨"VerifiedCode$Reader", "highestOperand", "(LVerifiedCode$Program;LVerifiedCode$Method;II)I"⟩, prog_7_method_10_code, 5, (some .int))
abbrev m_Rd_readsFrames : jj_M := (⟨"VerifiedCode$Reader", "readsFrames", "(LVerifiedCode$Program;LVerifiedCode$Method;)Z"⟩, prog_7_method_11_code, 5, (some .boolean))
abbrev m_Rd_targetsBegin : jj_M := (⟨"VerifiedCode$Reader", "targetsBegin", "(LVerifiedCode$Program;LVerifiedCode$Method;)Z"⟩, prog_7_method_12_code, 4, (some .boolean))
abbrev m_Rd_framesBegin : jj_M := (⟨"VerifiedCode$Reader", "framesBegin", "(LVerifiedCode$Program;LVerifiedCode$Method;)Z"⟩, prog_7_method_13_code, 4, (some .boolean))
abbrev m_Rd_beginsAt : jj_M := (⟨"VerifiedCode$Reader", "beginsAt", "(LVerifiedCode$Method;I)Z"⟩, prog_7_method_14_code, 3, (some .boolean))
abbrev m_St_makeEmpty : jj_M := (⟨"VerifiedCode$State", "makeEmpty", "()V"⟩, prog_8_method_2_code, 2, none)
abbrev m_St_setPlace : jj_M := (⟨"VerifiedCode$State", "setPlace", "(III)V"⟩, prog_8_method_3_code, 4, none)
abbrev m_St_put : jj_M := (⟨"VerifiedCode$State", "put", "(II)V"⟩, prog_8_method_4_code, 3, none)
abbrev m_St_take : jj_M := (⟨"VerifiedCode$State", "take", "()I"⟩, prog_8_method_5_code, 1, (some .int))
abbrev m_St_kindTaken : jj_M := (⟨"VerifiedCode$State", "kindTaken", "()I"⟩, prog_8_method_6_code, 1, (some .int))
abbrev m_St_kindBelow : jj_M := (⟨"VerifiedCode$State", "kindBelow", "(I)I"⟩, prog_8_method_7_code, 2, (some .int))
abbrev m_St_valueBelow : jj_M := (⟨"VerifiedCode$State", "valueBelow", "(I)I"⟩, prog_8_method_8_code, 2, (some .int))
abbrev m_St_putAgain : jj_M := (⟨"VerifiedCode$State", "putAgain", "()V"⟩, prog_8_method_9_code, 1, none)
abbrev m_St_exchange : jj_M := (⟨"VerifiedCode$State", "exchange", "()V"⟩, prog_8_method_10_code, 5, none)
abbrev m_St_moveToPlace : jj_M := (⟨"VerifiedCode$State", "moveToPlace", "(I)V"⟩, prog_8_method_11_code, 3, none)
abbrev m_St_putPlace : jj_M := (⟨"VerifiedCode$State", "putPlace", "(I)V"⟩, prog_8_method_12_code, 2, none)
abbrev m_St_allows : jj_M := (⟨"VerifiedCode$State", "allows", "(LVerifiedCode$Program;LVerifiedCode$Method;I)Z"⟩, prog_8_method_13_code, 6, (some .boolean))
abbrev m_St_hasTaken : jj_M := (⟨"VerifiedCode$State", "hasTaken", "(LVerifiedCode$Program;LVerifiedCode$Method;II)Z"⟩, prog_8_method_14_code, 6, (some .boolean))
abbrev m_St_hasPlace : jj_M := (⟨"VerifiedCode$State", "hasPlace", "(LVerifiedCode$Program;LVerifiedCode$Method;I)Z"⟩, prog_8_method_15_code, 5, (some .boolean))
abbrev m_VC_type : jj_M := (⟨"VerifiedCode", "type", "(JI)I"⟩, prog_1_method_2_code, 5, (some .int))
abbrev m_VC_poke : jj_M := (⟨"VerifiedCode", "poke", "(II)V"⟩, prog_1_method_3_code, 3, none)
abbrev m_VC_size : jj_M := (⟨"VerifiedCode", "size", "()I"⟩, prog_1_method_4_code, 1, (some .int))
abbrev m_VC_byteAt : jj_M := (⟨"VerifiedCode", "byteAt", "(I)I"⟩, prog_1_method_5_code, 2, (some .int))
abbrev m_VC_clear : jj_M := (⟨"VerifiedCode", "clear", "()V"⟩, prog_1_method_6_code, 1, none)
abbrev m_VC_read : jj_M := (⟨"VerifiedCode", "read", "()I"⟩, prog_1_method_7_code, 2, (some .int))
abbrev m_VC_write : jj_M := (⟨"VerifiedCode", "write", "()I"⟩, prog_1_method_8_code, 1, (some .int))
abbrev m_VC_methods : jj_M := (⟨"VerifiedCode", "methods", "()I"⟩, prog_1_method_9_code, 1, (some .int))
abbrev m_VC_check : jj_M := (⟨"VerifiedCode", "check", "(I)I"⟩, prog_1_method_10_code, 2, (some .int))
abbrev m_VC_run : jj_M := (⟨"VerifiedCode", "run", "(IIII)I"⟩, prog_1_method_11_code, 5, (some .int))
abbrev m_VC_result : jj_M := (⟨"VerifiedCode", "result", "()I"⟩, prog_1_method_12_code, 1, (some .int))
abbrev m_VC_steps : jj_M := (⟨"VerifiedCode", "steps", "()I"⟩, prog_1_method_13_code, 1, (some .int))
abbrev m_VC_isGoodFor : jj_M := (⟨"VerifiedCode", "isGoodFor", "(II)Z"⟩, prog_1_method_14_code, 2, (some .boolean))
abbrev m_Mo_thrown : jj_M := (⟨"VerifiedCodeModel", "thrown", "()I"⟩, prog_10_method_2_code, 1, (some .int))
abbrev m_Mo_within : jj_M := (⟨"VerifiedCodeModel", "within", "(III)Z"⟩, prog_10_method_3_code, 3, (some .boolean))
abbrev m_Mo_jumps : jj_M := (⟨"VerifiedCodeModel", "jumps", "(I)Z"⟩, prog_10_method_4_code, 1, (some .boolean))
abbrev m_Mo_names : jj_M := (⟨"VerifiedCodeModel", "names", "(I)Z"⟩, prog_10_method_5_code, 1, (some .boolean))
abbrev m_Mo_returns : jj_M := (⟨"VerifiedCodeModel", "returns", "(I)Z"⟩, prog_10_method_6_code, 1, (some .boolean))
abbrev m_Mo_bytes : jj_M := (⟨"VerifiedCodeModel", "bytes", "(I)I"⟩, prog_10_method_7_code, 2, (some .int))
abbrev m_Mo_need : jj_M := (⟨"VerifiedCodeModel", "need", "(II)I"⟩, prog_10_method_8_code, 3, (some .int))
abbrev m_Mo_puts : jj_M := (⟨"VerifiedCodeModel", "puts", "(I)I"⟩, prog_10_method_9_code, 2, (some .int))
abbrev m_Mo_type : jj_M := (⟨"VerifiedCodeModel", "type", "(JI)I"⟩, prog_10_method_10_code, 5, (some .int))
abbrev m_Mo_poke : jj_M := (⟨"VerifiedCodeModel", "poke", "(II)V"⟩, prog_10_method_11_code, 3, none)
abbrev m_Mo_size : jj_M := (⟨"VerifiedCodeModel", "size", "()I"⟩, prog_10_method_12_code, 1, (some .int))
abbrev m_Mo_byteAt : jj_M := (⟨"VerifiedCodeModel", "byteAt", "(I)I"⟩, prog_10_method_13_code, 2, (some .int))
abbrev m_Mo_clear : jj_M := (⟨"VerifiedCodeModel", "clear", "()V"⟩, prog_10_method_14_code, 1, none)
abbrev m_Mo_next : jj_M := (⟨"VerifiedCodeModel", "next", "(II)I"⟩, prog_10_method_15_code, 3, (some .int))
abbrev m_Mo_skip : jj_M := (⟨"VerifiedCodeModel", "skip", "(III)V"⟩, prog_10_method_16_code, 6, none)
abbrev m_Mo_readInstruction : jj_M := (⟨"VerifiedCodeModel", "readInstruction", "(IIII)V"⟩, prog_10_method_17_code, 9, none)
abbrev m_Mo_begins : jj_M := (⟨"VerifiedCodeModel", "begins", "(III)Z"⟩, prog_10_method_18_code, 5, (some .boolean))
abbrev m_Mo_jump : jj_M := (⟨"VerifiedCodeModel", "jump", "(II)I"⟩, prog_10_method_19_code, 3, (some .int))
abbrev m_Mo_targetsFit : jj_M := (⟨"VerifiedCodeModel", "targetsFit", "(II)Z"⟩, prog_10_method_20_code, 6, (some .boolean))
abbrev m_Mo_readMethod : jj_M := (⟨"VerifiedCodeModel", "readMethod", "(II)V"⟩, prog_10_method_21_code, 14, none)
abbrev m_Mo_read : jj_M := (⟨"VerifiedCodeModel", "read", "()I"⟩, prog_10_method_22_code, 4, (some .int))
abbrev m_Mo_write : jj_M := (⟨"VerifiedCodeModel", "write", "()I"⟩, prog_10_method_23_code, 2, (some .int))
abbrev m_Mo_methodCount : jj_M := (⟨"VerifiedCodeModel", "methodCount", "()I"⟩, prog_10_method_24_code, 1, (some .int))
abbrev m_Mo_methods : jj_M := (⟨"VerifiedCodeModel", "methods", "()I"⟩, prog_10_method_25_code, 1, (some .int))
abbrev m_Mo_codeOf : jj_M := (⟨"VerifiedCodeModel", "codeOf", "(I)I"⟩, prog_10_method_26_code, 2, (some .int))
abbrev m_Mo_lengthOf : jj_M := (⟨"VerifiedCodeModel", "lengthOf", "(I)I"⟩, prog_10_method_27_code, 2, (some .int))
abbrev m_Mo_placesOf : jj_M := (⟨"VerifiedCodeModel", "placesOf", "(I)I"⟩, prog_10_method_28_code, 2, (some .int))
abbrev m_Mo_returnsOf : jj_M := (⟨"VerifiedCodeModel", "returnsOf", "(I)I"⟩, prog_10_method_29_code, 2, (some .int))
abbrev m_Mo_methodAt : jj_M := (⟨"VerifiedCodeModel", "methodAt", "(I)I"⟩, prog_10_method_30_code, 8, (some .int))
abbrev m_Mo_open : jj_M := (⟨"VerifiedCodeModel", "open", "(I)V"⟩, prog_10_method_31_code, 2, none)
abbrev m_Mo_frame : jj_M := (⟨"VerifiedCodeModel", "frame", "(IZ)I"⟩, prog_10_method_32_code, 9, (some .int))
abbrev m_Mo_target : jj_M := (⟨"VerifiedCodeModel", "target", "(I)I"⟩, prog_10_method_33_code, 2, (some .int))
abbrev m_Mo_constant : jj_M := (⟨"VerifiedCodeModel", "constant", "(I)I"⟩, prog_10_method_34_code, 4, (some .int))
abbrev m_Mo_good : jj_M := (⟨"VerifiedCodeModel", "good", "(II)Z"⟩, prog_10_method_35_code, 2, (some .boolean))
abbrev m_Mo_needs : jj_M := (⟨"VerifiedCodeModel", "needs", "(II)I"⟩, prog_10_method_36_code, 5, (some .int))
abbrev m_Mo_takes : jj_M := (⟨"VerifiedCodeModel", "takes", "(I)I"⟩, prog_10_method_37_code, 3, (some .int))
abbrev m_Mo_gives : jj_M := (⟨"VerifiedCodeModel", "gives", "(I)I"⟩, prog_10_method_38_code, 3, (some .int))
abbrev m_Mo_can : jj_M := (⟨"VerifiedCodeModel", "can", "(II)Z"⟩, prog_10_method_39_code, 7, (some .boolean))
abbrev m_Mo_begin : jj_M := (⟨"VerifiedCodeModel", "begin", "(I)V"⟩, prog_10_method_40_code, 3, none)
abbrev m_Mo_push : jj_M := (⟨"VerifiedCodeModel", "push", "(III)V"⟩, prog_10_method_41_code, 4, none)
abbrev m_Mo_become : jj_M := (⟨"VerifiedCodeModel", "become", "(I)V"⟩, prog_10_method_42_code, 3, none)
abbrev m_Mo_fits : jj_M := (⟨"VerifiedCodeModel", "fits", "(I)Z"⟩, prog_10_method_43_code, 4, (some .boolean))
abbrev m_Mo_pass : jj_M := (⟨"VerifiedCodeModel", "pass", "(I)V"⟩, prog_10_method_44_code, 6, none)
abbrev m_Mo_arrive : jj_M := (⟨"VerifiedCodeModel", "arrive", "(I)V"⟩, prog_10_method_45_code, 4, none)
abbrev m_Mo_passes : jj_M := (⟨"VerifiedCodeModel", "passes", "(I)Z"⟩, prog_10_method_46_code, 4, (some .boolean))
abbrev m_Mo_lackOfMethod : jj_M := (⟨"VerifiedCodeModel", "lackOfMethod", "(I)I"⟩, prog_10_method_47_code, 2, (some .int))
abbrev m_Mo_check : jj_M := (⟨"VerifiedCodeModel", "check", "(I)I"⟩, prog_10_method_48_code, 3, (some .int))
abbrev m_Mo_makeRow : jj_M := (⟨"VerifiedCodeModel", "makeRow", "(I)I"⟩, prog_10_method_49_code, 3, (some .int))
abbrev m_Mo_argue : jj_M := (⟨"VerifiedCodeModel", "argue", "(II)V"⟩, prog_10_method_50_code, 5, none)
abbrev m_Mo_run : jj_M := (⟨"VerifiedCodeModel", "run", "(IIII)I"⟩, prog_10_method_51_code, 6, (some .int))
abbrev m_Mo_step : jj_M := (⟨"VerifiedCodeModel", "step", "()I"⟩, prog_10_method_52_code, 6, (some .int))
abbrev m_Mo_wrong : jj_M := (⟨"VerifiedCodeModel", "wrong", "(II)I"⟩, prog_10_method_53_code, 5, (some .int))
abbrev m_Mo_enter : jj_M := (⟨"VerifiedCodeModel", "enter", "(II)V"⟩, prog_10_method_54_code, 5, none)
abbrev m_Mo_leave : jj_M := (⟨"VerifiedCodeModel", "leave", "(III)I"⟩, prog_10_method_55_code, 4, (some .int))
abbrev m_Mo_goes : jj_M := (⟨"VerifiedCodeModel", "goes", "(II)Z"⟩, prog_10_method_56_code, 8, (some .boolean))
abbrev m_Mo_work : jj_M := (⟨"VerifiedCodeModel", "work", "(IIII)V"⟩, prog_10_method_57_code, 12, none)
abbrev m_Mo_small : jj_M := (⟨"VerifiedCodeModel", "small", "(I)I"⟩, prog_10_method_58_code, 1, (some .int))
abbrev m_Mo_value : jj_M := (⟨"VerifiedCodeModel", "value", "(IIII)I"⟩, prog_10_method_59_code, 5, (some .int))
abbrev m_Mo_result : jj_M := (⟨"VerifiedCodeModel", "result", "()I"⟩, prog_10_method_60_code, 1, (some .int))
abbrev m_Mo_steps : jj_M := (⟨"VerifiedCodeModel", "steps", "()I"⟩, prog_10_method_61_code, 1, (some .int))
/-! the words -/
def j_N : List Cond := [.methodLinkNest "VerifiedCode$Checker" 107 ⟨"VerifiedCode", "isGoodFor", "(II)Z"⟩ "VerifiedCode", .methodLinkNest "VerifiedCode$State" 91 ⟨"VerifiedCode", "isGoodFor", "(II)Z"⟩ "VerifiedCode"]
def j_W : List Cond := k2_sels lw_privs ++ (tables_1.filter goodWord ++ j_N)
theorem jw_1 {w : Cond} (h : w ∈ tables_1_1) (hg : goodWord w = true) : w ∈ j_W := List.mem_append_right _ (List.mem_append_left _ (List.mem_filter.mpr ⟨List.mem_append_left _ h, hg⟩))
theorem jw_2 {w : Cond} (h : w ∈ tables_1_2) (hg : goodWord w = true) : w ∈ j_W := List.mem_append_right _ (List.mem_append_left _ (List.mem_filter.mpr ⟨List.mem_append_right _ (List.mem_append_left _ h), hg⟩))
theorem jw_3 {w : Cond} (h : w ∈ tables_1_3) (hg : goodWord w = true) : w ∈ j_W := List.mem_append_right _ (List.mem_append_left _ (List.mem_filter.mpr ⟨List.mem_append_right _ (List.mem_append_right _ (List.mem_append_left _ h)), hg⟩))
theorem jw_4 {w : Cond} (h : w ∈ tables_1_4) (hg : goodWord w = true) : w ∈ j_W := List.mem_append_right _ (List.mem_append_left _ (List.mem_filter.mpr ⟨List.mem_append_right _ (List.mem_append_right _ (List.mem_append_right _ (List.mem_append_left _ h))), hg⟩))
theorem jw_5 {w : Cond} (h : w ∈ tables_1_5) (hg : goodWord w = true) : w ∈ j_W := List.mem_append_right _ (List.mem_append_left _ (List.mem_filter.mpr ⟨List.mem_append_right _ (List.mem_append_right _ (List.mem_append_right _ (List.mem_append_right _ (h)))), hg⟩))
theorem jw_s {w : Cond} (h : w ∈ k2_sels lw_privs) : w ∈ j_W := List.mem_append_left _ h
theorem jw_n0 : j_N[0] ∈ j_W := List.mem_append_right _ (List.mem_append_right _ (List.getElem_mem _))
theorem jw_n1 : j_N[1] ∈ j_W := List.mem_append_right _ (List.mem_append_right _ (List.getElem_mem _))
theorem jj_all {C : String} {T : u_T} (N : Nat) {W : List Cond} (h : ∀ k, k < N → u_lay C T k ∈ W) : ∀ w ∈ u_ws C T N, w ∈ W := by
  intro w hw
  obtain ⟨k, hk, rfl⟩ := List.mem_map.mp hw
  exact h k (List.mem_range.mp hk)
/-- at the law's entry: the words, for all that comes -/
theorem jj_wd_of {args : Array Value} {s : State} (hts : ∀ w ∈ lw_tbl, w.before args s = true) : jj_wd j_W s := by
  intro w hw a V hV
  rcases List.mem_append.mp hw with h | h
  · obtain ⟨q, hq, rfl⟩ := List.mem_map.mp h
    exact word_at hV (Or.inl rfl) (hts _ (List.mem_append_left _ h))
  · rcases List.mem_append.mp h with h | h
    · obtain ⟨h1, h2⟩ := List.mem_filter.mp h
      exact word_at hV (good_of_word h2) (hts _ (List.mem_append_right _ h1))
    · rcases List.mem_cons.mp h with rfl | h
      · exact va_Nw.use rfl (va_Nw.warmM hV (va_Nw.of rfl (hts _ (List.mem_append_right _ (List.mem_append_right _ (List.mem_append_right _ (List.mem_append_left _ (List.mem_of_getElem? (i := 39) rfl))))))))
      · rcases List.mem_cons.mp h with rfl | h
        · exact va_Nw.use rfl (va_Nw.warmM hV (va_Nw.of rfl (hts _ (List.mem_append_right _ (List.mem_append_right _ (List.mem_append_right _ (List.mem_append_left _ (List.mem_of_getElem? (i := 78) rfl))))))))
        · exact absurd h List.not_mem_nil
end
section
theorem d_Ck_firstRefused_0 : decode m_Ck_firstRefused.2.1 0 = .ok (.aload_n 0, 1) := by decide +kernel
theorem d_Ck_firstRefused_1 : decode m_Ck_firstRefused.2.1 1 = .ok (.getfield 12, 3) := by decide +kernel
theorem d_Ck_firstRefused_4 : decode m_Ck_firstRefused.2.1 4 = .ok (.invokevirtual 18, 3) := by decide +kernel
theorem d_Ck_firstRefused_7 : decode m_Ck_firstRefused.2.1 7 = .ok (.iconst 0, 1) := by decide +kernel
theorem d_Ck_firstRefused_8 : decode m_Ck_firstRefused.2.1 8 = .ok (.istore_n 3, 1) := by decide +kernel
theorem d_Ck_firstRefused_9 : decode m_Ck_firstRefused.2.1 9 = .ok (.iload_n 3, 1) := by decide +kernel
theorem d_Ck_firstRefused_10 : decode m_Ck_firstRefused.2.1 10 = .ok (.aload_n 2, 1) := by decide +kernel
theorem d_Ck_firstRefused_11 : decode m_Ck_firstRefused.2.1 11 = .ok (.getfield 21, 3) := by decide +kernel
theorem d_Ck_firstRefused_14 : decode m_Ck_firstRefused.2.1 14 = .ok (.if_icmp .ge 24, 3) := by decide +kernel
theorem d_Ck_firstRefused_17 : decode m_Ck_firstRefused.2.1 17 = .ok (.aload_n 0, 1) := by decide +kernel
theorem d_Ck_firstRefused_18 : decode m_Ck_firstRefused.2.1 18 = .ok (.getfield 12, 3) := by decide +kernel
theorem d_Ck_firstRefused_21 : decode m_Ck_firstRefused.2.1 21 = .ok (.iload_n 3, 1) := by decide +kernel
theorem d_Ck_firstRefused_22 : decode m_Ck_firstRefused.2.1 22 = .ok (.aload_n 1, 1) := by decide +kernel
theorem d_Ck_firstRefused_23 : decode m_Ck_firstRefused.2.1 23 = .ok (.aload_n 2, 1) := by decide +kernel
theorem d_Ck_firstRefused_24 : decode m_Ck_firstRefused.2.1 24 = .ok (.iload_n 3, 1) := by decide +kernel
theorem d_Ck_firstRefused_25 : decode m_Ck_firstRefused.2.1 25 = .ok (.invokevirtual 27, 3) := by decide +kernel
theorem d_Ck_firstRefused_28 : decode m_Ck_firstRefused.2.1 28 = .ok (.iconst 0, 1) := by decide +kernel
theorem d_Ck_firstRefused_29 : decode m_Ck_firstRefused.2.1 29 = .ok (.invokevirtual 33, 3) := by decide +kernel
theorem d_Ck_firstRefused_32 : decode m_Ck_firstRefused.2.1 32 = .ok (.iinc 3 1, 3) := by decide +kernel
theorem d_Ck_firstRefused_35 : decode m_Ck_firstRefused.2.1 35 = .ok (.goto (-26), 3) := by decide +kernel
theorem d_Ck_firstRefused_38 : decode m_Ck_firstRefused.2.1 38 = .ok (.aload_n 0, 1) := by decide +kernel
theorem d_Ck_firstRefused_39 : decode m_Ck_firstRefused.2.1 39 = .ok (.iconst 1, 1) := by decide +kernel
theorem d_Ck_firstRefused_40 : decode m_Ck_firstRefused.2.1 40 = .ok (.putfield 37, 3) := by decide +kernel
theorem d_Ck_firstRefused_43 : decode m_Ck_firstRefused.2.1 43 = .ok (.iconst 0, 1) := by decide +kernel
theorem d_Ck_firstRefused_44 : decode m_Ck_firstRefused.2.1 44 = .ok (.istore_n 3, 1) := by decide +kernel
theorem d_Ck_firstRefused_45 : decode m_Ck_firstRefused.2.1 45 = .ok (.iconst 0, 1) := by decide +kernel
theorem d_Ck_firstRefused_46 : decode m_Ck_firstRefused.2.1 46 = .ok (.istore 4, 2) := by decide +kernel
theorem d_Ck_firstRefused_48 : decode m_Ck_firstRefused.2.1 48 = .ok (.iload 4, 2) := by decide +kernel
theorem d_Ck_firstRefused_50 : decode m_Ck_firstRefused.2.1 50 = .ok (.aload_n 2, 1) := by decide +kernel
theorem d_Ck_firstRefused_51 : decode m_Ck_firstRefused.2.1 51 = .ok (.getfield 41, 3) := by decide +kernel
theorem d_Ck_firstRefused_54 : decode m_Ck_firstRefused.2.1 54 = .ok (.if_icmp .ge 107, 3) := by decide +kernel
theorem d_Ck_firstRefused_57 : decode m_Ck_firstRefused.2.1 57 = .ok (.aload_n 1, 1) := by decide +kernel
theorem d_Ck_firstRefused_58 : decode m_Ck_firstRefused.2.1 58 = .ok (.aload_n 2, 1) := by decide +kernel
theorem d_Ck_firstRefused_59 : decode m_Ck_firstRefused.2.1 59 = .ok (.iload 4, 2) := by decide +kernel
theorem d_Ck_firstRefused_61 : decode m_Ck_firstRefused.2.1 61 = .ok (.invokevirtual 44, 3) := by decide +kernel
theorem d_Ck_firstRefused_64 : decode m_Ck_firstRefused.2.1 64 = .ok (.istore_n 3, 1) := by decide +kernel
theorem d_Ck_firstRefused_65 : decode m_Ck_firstRefused.2.1 65 = .ok (.aload_n 0, 1) := by decide +kernel
theorem d_Ck_firstRefused_66 : decode m_Ck_firstRefused.2.1 66 = .ok (.aload_n 1, 1) := by decide +kernel
theorem d_Ck_firstRefused_67 : decode m_Ck_firstRefused.2.1 67 = .ok (.aload_n 2, 1) := by decide +kernel
theorem d_Ck_firstRefused_68 : decode m_Ck_firstRefused.2.1 68 = .ok (.iload 4, 2) := by decide +kernel
theorem d_Ck_firstRefused_70 : decode m_Ck_firstRefused.2.1 70 = .ok (.invokevirtual 47, 3) := by decide +kernel
theorem d_Ck_firstRefused_73 : decode m_Ck_firstRefused.2.1 73 = .ok (.ifCond .eq 24, 3) := by decide +kernel
theorem d_Ck_firstRefused_76 : decode m_Ck_firstRefused.2.1 76 = .ok (.aload_n 0, 1) := by decide +kernel
theorem d_Ck_firstRefused_77 : decode m_Ck_firstRefused.2.1 77 = .ok (.getfield 37, 3) := by decide +kernel
theorem d_Ck_firstRefused_80 : decode m_Ck_firstRefused.2.1 80 = .ok (.ifCond .eq 17, 3) := by decide +kernel
theorem d_Ck_firstRefused_83 : decode m_Ck_firstRefused.2.1 83 = .ok (.aload_n 0, 1) := by decide +kernel
theorem d_Ck_firstRefused_84 : decode m_Ck_firstRefused.2.1 84 = .ok (.getfield 12, 3) := by decide +kernel
theorem d_Ck_firstRefused_87 : decode m_Ck_firstRefused.2.1 87 = .ok (.aload_n 1, 1) := by decide +kernel
theorem d_Ck_firstRefused_88 : decode m_Ck_firstRefused.2.1 88 = .ok (.aload_n 2, 1) := by decide +kernel
theorem d_Ck_firstRefused_89 : decode m_Ck_firstRefused.2.1 89 = .ok (.iload 4, 2) := by decide +kernel
theorem d_Ck_firstRefused_91 : decode m_Ck_firstRefused.2.1 91 = .ok (.invokevirtual 51, 3) := by decide +kernel
theorem d_Ck_firstRefused_94 : decode m_Ck_firstRefused.2.1 94 = .ok (.ifCond .ne 6, 3) := by decide +kernel
theorem d_Ck_firstRefused_97 : decode m_Ck_firstRefused.2.1 97 = .ok (.iload 4, 2) := by decide +kernel
theorem d_Ck_firstRefused_99 : decode m_Ck_firstRefused.2.1 99 = .ok (.ireturn, 1) := by decide +kernel
theorem d_Ck_firstRefused_100 : decode m_Ck_firstRefused.2.1 100 = .ok (.aload_n 0, 1) := by decide +kernel
theorem d_Ck_firstRefused_101 : decode m_Ck_firstRefused.2.1 101 = .ok (.aload_n 1, 1) := by decide +kernel
theorem d_Ck_firstRefused_102 : decode m_Ck_firstRefused.2.1 102 = .ok (.aload_n 2, 1) := by decide +kernel
theorem d_Ck_firstRefused_103 : decode m_Ck_firstRefused.2.1 103 = .ok (.iload 4, 2) := by decide +kernel
theorem d_Ck_firstRefused_105 : decode m_Ck_firstRefused.2.1 105 = .ok (.invokevirtual 54, 3) := by decide +kernel
theorem d_Ck_firstRefused_108 : decode m_Ck_firstRefused.2.1 108 = .ok (.aload_n 0, 1) := by decide +kernel
theorem d_Ck_firstRefused_109 : decode m_Ck_firstRefused.2.1 109 = .ok (.aload_n 1, 1) := by decide +kernel
theorem d_Ck_firstRefused_110 : decode m_Ck_firstRefused.2.1 110 = .ok (.aload_n 2, 1) := by decide +kernel
theorem d_Ck_firstRefused_111 : decode m_Ck_firstRefused.2.1 111 = .ok (.iload 4, 2) := by decide +kernel
theorem d_Ck_firstRefused_113 : decode m_Ck_firstRefused.2.1 113 = .ok (.invokevirtual 58, 3) := by decide +kernel
theorem d_Ck_firstRefused_116 : decode m_Ck_firstRefused.2.1 116 = .ok (.ifCond .ne 6, 3) := by decide +kernel
theorem d_Ck_firstRefused_119 : decode m_Ck_firstRefused.2.1 119 = .ok (.iload 4, 2) := by decide +kernel
theorem d_Ck_firstRefused_121 : decode m_Ck_firstRefused.2.1 121 = .ok (.ireturn, 1) := by decide +kernel
theorem d_Ck_firstRefused_122 : decode m_Ck_firstRefused.2.1 122 = .ok (.aload_n 0, 1) := by decide +kernel
theorem d_Ck_firstRefused_123 : decode m_Ck_firstRefused.2.1 123 = .ok (.iload_n 3, 1) := by decide +kernel
theorem d_Ck_firstRefused_124 : decode m_Ck_firstRefused.2.1 124 = .ok (.sipush 167, 3) := by decide +kernel
theorem d_Ck_firstRefused_127 : decode m_Ck_firstRefused.2.1 127 = .ok (.if_icmp .eq 14, 3) := by decide +kernel
theorem d_Ck_firstRefused_130 : decode m_Ck_firstRefused.2.1 130 = .ok (.iload_n 3, 1) := by decide +kernel
theorem d_Ck_firstRefused_131 : decode m_Ck_firstRefused.2.1 131 = .ok (.invokestatic 63, 3) := by decide +kernel
theorem d_Ck_firstRefused_134 : decode m_Ck_firstRefused.2.1 134 = .ok (.ifCond .ne 7, 3) := by decide +kernel
theorem d_Ck_firstRefused_137 : decode m_Ck_firstRefused.2.1 137 = .ok (.iconst 1, 1) := by decide +kernel
theorem d_Ck_firstRefused_138 : decode m_Ck_firstRefused.2.1 138 = .ok (.goto 4, 3) := by decide +kernel
theorem d_Ck_firstRefused_141 : decode m_Ck_firstRefused.2.1 141 = .ok (.iconst 0, 1) := by decide +kernel
theorem d_Ck_firstRefused_142 : decode m_Ck_firstRefused.2.1 142 = .ok (.putfield 37, 3) := by decide +kernel
theorem d_Ck_firstRefused_145 : decode m_Ck_firstRefused.2.1 145 = .ok (.iload 4, 2) := by decide +kernel
theorem d_Ck_firstRefused_147 : decode m_Ck_firstRefused.2.1 147 = .ok (.iconst 1, 1) := by decide +kernel
theorem d_Ck_firstRefused_148 : decode m_Ck_firstRefused.2.1 148 = .ok (.iload_n 3, 1) := by decide +kernel
theorem d_Ck_firstRefused_149 : decode m_Ck_firstRefused.2.1 149 = .ok (.invokestatic 67, 3) := by decide +kernel
theorem d_Ck_firstRefused_152 : decode m_Ck_firstRefused.2.1 152 = .ok (.invokestatic 71, 3) := by decide +kernel
theorem d_Ck_firstRefused_155 : decode m_Ck_firstRefused.2.1 155 = .ok (.iadd, 1) := by decide +kernel
theorem d_Ck_firstRefused_156 : decode m_Ck_firstRefused.2.1 156 = .ok (.istore 4, 2) := by decide +kernel
theorem d_Ck_firstRefused_158 : decode m_Ck_firstRefused.2.1 158 = .ok (.goto (-110), 3) := by decide +kernel
theorem d_Ck_firstRefused_161 : decode m_Ck_firstRefused.2.1 161 = .ok (.aload_n 0, 1) := by decide +kernel
theorem d_Ck_firstRefused_162 : decode m_Ck_firstRefused.2.1 162 = .ok (.getfield 37, 3) := by decide +kernel
theorem d_Ck_firstRefused_165 : decode m_Ck_firstRefused.2.1 165 = .ok (.ifCond .eq 10, 3) := by decide +kernel
theorem d_Ck_firstRefused_168 : decode m_Ck_firstRefused.2.1 168 = .ok (.aload_n 2, 1) := by decide +kernel
theorem d_Ck_firstRefused_169 : decode m_Ck_firstRefused.2.1 169 = .ok (.getfield 41, 3) := by decide +kernel
theorem d_Ck_firstRefused_172 : decode m_Ck_firstRefused.2.1 172 = .ok (.goto 4, 3) := by decide +kernel
theorem d_Ck_firstRefused_175 : decode m_Ck_firstRefused.2.1 175 = .ok (.iconst (-1), 1) := by decide +kernel
theorem d_Ck_firstRefused_176 : decode m_Ck_firstRefused.2.1 176 = .ok (.ireturn, 1) := by decide +kernel
theorem d_Ck_entersFrame_0 : decode m_Ck_entersFrame.2.1 0 = .ok (.aload_n 1, 1) := by decide +kernel
theorem d_Ck_entersFrame_1 : decode m_Ck_entersFrame.2.1 1 = .ok (.aload_n 2, 1) := by decide +kernel
theorem d_Ck_entersFrame_2 : decode m_Ck_entersFrame.2.1 2 = .ok (.iload_n 3, 1) := by decide +kernel
theorem d_Ck_entersFrame_3 : decode m_Ck_entersFrame.2.1 3 = .ok (.invokevirtual 77, 3) := by decide +kernel
theorem d_Ck_entersFrame_6 : decode m_Ck_entersFrame.2.1 6 = .ok (.istore 4, 2) := by decide +kernel
theorem d_Ck_entersFrame_8 : decode m_Ck_entersFrame.2.1 8 = .ok (.iload 4, 2) := by decide +kernel
theorem d_Ck_entersFrame_10 : decode m_Ck_entersFrame.2.1 10 = .ok (.iconst (-1), 1) := by decide +kernel
theorem d_Ck_entersFrame_11 : decode m_Ck_entersFrame.2.1 11 = .ok (.if_icmp .ne 5, 3) := by decide +kernel
theorem d_Ck_entersFrame_14 : decode m_Ck_entersFrame.2.1 14 = .ok (.iconst 1, 1) := by decide +kernel
theorem d_Ck_entersFrame_15 : decode m_Ck_entersFrame.2.1 15 = .ok (.ireturn, 1) := by decide +kernel
theorem d_Ck_entersFrame_16 : decode m_Ck_entersFrame.2.1 16 = .ok (.aload_n 0, 1) := by decide +kernel
theorem d_Ck_entersFrame_17 : decode m_Ck_entersFrame.2.1 17 = .ok (.getfield 37, 3) := by decide +kernel
theorem d_Ck_entersFrame_20 : decode m_Ck_entersFrame.2.1 20 = .ok (.ifCond .eq 16, 3) := by decide +kernel
theorem d_Ck_entersFrame_23 : decode m_Ck_entersFrame.2.1 23 = .ok (.aload_n 0, 1) := by decide +kernel
theorem d_Ck_entersFrame_24 : decode m_Ck_entersFrame.2.1 24 = .ok (.aload_n 1, 1) := by decide +kernel
theorem d_Ck_entersFrame_25 : decode m_Ck_entersFrame.2.1 25 = .ok (.aload_n 2, 1) := by decide +kernel
theorem d_Ck_entersFrame_26 : decode m_Ck_entersFrame.2.1 26 = .ok (.iload 4, 2) := by decide +kernel
theorem d_Ck_entersFrame_28 : decode m_Ck_entersFrame.2.1 28 = .ok (.invokevirtual 80, 3) := by decide +kernel
theorem d_Ck_entersFrame_31 : decode m_Ck_entersFrame.2.1 31 = .ok (.ifCond .ne 5, 3) := by decide +kernel
theorem d_Ck_entersFrame_34 : decode m_Ck_entersFrame.2.1 34 = .ok (.iconst 0, 1) := by decide +kernel
theorem d_Ck_entersFrame_35 : decode m_Ck_entersFrame.2.1 35 = .ok (.ireturn, 1) := by decide +kernel
theorem d_Ck_entersFrame_36 : decode m_Ck_entersFrame.2.1 36 = .ok (.iconst 0, 1) := by decide +kernel
theorem d_Ck_entersFrame_37 : decode m_Ck_entersFrame.2.1 37 = .ok (.istore 5, 2) := by decide +kernel
theorem d_Ck_entersFrame_39 : decode m_Ck_entersFrame.2.1 39 = .ok (.iload 5, 2) := by decide +kernel
theorem d_Ck_entersFrame_41 : decode m_Ck_entersFrame.2.1 41 = .ok (.aload_n 2, 1) := by decide +kernel
theorem d_Ck_entersFrame_42 : decode m_Ck_entersFrame.2.1 42 = .ok (.getfield 83, 3) := by decide +kernel
theorem d_Ck_entersFrame_45 : decode m_Ck_entersFrame.2.1 45 = .ok (.if_icmp .ge 28, 3) := by decide +kernel
theorem d_Ck_entersFrame_48 : decode m_Ck_entersFrame.2.1 48 = .ok (.aload_n 0, 1) := by decide +kernel
theorem d_Ck_entersFrame_49 : decode m_Ck_entersFrame.2.1 49 = .ok (.getfield 12, 3) := by decide +kernel
theorem d_Ck_entersFrame_52 : decode m_Ck_entersFrame.2.1 52 = .ok (.iload 5, 2) := by decide +kernel
theorem d_Ck_entersFrame_54 : decode m_Ck_entersFrame.2.1 54 = .ok (.aload_n 1, 1) := by decide +kernel
theorem d_Ck_entersFrame_55 : decode m_Ck_entersFrame.2.1 55 = .ok (.aload_n 2, 1) := by decide +kernel
theorem d_Ck_entersFrame_56 : decode m_Ck_entersFrame.2.1 56 = .ok (.iload 4, 2) := by decide +kernel
theorem d_Ck_entersFrame_58 : decode m_Ck_entersFrame.2.1 58 = .ok (.iload 5, 2) := by decide +kernel
theorem d_Ck_entersFrame_60 : decode m_Ck_entersFrame.2.1 60 = .ok (.invokevirtual 86, 3) := by decide +kernel
theorem d_Ck_entersFrame_63 : decode m_Ck_entersFrame.2.1 63 = .ok (.iconst 0, 1) := by decide +kernel
theorem d_Ck_entersFrame_64 : decode m_Ck_entersFrame.2.1 64 = .ok (.invokevirtual 33, 3) := by decide +kernel
theorem d_Ck_entersFrame_67 : decode m_Ck_entersFrame.2.1 67 = .ok (.iinc 5 1, 3) := by decide +kernel
theorem d_Ck_entersFrame_70 : decode m_Ck_entersFrame.2.1 70 = .ok (.goto (-31), 3) := by decide +kernel
theorem d_Ck_entersFrame_73 : decode m_Ck_entersFrame.2.1 73 = .ok (.aload_n 0, 1) := by decide +kernel
theorem d_Ck_entersFrame_74 : decode m_Ck_entersFrame.2.1 74 = .ok (.getfield 12, 3) := by decide +kernel
theorem d_Ck_entersFrame_77 : decode m_Ck_entersFrame.2.1 77 = .ok (.iconst 0, 1) := by decide +kernel
theorem d_Ck_entersFrame_78 : decode m_Ck_entersFrame.2.1 78 = .ok (.putfield 90, 3) := by decide +kernel
theorem d_Ck_entersFrame_81 : decode m_Ck_entersFrame.2.1 81 = .ok (.iconst 0, 1) := by decide +kernel
theorem d_Ck_entersFrame_82 : decode m_Ck_entersFrame.2.1 82 = .ok (.istore 5, 2) := by decide +kernel
theorem d_Ck_entersFrame_84 : decode m_Ck_entersFrame.2.1 84 = .ok (.iload 5, 2) := by decide +kernel
theorem d_Ck_entersFrame_86 : decode m_Ck_entersFrame.2.1 86 = .ok (.aload_n 1, 1) := by decide +kernel
theorem d_Ck_entersFrame_87 : decode m_Ck_entersFrame.2.1 87 = .ok (.aload_n 2, 1) := by decide +kernel
theorem d_Ck_entersFrame_88 : decode m_Ck_entersFrame.2.1 88 = .ok (.iload 4, 2) := by decide +kernel
theorem d_Ck_entersFrame_90 : decode m_Ck_entersFrame.2.1 90 = .ok (.invokevirtual 93, 3) := by decide +kernel
theorem d_Ck_entersFrame_93 : decode m_Ck_entersFrame.2.1 93 = .ok (.if_icmp .ge 26, 3) := by decide +kernel
theorem d_Ck_entersFrame_96 : decode m_Ck_entersFrame.2.1 96 = .ok (.aload_n 0, 1) := by decide +kernel
theorem d_Ck_entersFrame_97 : decode m_Ck_entersFrame.2.1 97 = .ok (.getfield 12, 3) := by decide +kernel
theorem d_Ck_entersFrame_100 : decode m_Ck_entersFrame.2.1 100 = .ok (.aload_n 1, 1) := by decide +kernel
theorem d_Ck_entersFrame_101 : decode m_Ck_entersFrame.2.1 101 = .ok (.aload_n 2, 1) := by decide +kernel
theorem d_Ck_entersFrame_102 : decode m_Ck_entersFrame.2.1 102 = .ok (.iload 4, 2) := by decide +kernel
theorem d_Ck_entersFrame_104 : decode m_Ck_entersFrame.2.1 104 = .ok (.iload 5, 2) := by decide +kernel
theorem d_Ck_entersFrame_106 : decode m_Ck_entersFrame.2.1 106 = .ok (.invokevirtual 96, 3) := by decide +kernel
theorem d_Ck_entersFrame_109 : decode m_Ck_entersFrame.2.1 109 = .ok (.iconst 0, 1) := by decide +kernel
theorem d_Ck_entersFrame_110 : decode m_Ck_entersFrame.2.1 110 = .ok (.invokevirtual 99, 3) := by decide +kernel
theorem d_Ck_entersFrame_113 : decode m_Ck_entersFrame.2.1 113 = .ok (.iinc 5 1, 3) := by decide +kernel
theorem d_Ck_entersFrame_116 : decode m_Ck_entersFrame.2.1 116 = .ok (.goto (-32), 3) := by decide +kernel
theorem d_Ck_entersFrame_119 : decode m_Ck_entersFrame.2.1 119 = .ok (.aload_n 0, 1) := by decide +kernel
theorem d_Ck_entersFrame_120 : decode m_Ck_entersFrame.2.1 120 = .ok (.iconst 1, 1) := by decide +kernel
theorem d_Ck_entersFrame_121 : decode m_Ck_entersFrame.2.1 121 = .ok (.putfield 37, 3) := by decide +kernel
theorem d_Ck_entersFrame_124 : decode m_Ck_entersFrame.2.1 124 = .ok (.iconst 1, 1) := by decide +kernel
theorem d_Ck_entersFrame_125 : decode m_Ck_entersFrame.2.1 125 = .ok (.ireturn, 1) := by decide +kernel
theorem d_Ck_isGoodForFrame_0 : decode m_Ck_isGoodForFrame.2.1 0 = .ok (.aload_n 0, 1) := by decide +kernel
theorem d_Ck_isGoodForFrame_1 : decode m_Ck_isGoodForFrame.2.1 1 = .ok (.getfield 12, 3) := by decide +kernel
theorem d_Ck_isGoodForFrame_4 : decode m_Ck_isGoodForFrame.2.1 4 = .ok (.getfield 90, 3) := by decide +kernel
theorem d_Ck_isGoodForFrame_7 : decode m_Ck_isGoodForFrame.2.1 7 = .ok (.aload_n 1, 1) := by decide +kernel
theorem d_Ck_isGoodForFrame_8 : decode m_Ck_isGoodForFrame.2.1 8 = .ok (.aload_n 2, 1) := by decide +kernel
theorem d_Ck_isGoodForFrame_9 : decode m_Ck_isGoodForFrame.2.1 9 = .ok (.iload_n 3, 1) := by decide +kernel
theorem d_Ck_isGoodForFrame_10 : decode m_Ck_isGoodForFrame.2.1 10 = .ok (.invokevirtual 93, 3) := by decide +kernel
theorem d_Ck_isGoodForFrame_13 : decode m_Ck_isGoodForFrame.2.1 13 = .ok (.if_icmp .eq 5, 3) := by decide +kernel
theorem d_Ck_isGoodForFrame_16 : decode m_Ck_isGoodForFrame.2.1 16 = .ok (.iconst 0, 1) := by decide +kernel
theorem d_Ck_isGoodForFrame_17 : decode m_Ck_isGoodForFrame.2.1 17 = .ok (.ireturn, 1) := by decide +kernel
theorem d_Ck_isGoodForFrame_18 : decode m_Ck_isGoodForFrame.2.1 18 = .ok (.iconst 0, 1) := by decide +kernel
theorem d_Ck_isGoodForFrame_19 : decode m_Ck_isGoodForFrame.2.1 19 = .ok (.istore 4, 2) := by decide +kernel
theorem d_Ck_isGoodForFrame_21 : decode m_Ck_isGoodForFrame.2.1 21 = .ok (.iload 4, 2) := by decide +kernel
theorem d_Ck_isGoodForFrame_23 : decode m_Ck_isGoodForFrame.2.1 23 = .ok (.aload_n 2, 1) := by decide +kernel
theorem d_Ck_isGoodForFrame_24 : decode m_Ck_isGoodForFrame.2.1 24 = .ok (.getfield 83, 3) := by decide +kernel
theorem d_Ck_isGoodForFrame_27 : decode m_Ck_isGoodForFrame.2.1 27 = .ok (.if_icmp .ge 35, 3) := by decide +kernel
theorem d_Ck_isGoodForFrame_30 : decode m_Ck_isGoodForFrame.2.1 30 = .ok (.aload_n 0, 1) := by decide +kernel
theorem d_Ck_isGoodForFrame_31 : decode m_Ck_isGoodForFrame.2.1 31 = .ok (.getfield 12, 3) := by decide +kernel
theorem d_Ck_isGoodForFrame_34 : decode m_Ck_isGoodForFrame.2.1 34 = .ok (.getfield 103, 3) := by decide +kernel
theorem d_Ck_isGoodForFrame_37 : decode m_Ck_isGoodForFrame.2.1 37 = .ok (.iload 4, 2) := by decide +kernel
theorem d_Ck_isGoodForFrame_39 : decode m_Ck_isGoodForFrame.2.1 39 = .ok (.iaload, 1) := by decide +kernel
theorem d_Ck_isGoodForFrame_40 : decode m_Ck_isGoodForFrame.2.1 40 = .ok (.aload_n 1, 1) := by decide +kernel
theorem d_Ck_isGoodForFrame_41 : decode m_Ck_isGoodForFrame.2.1 41 = .ok (.aload_n 2, 1) := by decide +kernel
theorem d_Ck_isGoodForFrame_42 : decode m_Ck_isGoodForFrame.2.1 42 = .ok (.iload_n 3, 1) := by decide +kernel
theorem d_Ck_isGoodForFrame_43 : decode m_Ck_isGoodForFrame.2.1 43 = .ok (.iload 4, 2) := by decide +kernel
theorem d_Ck_isGoodForFrame_45 : decode m_Ck_isGoodForFrame.2.1 45 = .ok (.invokevirtual 86, 3) := by decide +kernel
theorem d_Ck_isGoodForFrame_48 : decode m_Ck_isGoodForFrame.2.1 48 = .ok (.invokestatic 107, 3) := by decide +kernel
theorem d_Ck_isGoodForFrame_51 : decode m_Ck_isGoodForFrame.2.1 51 = .ok (.ifCond .ne 5, 3) := by decide +kernel
theorem d_Ck_isGoodForFrame_54 : decode m_Ck_isGoodForFrame.2.1 54 = .ok (.iconst 0, 1) := by decide +kernel
theorem d_Ck_isGoodForFrame_55 : decode m_Ck_isGoodForFrame.2.1 55 = .ok (.ireturn, 1) := by decide +kernel
theorem d_Ck_isGoodForFrame_56 : decode m_Ck_isGoodForFrame.2.1 56 = .ok (.iinc 4 1, 3) := by decide +kernel
theorem d_Ck_isGoodForFrame_59 : decode m_Ck_isGoodForFrame.2.1 59 = .ok (.goto (-38), 3) := by decide +kernel
theorem d_Ck_isGoodForFrame_62 : decode m_Ck_isGoodForFrame.2.1 62 = .ok (.iconst 0, 1) := by decide +kernel
theorem d_Ck_isGoodForFrame_63 : decode m_Ck_isGoodForFrame.2.1 63 = .ok (.istore 4, 2) := by decide +kernel
theorem d_Ck_isGoodForFrame_65 : decode m_Ck_isGoodForFrame.2.1 65 = .ok (.iload 4, 2) := by decide +kernel
theorem d_Ck_isGoodForFrame_67 : decode m_Ck_isGoodForFrame.2.1 67 = .ok (.aload_n 0, 1) := by decide +kernel
theorem d_Ck_isGoodForFrame_68 : decode m_Ck_isGoodForFrame.2.1 68 = .ok (.getfield 12, 3) := by decide +kernel
theorem d_Ck_isGoodForFrame_71 : decode m_Ck_isGoodForFrame.2.1 71 = .ok (.getfield 90, 3) := by decide +kernel
theorem d_Ck_isGoodForFrame_74 : decode m_Ck_isGoodForFrame.2.1 74 = .ok (.if_icmp .ge 35, 3) := by decide +kernel
theorem d_Ck_isGoodForFrame_77 : decode m_Ck_isGoodForFrame.2.1 77 = .ok (.aload_n 0, 1) := by decide +kernel
theorem d_Ck_isGoodForFrame_78 : decode m_Ck_isGoodForFrame.2.1 78 = .ok (.getfield 12, 3) := by decide +kernel
theorem d_Ck_isGoodForFrame_81 : decode m_Ck_isGoodForFrame.2.1 81 = .ok (.getfield 111, 3) := by decide +kernel
theorem d_Ck_isGoodForFrame_84 : decode m_Ck_isGoodForFrame.2.1 84 = .ok (.iload 4, 2) := by decide +kernel
theorem d_Ck_isGoodForFrame_86 : decode m_Ck_isGoodForFrame.2.1 86 = .ok (.iaload, 1) := by decide +kernel
theorem d_Ck_isGoodForFrame_87 : decode m_Ck_isGoodForFrame.2.1 87 = .ok (.aload_n 1, 1) := by decide +kernel
theorem d_Ck_isGoodForFrame_88 : decode m_Ck_isGoodForFrame.2.1 88 = .ok (.aload_n 2, 1) := by decide +kernel
theorem d_Ck_isGoodForFrame_89 : decode m_Ck_isGoodForFrame.2.1 89 = .ok (.iload_n 3, 1) := by decide +kernel
theorem d_Ck_isGoodForFrame_90 : decode m_Ck_isGoodForFrame.2.1 90 = .ok (.iload 4, 2) := by decide +kernel
theorem d_Ck_isGoodForFrame_92 : decode m_Ck_isGoodForFrame.2.1 92 = .ok (.invokevirtual 96, 3) := by decide +kernel
theorem d_Ck_isGoodForFrame_95 : decode m_Ck_isGoodForFrame.2.1 95 = .ok (.invokestatic 107, 3) := by decide +kernel
theorem d_Ck_isGoodForFrame_98 : decode m_Ck_isGoodForFrame.2.1 98 = .ok (.ifCond .ne 5, 3) := by decide +kernel
theorem d_Ck_isGoodForFrame_101 : decode m_Ck_isGoodForFrame.2.1 101 = .ok (.iconst 0, 1) := by decide +kernel
theorem d_Ck_isGoodForFrame_102 : decode m_Ck_isGoodForFrame.2.1 102 = .ok (.ireturn, 1) := by decide +kernel
theorem d_Ck_isGoodForFrame_103 : decode m_Ck_isGoodForFrame.2.1 103 = .ok (.iinc 4 1, 3) := by decide +kernel
theorem d_Ck_isGoodForFrame_106 : decode m_Ck_isGoodForFrame.2.1 106 = .ok (.goto (-41), 3) := by decide +kernel
theorem d_Ck_isGoodForFrame_109 : decode m_Ck_isGoodForFrame.2.1 109 = .ok (.iconst 1, 1) := by decide +kernel
theorem d_Ck_isGoodForFrame_110 : decode m_Ck_isGoodForFrame.2.1 110 = .ok (.ireturn, 1) := by decide +kernel
theorem d_Ck_mayGoToTarget_0 : decode m_Ck_mayGoToTarget.2.1 0 = .ok (.aload_n 1, 1) := by decide +kernel
theorem d_Ck_mayGoToTarget_1 : decode m_Ck_mayGoToTarget.2.1 1 = .ok (.aload_n 2, 1) := by decide +kernel
theorem d_Ck_mayGoToTarget_2 : decode m_Ck_mayGoToTarget.2.1 2 = .ok (.iload_n 3, 1) := by decide +kernel
theorem d_Ck_mayGoToTarget_3 : decode m_Ck_mayGoToTarget.2.1 3 = .ok (.invokevirtual 44, 3) := by decide +kernel
theorem d_Ck_mayGoToTarget_6 : decode m_Ck_mayGoToTarget.2.1 6 = .ok (.invokestatic 114, 3) := by decide +kernel
theorem d_Ck_mayGoToTarget_9 : decode m_Ck_mayGoToTarget.2.1 9 = .ok (.ifCond .ne 5, 3) := by decide +kernel
theorem d_Ck_mayGoToTarget_12 : decode m_Ck_mayGoToTarget.2.1 12 = .ok (.iconst 1, 1) := by decide +kernel
theorem d_Ck_mayGoToTarget_13 : decode m_Ck_mayGoToTarget.2.1 13 = .ok (.ireturn, 1) := by decide +kernel
theorem d_Ck_mayGoToTarget_14 : decode m_Ck_mayGoToTarget.2.1 14 = .ok (.aload_n 1, 1) := by decide +kernel
theorem d_Ck_mayGoToTarget_15 : decode m_Ck_mayGoToTarget.2.1 15 = .ok (.aload_n 2, 1) := by decide +kernel
theorem d_Ck_mayGoToTarget_16 : decode m_Ck_mayGoToTarget.2.1 16 = .ok (.aload_n 1, 1) := by decide +kernel
theorem d_Ck_mayGoToTarget_17 : decode m_Ck_mayGoToTarget.2.1 17 = .ok (.aload_n 2, 1) := by decide +kernel
theorem d_Ck_mayGoToTarget_18 : decode m_Ck_mayGoToTarget.2.1 18 = .ok (.iload_n 3, 1) := by decide +kernel
theorem d_Ck_mayGoToTarget_19 : decode m_Ck_mayGoToTarget.2.1 19 = .ok (.invokevirtual 117, 3) := by decide +kernel
theorem d_Ck_mayGoToTarget_22 : decode m_Ck_mayGoToTarget.2.1 22 = .ok (.invokevirtual 77, 3) := by decide +kernel
theorem d_Ck_mayGoToTarget_25 : decode m_Ck_mayGoToTarget.2.1 25 = .ok (.istore 4, 2) := by decide +kernel
theorem d_Ck_mayGoToTarget_27 : decode m_Ck_mayGoToTarget.2.1 27 = .ok (.iload 4, 2) := by decide +kernel
theorem d_Ck_mayGoToTarget_29 : decode m_Ck_mayGoToTarget.2.1 29 = .ok (.iconst (-1), 1) := by decide +kernel
theorem d_Ck_mayGoToTarget_30 : decode m_Ck_mayGoToTarget.2.1 30 = .ok (.if_icmp .eq 18, 3) := by decide +kernel
theorem d_Ck_mayGoToTarget_33 : decode m_Ck_mayGoToTarget.2.1 33 = .ok (.aload_n 0, 1) := by decide +kernel
theorem d_Ck_mayGoToTarget_34 : decode m_Ck_mayGoToTarget.2.1 34 = .ok (.aload_n 1, 1) := by decide +kernel
theorem d_Ck_mayGoToTarget_35 : decode m_Ck_mayGoToTarget.2.1 35 = .ok (.aload_n 2, 1) := by decide +kernel
theorem d_Ck_mayGoToTarget_36 : decode m_Ck_mayGoToTarget.2.1 36 = .ok (.iload 4, 2) := by decide +kernel
theorem d_Ck_mayGoToTarget_38 : decode m_Ck_mayGoToTarget.2.1 38 = .ok (.invokevirtual 80, 3) := by decide +kernel
theorem d_Ck_mayGoToTarget_41 : decode m_Ck_mayGoToTarget.2.1 41 = .ok (.ifCond .eq 7, 3) := by decide +kernel
theorem d_Ck_mayGoToTarget_44 : decode m_Ck_mayGoToTarget.2.1 44 = .ok (.iconst 1, 1) := by decide +kernel
theorem d_Ck_mayGoToTarget_45 : decode m_Ck_mayGoToTarget.2.1 45 = .ok (.goto 4, 3) := by decide +kernel
theorem d_Ck_mayGoToTarget_48 : decode m_Ck_mayGoToTarget.2.1 48 = .ok (.iconst 0, 1) := by decide +kernel
theorem d_Ck_mayGoToTarget_49 : decode m_Ck_mayGoToTarget.2.1 49 = .ok (.ireturn, 1) := by decide +kernel
theorem d_Ck_change_0 : decode m_Ck_change.2.1 0 = .ok (.aload_n 1, 1) := by decide +kernel
theorem d_Ck_change_1 : decode m_Ck_change.2.1 1 = .ok (.aload_n 2, 1) := by decide +kernel
theorem d_Ck_change_2 : decode m_Ck_change.2.1 2 = .ok (.iload_n 3, 1) := by decide +kernel
theorem d_Ck_change_3 : decode m_Ck_change.2.1 3 = .ok (.invokevirtual 44, 3) := by decide +kernel
theorem d_Ck_change_6 : decode m_Ck_change.2.1 6 = .ok (.istore 4, 2) := by decide +kernel
theorem d_Ck_change_8 : decode m_Ck_change.2.1 8 = .ok (.iload 4, 2) := by decide +kernel
theorem d_Ck_change_10 : decode m_Ck_change.2.1 10 = .ok (.lookupswitch 102 #[(25, 50), (54, 66), (58, 66), (89, 82), (95, 92)], 50) := by decide +kernel
theorem d_Ck_change_60 : decode m_Ck_change.2.1 60 = .ok (.aload_n 0, 1) := by decide +kernel
theorem d_Ck_change_61 : decode m_Ck_change.2.1 61 = .ok (.getfield 12, 3) := by decide +kernel
theorem d_Ck_change_64 : decode m_Ck_change.2.1 64 = .ok (.aload_n 1, 1) := by decide +kernel
theorem d_Ck_change_65 : decode m_Ck_change.2.1 65 = .ok (.aload_n 2, 1) := by decide +kernel
theorem d_Ck_change_66 : decode m_Ck_change.2.1 66 = .ok (.iload_n 3, 1) := by decide +kernel
theorem d_Ck_change_67 : decode m_Ck_change.2.1 67 = .ok (.invokevirtual 120, 3) := by decide +kernel
theorem d_Ck_change_70 : decode m_Ck_change.2.1 70 = .ok (.invokevirtual 123, 3) := by decide +kernel
theorem d_Ck_change_73 : decode m_Ck_change.2.1 73 = .ok (.goto 82, 3) := by decide +kernel
theorem d_Ck_change_76 : decode m_Ck_change.2.1 76 = .ok (.aload_n 0, 1) := by decide +kernel
theorem d_Ck_change_77 : decode m_Ck_change.2.1 77 = .ok (.getfield 12, 3) := by decide +kernel
theorem d_Ck_change_80 : decode m_Ck_change.2.1 80 = .ok (.aload_n 1, 1) := by decide +kernel
theorem d_Ck_change_81 : decode m_Ck_change.2.1 81 = .ok (.aload_n 2, 1) := by decide +kernel
theorem d_Ck_change_82 : decode m_Ck_change.2.1 82 = .ok (.iload_n 3, 1) := by decide +kernel
theorem d_Ck_change_83 : decode m_Ck_change.2.1 83 = .ok (.invokevirtual 120, 3) := by decide +kernel
theorem d_Ck_change_86 : decode m_Ck_change.2.1 86 = .ok (.invokevirtual 127, 3) := by decide +kernel
theorem d_Ck_change_89 : decode m_Ck_change.2.1 89 = .ok (.goto 66, 3) := by decide +kernel
theorem d_Ck_change_92 : decode m_Ck_change.2.1 92 = .ok (.aload_n 0, 1) := by decide +kernel
theorem d_Ck_change_93 : decode m_Ck_change.2.1 93 = .ok (.getfield 12, 3) := by decide +kernel
theorem d_Ck_change_96 : decode m_Ck_change.2.1 96 = .ok (.invokevirtual 130, 3) := by decide +kernel
theorem d_Ck_change_99 : decode m_Ck_change.2.1 99 = .ok (.goto 56, 3) := by decide +kernel
theorem d_Ck_change_102 : decode m_Ck_change.2.1 102 = .ok (.aload_n 0, 1) := by decide +kernel
theorem d_Ck_change_103 : decode m_Ck_change.2.1 103 = .ok (.getfield 12, 3) := by decide +kernel
theorem d_Ck_change_106 : decode m_Ck_change.2.1 106 = .ok (.invokevirtual 133, 3) := by decide +kernel
theorem d_Ck_change_109 : decode m_Ck_change.2.1 109 = .ok (.goto 46, 3) := by decide +kernel
theorem d_Ck_change_112 : decode m_Ck_change.2.1 112 = .ok (.aload_n 0, 1) := by decide +kernel
theorem d_Ck_change_113 : decode m_Ck_change.2.1 113 = .ok (.getfield 12, 3) := by decide +kernel
theorem d_Ck_change_116 : decode m_Ck_change.2.1 116 = .ok (.dup, 1) := by decide +kernel
theorem d_Ck_change_117 : decode m_Ck_change.2.1 117 = .ok (.getfield 90, 3) := by decide +kernel
theorem d_Ck_change_120 : decode m_Ck_change.2.1 120 = .ok (.aload_n 1, 1) := by decide +kernel
theorem d_Ck_change_121 : decode m_Ck_change.2.1 121 = .ok (.aload_n 2, 1) := by decide +kernel
theorem d_Ck_change_122 : decode m_Ck_change.2.1 122 = .ok (.iload_n 3, 1) := by decide +kernel
theorem d_Ck_change_123 : decode m_Ck_change.2.1 123 = .ok (.invokevirtual 136, 3) := by decide +kernel
theorem d_Ck_change_126 : decode m_Ck_change.2.1 126 = .ok (.isub, 1) := by decide +kernel
theorem d_Ck_change_127 : decode m_Ck_change.2.1 127 = .ok (.putfield 90, 3) := by decide +kernel
theorem d_Ck_change_130 : decode m_Ck_change.2.1 130 = .ok (.aload_n 1, 1) := by decide +kernel
theorem d_Ck_change_131 : decode m_Ck_change.2.1 131 = .ok (.aload_n 2, 1) := by decide +kernel
theorem d_Ck_change_132 : decode m_Ck_change.2.1 132 = .ok (.iload_n 3, 1) := by decide +kernel
theorem d_Ck_change_133 : decode m_Ck_change.2.1 133 = .ok (.invokevirtual 139, 3) := by decide +kernel
theorem d_Ck_change_136 : decode m_Ck_change.2.1 136 = .ok (.iconst 1, 1) := by decide +kernel
theorem d_Ck_change_137 : decode m_Ck_change.2.1 137 = .ok (.if_icmp .ne 18, 3) := by decide +kernel
theorem d_Ck_change_140 : decode m_Ck_change.2.1 140 = .ok (.aload_n 0, 1) := by decide +kernel
theorem d_Ck_change_141 : decode m_Ck_change.2.1 141 = .ok (.getfield 12, 3) := by decide +kernel
theorem d_Ck_change_144 : decode m_Ck_change.2.1 144 = .ok (.aload_n 0, 1) := by decide +kernel
theorem d_Ck_change_145 : decode m_Ck_change.2.1 145 = .ok (.aload_n 1, 1) := by decide +kernel
theorem d_Ck_change_146 : decode m_Ck_change.2.1 146 = .ok (.aload_n 2, 1) := by decide +kernel
theorem d_Ck_change_147 : decode m_Ck_change.2.1 147 = .ok (.iload_n 3, 1) := by decide +kernel
theorem d_Ck_change_148 : decode m_Ck_change.2.1 148 = .ok (.invokevirtual 142, 3) := by decide +kernel
theorem d_Ck_change_151 : decode m_Ck_change.2.1 151 = .ok (.iconst 0, 1) := by decide +kernel
theorem d_Ck_change_152 : decode m_Ck_change.2.1 152 = .ok (.invokevirtual 99, 3) := by decide +kernel
theorem d_Ck_change_155 : decode m_Ck_change.2.1 155 = .ok (.return_, 1) := by decide +kernel
theorem d_Ck_typePut_0 : decode m_Ck_typePut.2.1 0 = .ok (.aload_n 1, 1) := by decide +kernel
theorem d_Ck_typePut_1 : decode m_Ck_typePut.2.1 1 = .ok (.aload_n 2, 1) := by decide +kernel
theorem d_Ck_typePut_2 : decode m_Ck_typePut.2.1 2 = .ok (.iload_n 3, 1) := by decide +kernel
theorem d_Ck_typePut_3 : decode m_Ck_typePut.2.1 3 = .ok (.invokevirtual 44, 3) := by decide +kernel
theorem d_Ck_typePut_6 : decode m_Ck_typePut.2.1 6 = .ok (.lookupswitch 48 #[(1, 34), (184, 38), (188, 36)], 34) := by decide +kernel
theorem d_Ck_typePut_40 : decode m_Ck_typePut.2.1 40 = .ok (.iconst 3, 1) := by decide +kernel
theorem d_Ck_typePut_41 : decode m_Ck_typePut.2.1 41 = .ok (.ireturn, 1) := by decide +kernel
theorem d_Ck_typePut_42 : decode m_Ck_typePut.2.1 42 = .ok (.iconst 2, 1) := by decide +kernel
theorem d_Ck_typePut_43 : decode m_Ck_typePut.2.1 43 = .ok (.ireturn, 1) := by decide +kernel
theorem d_Ck_typePut_44 : decode m_Ck_typePut.2.1 44 = .ok (.aload_n 1, 1) := by decide +kernel
theorem d_Ck_typePut_45 : decode m_Ck_typePut.2.1 45 = .ok (.aload_n 2, 1) := by decide +kernel
theorem d_Ck_typePut_46 : decode m_Ck_typePut.2.1 46 = .ok (.iload_n 3, 1) := by decide +kernel
theorem d_Ck_typePut_47 : decode m_Ck_typePut.2.1 47 = .ok (.invokevirtual 146, 3) := by decide +kernel
theorem d_Ck_typePut_50 : decode m_Ck_typePut.2.1 50 = .ok (.getfield 150, 3) := by decide +kernel
theorem d_Ck_typePut_53 : decode m_Ck_typePut.2.1 53 = .ok (.ireturn, 1) := by decide +kernel
theorem d_Ck_typePut_54 : decode m_Ck_typePut.2.1 54 = .ok (.iconst 1, 1) := by decide +kernel
theorem d_Ck_typePut_55 : decode m_Ck_typePut.2.1 55 = .ok (.ireturn, 1) := by decide +kernel
theorem d_In_hasTarget_0 : decode m_In_hasTarget.2.1 0 = .ok (.iload_n 0, 1) := by decide +kernel
theorem d_In_hasTarget_1 : decode m_In_hasTarget.2.1 1 = .ok (.sipush 153, 3) := by decide +kernel
theorem d_In_hasTarget_4 : decode m_In_hasTarget.2.1 4 = .ok (.if_icmp .lt 10, 3) := by decide +kernel
theorem d_In_hasTarget_7 : decode m_In_hasTarget.2.1 7 = .ok (.iload_n 0, 1) := by decide +kernel
theorem d_In_hasTarget_8 : decode m_In_hasTarget.2.1 8 = .ok (.sipush 164, 3) := by decide +kernel
theorem d_In_hasTarget_11 : decode m_In_hasTarget.2.1 11 = .ok (.if_icmp .le 24, 3) := by decide +kernel
theorem d_In_hasTarget_14 : decode m_In_hasTarget.2.1 14 = .ok (.iload_n 0, 1) := by decide +kernel
theorem d_In_hasTarget_15 : decode m_In_hasTarget.2.1 15 = .ok (.sipush 198, 3) := by decide +kernel
theorem d_In_hasTarget_18 : decode m_In_hasTarget.2.1 18 = .ok (.if_icmp .eq 17, 3) := by decide +kernel
theorem d_In_hasTarget_21 : decode m_In_hasTarget.2.1 21 = .ok (.iload_n 0, 1) := by decide +kernel
theorem d_In_hasTarget_22 : decode m_In_hasTarget.2.1 22 = .ok (.sipush 199, 3) := by decide +kernel
theorem d_In_hasTarget_25 : decode m_In_hasTarget.2.1 25 = .ok (.if_icmp .eq 10, 3) := by decide +kernel
theorem d_In_hasTarget_28 : decode m_In_hasTarget.2.1 28 = .ok (.iload_n 0, 1) := by decide +kernel
theorem d_In_hasTarget_29 : decode m_In_hasTarget.2.1 29 = .ok (.sipush 167, 3) := by decide +kernel
theorem d_In_hasTarget_32 : decode m_In_hasTarget.2.1 32 = .ok (.if_icmp .ne 7, 3) := by decide +kernel
theorem d_In_hasTarget_35 : decode m_In_hasTarget.2.1 35 = .ok (.iconst 1, 1) := by decide +kernel
theorem d_In_hasTarget_36 : decode m_In_hasTarget.2.1 36 = .ok (.goto 4, 3) := by decide +kernel
theorem d_In_hasTarget_39 : decode m_In_hasTarget.2.1 39 = .ok (.iconst 0, 1) := by decide +kernel
theorem d_In_hasTarget_40 : decode m_In_hasTarget.2.1 40 = .ok (.ireturn, 1) := by decide +kernel
theorem d_In_hasPlace_0 : decode m_In_hasPlace.2.1 0 = .ok (.iload_n 0, 1) := by decide +kernel
theorem d_In_hasPlace_1 : decode m_In_hasPlace.2.1 1 = .ok (.bipush 21, 2) := by decide +kernel
theorem d_In_hasPlace_3 : decode m_In_hasPlace.2.1 3 = .ok (.if_icmp .eq 28, 3) := by decide +kernel
theorem d_In_hasPlace_6 : decode m_In_hasPlace.2.1 6 = .ok (.iload_n 0, 1) := by decide +kernel
theorem d_In_hasPlace_7 : decode m_In_hasPlace.2.1 7 = .ok (.bipush 25, 2) := by decide +kernel
theorem d_In_hasPlace_9 : decode m_In_hasPlace.2.1 9 = .ok (.if_icmp .eq 22, 3) := by decide +kernel
theorem d_In_hasPlace_12 : decode m_In_hasPlace.2.1 12 = .ok (.iload_n 0, 1) := by decide +kernel
theorem d_In_hasPlace_13 : decode m_In_hasPlace.2.1 13 = .ok (.bipush 54, 2) := by decide +kernel
theorem d_In_hasPlace_15 : decode m_In_hasPlace.2.1 15 = .ok (.if_icmp .eq 16, 3) := by decide +kernel
theorem d_In_hasPlace_18 : decode m_In_hasPlace.2.1 18 = .ok (.iload_n 0, 1) := by decide +kernel
theorem d_In_hasPlace_19 : decode m_In_hasPlace.2.1 19 = .ok (.bipush 58, 2) := by decide +kernel
theorem d_In_hasPlace_21 : decode m_In_hasPlace.2.1 21 = .ok (.if_icmp .eq 10, 3) := by decide +kernel
theorem d_In_hasPlace_24 : decode m_In_hasPlace.2.1 24 = .ok (.iload_n 0, 1) := by decide +kernel
theorem d_In_hasPlace_25 : decode m_In_hasPlace.2.1 25 = .ok (.sipush 132, 3) := by decide +kernel
theorem d_In_hasPlace_28 : decode m_In_hasPlace.2.1 28 = .ok (.if_icmp .ne 7, 3) := by decide +kernel
theorem d_In_hasPlace_31 : decode m_In_hasPlace.2.1 31 = .ok (.iconst 1, 1) := by decide +kernel
theorem d_In_hasPlace_32 : decode m_In_hasPlace.2.1 32 = .ok (.goto 4, 3) := by decide +kernel
theorem d_In_hasPlace_35 : decode m_In_hasPlace.2.1 35 = .ok (.iconst 0, 1) := by decide +kernel
theorem d_In_hasPlace_36 : decode m_In_hasPlace.2.1 36 = .ok (.ireturn, 1) := by decide +kernel
theorem d_In_isReturn_0 : decode m_In_isReturn.2.1 0 = .ok (.iload_n 0, 1) := by decide +kernel
theorem d_In_isReturn_1 : decode m_In_isReturn.2.1 1 = .ok (.sipush 172, 3) := by decide +kernel
theorem d_In_isReturn_4 : decode m_In_isReturn.2.1 4 = .ok (.if_icmp .eq 17, 3) := by decide +kernel
theorem d_In_isReturn_7 : decode m_In_isReturn.2.1 7 = .ok (.iload_n 0, 1) := by decide +kernel
theorem d_In_isReturn_8 : decode m_In_isReturn.2.1 8 = .ok (.sipush 176, 3) := by decide +kernel
theorem d_In_isReturn_11 : decode m_In_isReturn.2.1 11 = .ok (.if_icmp .eq 10, 3) := by decide +kernel
theorem d_In_isReturn_14 : decode m_In_isReturn.2.1 14 = .ok (.iload_n 0, 1) := by decide +kernel
theorem d_In_isReturn_15 : decode m_In_isReturn.2.1 15 = .ok (.sipush 177, 3) := by decide +kernel
theorem d_In_isReturn_18 : decode m_In_isReturn.2.1 18 = .ok (.if_icmp .ne 7, 3) := by decide +kernel
theorem d_In_isReturn_21 : decode m_In_isReturn.2.1 21 = .ok (.iconst 1, 1) := by decide +kernel
theorem d_In_isReturn_22 : decode m_In_isReturn.2.1 22 = .ok (.goto 4, 3) := by decide +kernel
theorem d_In_isReturn_25 : decode m_In_isReturn.2.1 25 = .ok (.iconst 0, 1) := by decide +kernel
theorem d_In_isReturn_26 : decode m_In_isReturn.2.1 26 = .ok (.ireturn, 1) := by decide +kernel
theorem d_In_length_0 : decode m_In_length.2.1 0 = .ok (.iload_n 0, 1) := by decide +kernel
theorem d_In_length_1 : decode m_In_length.2.1 1 = .ok (.invokestatic 11, 3) := by decide +kernel
theorem d_In_length_4 : decode m_In_length.2.1 4 = .ok (.ifCond .eq 5, 3) := by decide +kernel
theorem d_In_length_7 : decode m_In_length.2.1 7 = .ok (.iconst 3, 1) := by decide +kernel
theorem d_In_length_8 : decode m_In_length.2.1 8 = .ok (.ireturn, 1) := by decide +kernel
theorem d_In_length_9 : decode m_In_length.2.1 9 = .ok (.iload_n 0, 1) := by decide +kernel
theorem d_In_length_10 : decode m_In_length.2.1 10 = .ok (.lookupswitch 208 #[(1, 206), (16, 204), (18, 204), (21, 204), (25, 204), (46, 206), (54, 204), (58, 204), (79, 206), (87, 206), (89, 206), (95, 206), (96, 206), (100, 206), (104, 206), (108, 206), (116, 206), (132, 202), (172, 206), (176, 206), (177, 206), (184, 204), (188, 206), (190, 206)], 202) := by decide +kernel
theorem d_In_length_212 : decode m_In_length.2.1 212 = .ok (.iconst 3, 1) := by decide +kernel
theorem d_In_length_213 : decode m_In_length.2.1 213 = .ok (.ireturn, 1) := by decide +kernel
theorem d_In_length_214 : decode m_In_length.2.1 214 = .ok (.iconst 2, 1) := by decide +kernel
theorem d_In_length_215 : decode m_In_length.2.1 215 = .ok (.ireturn, 1) := by decide +kernel
theorem d_In_length_216 : decode m_In_length.2.1 216 = .ok (.iconst 1, 1) := by decide +kernel
theorem d_In_length_217 : decode m_In_length.2.1 217 = .ok (.ireturn, 1) := by decide +kernel
theorem d_In_length_218 : decode m_In_length.2.1 218 = .ok (.iconst 0, 1) := by decide +kernel
theorem d_In_length_219 : decode m_In_length.2.1 219 = .ok (.ireturn, 1) := by decide +kernel
theorem d_In_takes_0 : decode m_In_takes.2.1 0 = .ok (.iload_n 0, 1) := by decide +kernel
theorem d_In_takes_1 : decode m_In_takes.2.1 1 = .ok (.sipush 153, 3) := by decide +kernel
theorem d_In_takes_4 : decode m_In_takes.2.1 4 = .ok (.if_icmp .lt 12, 3) := by decide +kernel
theorem d_In_takes_7 : decode m_In_takes.2.1 7 = .ok (.iload_n 0, 1) := by decide +kernel
theorem d_In_takes_8 : decode m_In_takes.2.1 8 = .ok (.sipush 158, 3) := by decide +kernel
theorem d_In_takes_11 : decode m_In_takes.2.1 11 = .ok (.if_icmp .gt 5, 3) := by decide +kernel
theorem d_In_takes_14 : decode m_In_takes.2.1 14 = .ok (.iconst 1, 1) := by decide +kernel
theorem d_In_takes_15 : decode m_In_takes.2.1 15 = .ok (.ireturn, 1) := by decide +kernel
theorem d_In_takes_16 : decode m_In_takes.2.1 16 = .ok (.iload_n 0, 1) := by decide +kernel
theorem d_In_takes_17 : decode m_In_takes.2.1 17 = .ok (.sipush 159, 3) := by decide +kernel
theorem d_In_takes_20 : decode m_In_takes.2.1 20 = .ok (.if_icmp .lt 12, 3) := by decide +kernel
theorem d_In_takes_23 : decode m_In_takes.2.1 23 = .ok (.iload_n 0, 1) := by decide +kernel
theorem d_In_takes_24 : decode m_In_takes.2.1 24 = .ok (.sipush 164, 3) := by decide +kernel
theorem d_In_takes_27 : decode m_In_takes.2.1 27 = .ok (.if_icmp .gt 5, 3) := by decide +kernel
theorem d_In_takes_30 : decode m_In_takes.2.1 30 = .ok (.iconst 2, 1) := by decide +kernel
theorem d_In_takes_31 : decode m_In_takes.2.1 31 = .ok (.ireturn, 1) := by decide +kernel
theorem d_In_takes_32 : decode m_In_takes.2.1 32 = .ok (.iload_n 0, 1) := by decide +kernel
theorem d_In_takes_33 : decode m_In_takes.2.1 33 = .ok (.lookupswitch 161 #[(46, 157), (54, 159), (58, 159), (79, 155), (87, 159), (89, 159), (95, 157), (96, 157), (100, 157), (104, 157), (108, 157), (116, 159), (172, 159), (176, 159), (188, 159), (190, 159), (198, 159), (199, 159)], 155) := by decide +kernel
theorem d_In_takes_188 : decode m_In_takes.2.1 188 = .ok (.iconst 3, 1) := by decide +kernel
theorem d_In_takes_189 : decode m_In_takes.2.1 189 = .ok (.ireturn, 1) := by decide +kernel
theorem d_In_takes_190 : decode m_In_takes.2.1 190 = .ok (.iconst 2, 1) := by decide +kernel
theorem d_In_takes_191 : decode m_In_takes.2.1 191 = .ok (.ireturn, 1) := by decide +kernel
theorem d_In_takes_192 : decode m_In_takes.2.1 192 = .ok (.iconst 1, 1) := by decide +kernel
theorem d_In_takes_193 : decode m_In_takes.2.1 193 = .ok (.ireturn, 1) := by decide +kernel
theorem d_In_takes_194 : decode m_In_takes.2.1 194 = .ok (.iconst 0, 1) := by decide +kernel
theorem d_In_takes_195 : decode m_In_takes.2.1 195 = .ok (.ireturn, 1) := by decide +kernel
theorem d_In_typeTaken_0 : decode m_In_typeTaken.2.1 0 = .ok (.iload_n 0, 1) := by decide +kernel
theorem d_In_typeTaken_1 : decode m_In_typeTaken.2.1 1 = .ok (.lookupswitch 105 #[(46, 95), (58, 93), (79, 95), (87, 91), (89, 91), (95, 91), (176, 93), (190, 93), (198, 93), (199, 93)], 91) := by decide +kernel
theorem d_In_typeTaken_92 : decode m_In_typeTaken.2.1 92 = .ok (.iconst 0, 1) := by decide +kernel
theorem d_In_typeTaken_93 : decode m_In_typeTaken.2.1 93 = .ok (.ireturn, 1) := by decide +kernel
theorem d_In_typeTaken_94 : decode m_In_typeTaken.2.1 94 = .ok (.iconst 2, 1) := by decide +kernel
theorem d_In_typeTaken_95 : decode m_In_typeTaken.2.1 95 = .ok (.ireturn, 1) := by decide +kernel
theorem d_In_typeTaken_96 : decode m_In_typeTaken.2.1 96 = .ok (.iload_n 1, 1) := by decide +kernel
theorem d_In_typeTaken_97 : decode m_In_typeTaken.2.1 97 = .ok (.ifCond .ne 7, 3) := by decide +kernel
theorem d_In_typeTaken_100 : decode m_In_typeTaken.2.1 100 = .ok (.iconst 2, 1) := by decide +kernel
theorem d_In_typeTaken_101 : decode m_In_typeTaken.2.1 101 = .ok (.goto 4, 3) := by decide +kernel
theorem d_In_typeTaken_104 : decode m_In_typeTaken.2.1 104 = .ok (.iconst 1, 1) := by decide +kernel
theorem d_In_typeTaken_105 : decode m_In_typeTaken.2.1 105 = .ok (.ireturn, 1) := by decide +kernel
theorem d_In_typeTaken_106 : decode m_In_typeTaken.2.1 106 = .ok (.iconst 1, 1) := by decide +kernel
theorem d_In_typeTaken_107 : decode m_In_typeTaken.2.1 107 = .ok (.ireturn, 1) := by decide +kernel
theorem d_In_puts_0 : decode m_In_puts.2.1 0 = .ok (.iload_n 0, 1) := by decide +kernel
theorem d_In_puts_1 : decode m_In_puts.2.1 1 = .ok (.lookupswitch 135 #[(1, 133), (16, 133), (18, 133), (21, 133), (25, 133), (46, 133), (89, 131), (95, 131), (96, 133), (100, 133), (104, 133), (108, 133), (116, 133), (188, 133), (190, 133)], 131) := by decide +kernel
theorem d_In_puts_132 : decode m_In_puts.2.1 132 = .ok (.iconst 2, 1) := by decide +kernel
theorem d_In_puts_133 : decode m_In_puts.2.1 133 = .ok (.ireturn, 1) := by decide +kernel
theorem d_In_puts_134 : decode m_In_puts.2.1 134 = .ok (.iconst 1, 1) := by decide +kernel
theorem d_In_puts_135 : decode m_In_puts.2.1 135 = .ok (.ireturn, 1) := by decide +kernel
theorem d_In_puts_136 : decode m_In_puts.2.1 136 = .ok (.iconst 0, 1) := by decide +kernel
theorem d_In_puts_137 : decode m_In_puts.2.1 137 = .ok (.ireturn, 1) := by decide +kernel
theorem d_In_typeOfPlace_0 : decode m_In_typeOfPlace.2.1 0 = .ok (.iload_n 0, 1) := by decide +kernel
theorem d_In_typeOfPlace_1 : decode m_In_typeOfPlace.2.1 1 = .ok (.bipush 21, 2) := by decide +kernel
theorem d_In_typeOfPlace_3 : decode m_In_typeOfPlace.2.1 3 = .ok (.if_icmp .eq 10, 3) := by decide +kernel
theorem d_In_typeOfPlace_6 : decode m_In_typeOfPlace.2.1 6 = .ok (.iload_n 0, 1) := by decide +kernel
theorem d_In_typeOfPlace_7 : decode m_In_typeOfPlace.2.1 7 = .ok (.sipush 132, 3) := by decide +kernel
theorem d_In_typeOfPlace_10 : decode m_In_typeOfPlace.2.1 10 = .ok (.if_icmp .ne 5, 3) := by decide +kernel
theorem d_In_typeOfPlace_13 : decode m_In_typeOfPlace.2.1 13 = .ok (.iconst 1, 1) := by decide +kernel
theorem d_In_typeOfPlace_14 : decode m_In_typeOfPlace.2.1 14 = .ok (.ireturn, 1) := by decide +kernel
theorem d_In_typeOfPlace_15 : decode m_In_typeOfPlace.2.1 15 = .ok (.iload_n 0, 1) := by decide +kernel
theorem d_In_typeOfPlace_16 : decode m_In_typeOfPlace.2.1 16 = .ok (.bipush 25, 2) := by decide +kernel
theorem d_In_typeOfPlace_18 : decode m_In_typeOfPlace.2.1 18 = .ok (.if_icmp .ne 7, 3) := by decide +kernel
theorem d_In_typeOfPlace_21 : decode m_In_typeOfPlace.2.1 21 = .ok (.iconst 2, 1) := by decide +kernel
theorem d_In_typeOfPlace_22 : decode m_In_typeOfPlace.2.1 22 = .ok (.goto 4, 3) := by decide +kernel
theorem d_In_typeOfPlace_25 : decode m_In_typeOfPlace.2.1 25 = .ok (.iconst 0, 1) := by decide +kernel
theorem d_In_typeOfPlace_26 : decode m_In_typeOfPlace.2.1 26 = .ok (.ireturn, 1) := by decide +kernel
theorem d_In_typeOfReturn_0 : decode m_In_typeOfReturn.2.1 0 = .ok (.iload_n 0, 1) := by decide +kernel
theorem d_In_typeOfReturn_1 : decode m_In_typeOfReturn.2.1 1 = .ok (.sipush 172, 3) := by decide +kernel
theorem d_In_typeOfReturn_4 : decode m_In_typeOfReturn.2.1 4 = .ok (.if_icmp .ne 5, 3) := by decide +kernel
theorem d_In_typeOfReturn_7 : decode m_In_typeOfReturn.2.1 7 = .ok (.iconst 1, 1) := by decide +kernel
theorem d_In_typeOfReturn_8 : decode m_In_typeOfReturn.2.1 8 = .ok (.ireturn, 1) := by decide +kernel
theorem d_In_typeOfReturn_9 : decode m_In_typeOfReturn.2.1 9 = .ok (.iload_n 0, 1) := by decide +kernel
theorem d_In_typeOfReturn_10 : decode m_In_typeOfReturn.2.1 10 = .ok (.sipush 176, 3) := by decide +kernel
theorem d_In_typeOfReturn_13 : decode m_In_typeOfReturn.2.1 13 = .ok (.if_icmp .ne 7, 3) := by decide +kernel
theorem d_In_typeOfReturn_16 : decode m_In_typeOfReturn.2.1 16 = .ok (.iconst 2, 1) := by decide +kernel
theorem d_In_typeOfReturn_17 : decode m_In_typeOfReturn.2.1 17 = .ok (.goto 4, 3) := by decide +kernel
theorem d_In_typeOfReturn_20 : decode m_In_typeOfReturn.2.1 20 = .ok (.iconst 0, 1) := by decide +kernel
theorem d_In_typeOfReturn_21 : decode m_In_typeOfReturn.2.1 21 = .ok (.ireturn, 1) := by decide +kernel
theorem d_Ma_begin_0 : decode m_Ma_begin.2.1 0 = .ok (.aload_n 0, 1) := by decide +kernel
theorem d_Ma_begin_1 : decode m_Ma_begin.2.1 1 = .ok (.iconst 0, 1) := by decide +kernel
theorem d_Ma_begin_2 : decode m_Ma_begin.2.1 2 = .ok (.putfield 31, 3) := by decide +kernel
theorem d_Ma_begin_5 : decode m_Ma_begin.2.1 5 = .ok (.aload_n 0, 1) := by decide +kernel
theorem d_Ma_begin_6 : decode m_Ma_begin.2.1 6 = .ok (.iconst 0, 1) := by decide +kernel
theorem d_Ma_begin_7 : decode m_Ma_begin.2.1 7 = .ok (.putfield 35, 3) := by decide +kernel
theorem d_Ma_begin_10 : decode m_Ma_begin.2.1 10 = .ok (.aload_n 0, 1) := by decide +kernel
theorem d_Ma_begin_11 : decode m_Ma_begin.2.1 11 = .ok (.iconst 0, 1) := by decide +kernel
theorem d_Ma_begin_12 : decode m_Ma_begin.2.1 12 = .ok (.putfield 38, 3) := by decide +kernel
theorem d_Ma_begin_15 : decode m_Ma_begin.2.1 15 = .ok (.aload_n 0, 1) := by decide +kernel
theorem d_Ma_begin_16 : decode m_Ma_begin.2.1 16 = .ok (.iload_n 2, 1) := by decide +kernel
theorem d_Ma_begin_17 : decode m_Ma_begin.2.1 17 = .ok (.invokevirtual 41, 3) := by decide +kernel
theorem d_Ma_begin_20 : decode m_Ma_begin.2.1 20 = .ok (.aload_n 1, 1) := by decide +kernel
theorem d_Ma_begin_21 : decode m_Ma_begin.2.1 21 = .ok (.getfield 45, 3) := by decide +kernel
theorem d_Ma_begin_24 : decode m_Ma_begin.2.1 24 = .ok (.iload_n 2, 1) := by decide +kernel
theorem d_Ma_begin_25 : decode m_Ma_begin.2.1 25 = .ok (.aaload, 1) := by decide +kernel
theorem d_Ma_begin_26 : decode m_Ma_begin.2.1 26 = .ok (.getfield 51, 3) := by decide +kernel
theorem d_Ma_begin_29 : decode m_Ma_begin.2.1 29 = .ok (.istore 6, 2) := by decide +kernel
theorem d_Ma_begin_31 : decode m_Ma_begin.2.1 31 = .ok (.iload 6, 2) := by decide +kernel
theorem d_Ma_begin_33 : decode m_Ma_begin.2.1 33 = .ok (.ifCond .le 10, 3) := by decide +kernel
theorem d_Ma_begin_36 : decode m_Ma_begin.2.1 36 = .ok (.aload_n 0, 1) := by decide +kernel
theorem d_Ma_begin_37 : decode m_Ma_begin.2.1 37 = .ok (.aload_n 1, 1) := by decide +kernel
theorem d_Ma_begin_38 : decode m_Ma_begin.2.1 38 = .ok (.iconst 0, 1) := by decide +kernel
theorem d_Ma_begin_39 : decode m_Ma_begin.2.1 39 = .ok (.iload_n 3, 1) := by decide +kernel
theorem d_Ma_begin_40 : decode m_Ma_begin.2.1 40 = .ok (.invokevirtual 56, 3) := by decide +kernel
theorem d_Ma_begin_43 : decode m_Ma_begin.2.1 43 = .ok (.iload 6, 2) := by decide +kernel
theorem d_Ma_begin_45 : decode m_Ma_begin.2.1 45 = .ok (.iconst 1, 1) := by decide +kernel
theorem d_Ma_begin_46 : decode m_Ma_begin.2.1 46 = .ok (.if_icmp .le 11, 3) := by decide +kernel
theorem d_Ma_begin_49 : decode m_Ma_begin.2.1 49 = .ok (.aload_n 0, 1) := by decide +kernel
theorem d_Ma_begin_50 : decode m_Ma_begin.2.1 50 = .ok (.aload_n 1, 1) := by decide +kernel
theorem d_Ma_begin_51 : decode m_Ma_begin.2.1 51 = .ok (.iconst 1, 1) := by decide +kernel
theorem d_Ma_begin_52 : decode m_Ma_begin.2.1 52 = .ok (.iload 4, 2) := by decide +kernel
theorem d_Ma_begin_54 : decode m_Ma_begin.2.1 54 = .ok (.invokevirtual 56, 3) := by decide +kernel
theorem d_Ma_begin_57 : decode m_Ma_begin.2.1 57 = .ok (.iload 6, 2) := by decide +kernel
theorem d_Ma_begin_59 : decode m_Ma_begin.2.1 59 = .ok (.iconst 2, 1) := by decide +kernel
theorem d_Ma_begin_60 : decode m_Ma_begin.2.1 60 = .ok (.if_icmp .le 11, 3) := by decide +kernel
theorem d_Ma_begin_63 : decode m_Ma_begin.2.1 63 = .ok (.aload_n 0, 1) := by decide +kernel
theorem d_Ma_begin_64 : decode m_Ma_begin.2.1 64 = .ok (.aload_n 1, 1) := by decide +kernel
theorem d_Ma_begin_65 : decode m_Ma_begin.2.1 65 = .ok (.iconst 2, 1) := by decide +kernel
theorem d_Ma_begin_66 : decode m_Ma_begin.2.1 66 = .ok (.iload 5, 2) := by decide +kernel
theorem d_Ma_begin_68 : decode m_Ma_begin.2.1 68 = .ok (.invokevirtual 56, 3) := by decide +kernel
theorem d_Ma_begin_71 : decode m_Ma_begin.2.1 71 = .ok (.return_, 1) := by decide +kernel
theorem d_Ma_enter_0 : decode m_Ma_enter.2.1 0 = .ok (.aload_n 0, 1) := by decide +kernel
theorem d_Ma_enter_1 : decode m_Ma_enter.2.1 1 = .ok (.getfield 18, 3) := by decide +kernel
theorem d_Ma_enter_4 : decode m_Ma_enter.2.1 4 = .ok (.aload_n 0, 1) := by decide +kernel
theorem d_Ma_enter_5 : decode m_Ma_enter.2.1 5 = .ok (.getfield 38, 3) := by decide +kernel
theorem d_Ma_enter_8 : decode m_Ma_enter.2.1 8 = .ok (.iload_n 1, 1) := by decide +kernel
theorem d_Ma_enter_9 : decode m_Ma_enter.2.1 9 = .ok (.iastore, 1) := by decide +kernel
theorem d_Ma_enter_10 : decode m_Ma_enter.2.1 10 = .ok (.aload_n 0, 1) := by decide +kernel
theorem d_Ma_enter_11 : decode m_Ma_enter.2.1 11 = .ok (.getfield 22, 3) := by decide +kernel
theorem d_Ma_enter_14 : decode m_Ma_enter.2.1 14 = .ok (.aload_n 0, 1) := by decide +kernel
theorem d_Ma_enter_15 : decode m_Ma_enter.2.1 15 = .ok (.getfield 38, 3) := by decide +kernel
theorem d_Ma_enter_18 : decode m_Ma_enter.2.1 18 = .ok (.iconst 0, 1) := by decide +kernel
theorem d_Ma_enter_19 : decode m_Ma_enter.2.1 19 = .ok (.iastore, 1) := by decide +kernel
theorem d_Ma_enter_20 : decode m_Ma_enter.2.1 20 = .ok (.aload_n 0, 1) := by decide +kernel
theorem d_Ma_enter_21 : decode m_Ma_enter.2.1 21 = .ok (.getfield 11, 3) := by decide +kernel
theorem d_Ma_enter_24 : decode m_Ma_enter.2.1 24 = .ok (.aload_n 0, 1) := by decide +kernel
theorem d_Ma_enter_25 : decode m_Ma_enter.2.1 25 = .ok (.getfield 38, 3) := by decide +kernel
theorem d_Ma_enter_28 : decode m_Ma_enter.2.1 28 = .ok (.aaload, 1) := by decide +kernel
theorem d_Ma_enter_29 : decode m_Ma_enter.2.1 29 = .ok (.invokevirtual 60, 3) := by decide +kernel
theorem d_Ma_enter_32 : decode m_Ma_enter.2.1 32 = .ok (.return_, 1) := by decide +kernel
theorem d_Ma_setArgument_0 : decode m_Ma_setArgument.2.1 0 = .ok (.aload_n 1, 1) := by decide +kernel
theorem d_Ma_setArgument_1 : decode m_Ma_setArgument.2.1 1 = .ok (.aload_n 1, 1) := by decide +kernel
theorem d_Ma_setArgument_2 : decode m_Ma_setArgument.2.1 2 = .ok (.getfield 45, 3) := by decide +kernel
theorem d_Ma_setArgument_5 : decode m_Ma_setArgument.2.1 5 = .ok (.aload_n 0, 1) := by decide +kernel
theorem d_Ma_setArgument_6 : decode m_Ma_setArgument.2.1 6 = .ok (.getfield 18, 3) := by decide +kernel
theorem d_Ma_setArgument_9 : decode m_Ma_setArgument.2.1 9 = .ok (.iconst 0, 1) := by decide +kernel
theorem d_Ma_setArgument_10 : decode m_Ma_setArgument.2.1 10 = .ok (.iaload, 1) := by decide +kernel
theorem d_Ma_setArgument_11 : decode m_Ma_setArgument.2.1 11 = .ok (.aaload, 1) := by decide +kernel
theorem d_Ma_setArgument_12 : decode m_Ma_setArgument.2.1 12 = .ok (.iload_n 2, 1) := by decide +kernel
theorem d_Ma_setArgument_13 : decode m_Ma_setArgument.2.1 13 = .ok (.invokevirtual 63, 3) := by decide +kernel
theorem d_Ma_setArgument_16 : decode m_Ma_setArgument.2.1 16 = .ok (.iconst 1, 1) := by decide +kernel
theorem d_Ma_setArgument_17 : decode m_Ma_setArgument.2.1 17 = .ok (.if_icmp .ne 18, 3) := by decide +kernel
theorem d_Ma_setArgument_20 : decode m_Ma_setArgument.2.1 20 = .ok (.aload_n 0, 1) := by decide +kernel
theorem d_Ma_setArgument_21 : decode m_Ma_setArgument.2.1 21 = .ok (.getfield 11, 3) := by decide +kernel
theorem d_Ma_setArgument_24 : decode m_Ma_setArgument.2.1 24 = .ok (.iconst 0, 1) := by decide +kernel
theorem d_Ma_setArgument_25 : decode m_Ma_setArgument.2.1 25 = .ok (.aaload, 1) := by decide +kernel
theorem d_Ma_setArgument_26 : decode m_Ma_setArgument.2.1 26 = .ok (.iload_n 2, 1) := by decide +kernel
theorem d_Ma_setArgument_27 : decode m_Ma_setArgument.2.1 27 = .ok (.iconst 1, 1) := by decide +kernel
theorem d_Ma_setArgument_28 : decode m_Ma_setArgument.2.1 28 = .ok (.iload_n 3, 1) := by decide +kernel
theorem d_Ma_setArgument_29 : decode m_Ma_setArgument.2.1 29 = .ok (.invokevirtual 67, 3) := by decide +kernel
theorem d_Ma_setArgument_32 : decode m_Ma_setArgument.2.1 32 = .ok (.goto 83, 3) := by decide +kernel
theorem d_Ma_setArgument_35 : decode m_Ma_setArgument.2.1 35 = .ok (.iload_n 3, 1) := by decide +kernel
theorem d_Ma_setArgument_36 : decode m_Ma_setArgument.2.1 36 = .ok (.ifCond .ge 18, 3) := by decide +kernel
theorem d_Ma_setArgument_39 : decode m_Ma_setArgument.2.1 39 = .ok (.aload_n 0, 1) := by decide +kernel
theorem d_Ma_setArgument_40 : decode m_Ma_setArgument.2.1 40 = .ok (.getfield 11, 3) := by decide +kernel
theorem d_Ma_setArgument_43 : decode m_Ma_setArgument.2.1 43 = .ok (.iconst 0, 1) := by decide +kernel
theorem d_Ma_setArgument_44 : decode m_Ma_setArgument.2.1 44 = .ok (.aaload, 1) := by decide +kernel
theorem d_Ma_setArgument_45 : decode m_Ma_setArgument.2.1 45 = .ok (.iload_n 2, 1) := by decide +kernel
theorem d_Ma_setArgument_46 : decode m_Ma_setArgument.2.1 46 = .ok (.iconst 3, 1) := by decide +kernel
theorem d_Ma_setArgument_47 : decode m_Ma_setArgument.2.1 47 = .ok (.iconst 0, 1) := by decide +kernel
theorem d_Ma_setArgument_48 : decode m_Ma_setArgument.2.1 48 = .ok (.invokevirtual 67, 3) := by decide +kernel
theorem d_Ma_setArgument_51 : decode m_Ma_setArgument.2.1 51 = .ok (.goto 64, 3) := by decide +kernel
theorem d_Ma_setArgument_54 : decode m_Ma_setArgument.2.1 54 = .ok (.aload_n 0, 1) := by decide +kernel
theorem d_Ma_setArgument_55 : decode m_Ma_setArgument.2.1 55 = .ok (.iload_n 3, 1) := by decide +kernel
theorem d_Ma_setArgument_56 : decode m_Ma_setArgument.2.1 56 = .ok (.bipush 7, 2) := by decide +kernel
theorem d_Ma_setArgument_58 : decode m_Ma_setArgument.2.1 58 = .ok (.iand, 1) := by decide +kernel
theorem d_Ma_setArgument_59 : decode m_Ma_setArgument.2.1 59 = .ok (.invokevirtual 71, 3) := by decide +kernel
theorem d_Ma_setArgument_62 : decode m_Ma_setArgument.2.1 62 = .ok (.istore 4, 2) := by decide +kernel
theorem d_Ma_setArgument_64 : decode m_Ma_setArgument.2.1 64 = .ok (.iconst 0, 1) := by decide +kernel
theorem d_Ma_setArgument_65 : decode m_Ma_setArgument.2.1 65 = .ok (.istore 5, 2) := by decide +kernel
theorem d_Ma_setArgument_67 : decode m_Ma_setArgument.2.1 67 = .ok (.iload 5, 2) := by decide +kernel
theorem d_Ma_setArgument_69 : decode m_Ma_setArgument.2.1 69 = .ok (.aload_n 0, 1) := by decide +kernel
theorem d_Ma_setArgument_70 : decode m_Ma_setArgument.2.1 70 = .ok (.getfield 28, 3) := by decide +kernel
theorem d_Ma_setArgument_73 : decode m_Ma_setArgument.2.1 73 = .ok (.iload 4, 2) := by decide +kernel
theorem d_Ma_setArgument_75 : decode m_Ma_setArgument.2.1 75 = .ok (.iaload, 1) := by decide +kernel
theorem d_Ma_setArgument_76 : decode m_Ma_setArgument.2.1 76 = .ok (.if_icmp .ge 26, 3) := by decide +kernel
theorem d_Ma_setArgument_79 : decode m_Ma_setArgument.2.1 79 = .ok (.aload_n 0, 1) := by decide +kernel
theorem d_Ma_setArgument_80 : decode m_Ma_setArgument.2.1 80 = .ok (.getfield 25, 3) := by decide +kernel
theorem d_Ma_setArgument_83 : decode m_Ma_setArgument.2.1 83 = .ok (.iload 4, 2) := by decide +kernel
theorem d_Ma_setArgument_85 : decode m_Ma_setArgument.2.1 85 = .ok (.bipush 8, 2) := by decide +kernel
theorem d_Ma_setArgument_87 : decode m_Ma_setArgument.2.1 87 = .ok (.imul, 1) := by decide +kernel
theorem d_Ma_setArgument_88 : decode m_Ma_setArgument.2.1 88 = .ok (.iload 5, 2) := by decide +kernel
theorem d_Ma_setArgument_90 : decode m_Ma_setArgument.2.1 90 = .ok (.iadd, 1) := by decide +kernel
theorem d_Ma_setArgument_91 : decode m_Ma_setArgument.2.1 91 = .ok (.iload_n 3, 1) := by decide +kernel
theorem d_Ma_setArgument_92 : decode m_Ma_setArgument.2.1 92 = .ok (.iload 5, 2) := by decide +kernel
theorem d_Ma_setArgument_94 : decode m_Ma_setArgument.2.1 94 = .ok (.iadd, 1) := by decide +kernel
theorem d_Ma_setArgument_95 : decode m_Ma_setArgument.2.1 95 = .ok (.iastore, 1) := by decide +kernel
theorem d_Ma_setArgument_96 : decode m_Ma_setArgument.2.1 96 = .ok (.iinc 5 1, 3) := by decide +kernel
theorem d_Ma_setArgument_99 : decode m_Ma_setArgument.2.1 99 = .ok (.goto (-32), 3) := by decide +kernel
theorem d_Ma_setArgument_102 : decode m_Ma_setArgument.2.1 102 = .ok (.aload_n 0, 1) := by decide +kernel
theorem d_Ma_setArgument_103 : decode m_Ma_setArgument.2.1 103 = .ok (.getfield 11, 3) := by decide +kernel
theorem d_Ma_setArgument_106 : decode m_Ma_setArgument.2.1 106 = .ok (.iconst 0, 1) := by decide +kernel
theorem d_Ma_setArgument_107 : decode m_Ma_setArgument.2.1 107 = .ok (.aaload, 1) := by decide +kernel
theorem d_Ma_setArgument_108 : decode m_Ma_setArgument.2.1 108 = .ok (.iload_n 2, 1) := by decide +kernel
theorem d_Ma_setArgument_109 : decode m_Ma_setArgument.2.1 109 = .ok (.iconst 2, 1) := by decide +kernel
theorem d_Ma_setArgument_110 : decode m_Ma_setArgument.2.1 110 = .ok (.iload 4, 2) := by decide +kernel
theorem d_Ma_setArgument_112 : decode m_Ma_setArgument.2.1 112 = .ok (.invokevirtual 67, 3) := by decide +kernel
theorem d_Ma_setArgument_115 : decode m_Ma_setArgument.2.1 115 = .ok (.return_, 1) := by decide +kernel
theorem d_Ma_newRow_0 : decode m_Ma_newRow.2.1 0 = .ok (.aload_n 0, 1) := by decide +kernel
theorem d_Ma_newRow_1 : decode m_Ma_newRow.2.1 1 = .ok (.getfield 35, 3) := by decide +kernel
theorem d_Ma_newRow_4 : decode m_Ma_newRow.2.1 4 = .ok (.istore_n 2, 1) := by decide +kernel
theorem d_Ma_newRow_5 : decode m_Ma_newRow.2.1 5 = .ok (.aload_n 0, 1) := by decide +kernel
theorem d_Ma_newRow_6 : decode m_Ma_newRow.2.1 6 = .ok (.dup, 1) := by decide +kernel
theorem d_Ma_newRow_7 : decode m_Ma_newRow.2.1 7 = .ok (.getfield 35, 3) := by decide +kernel
theorem d_Ma_newRow_10 : decode m_Ma_newRow.2.1 10 = .ok (.iconst 1, 1) := by decide +kernel
theorem d_Ma_newRow_11 : decode m_Ma_newRow.2.1 11 = .ok (.iadd, 1) := by decide +kernel
theorem d_Ma_newRow_12 : decode m_Ma_newRow.2.1 12 = .ok (.putfield 35, 3) := by decide +kernel
theorem d_Ma_newRow_15 : decode m_Ma_newRow.2.1 15 = .ok (.aload_n 0, 1) := by decide +kernel
theorem d_Ma_newRow_16 : decode m_Ma_newRow.2.1 16 = .ok (.getfield 28, 3) := by decide +kernel
theorem d_Ma_newRow_19 : decode m_Ma_newRow.2.1 19 = .ok (.iload_n 2, 1) := by decide +kernel
theorem d_Ma_newRow_20 : decode m_Ma_newRow.2.1 20 = .ok (.iload_n 1, 1) := by decide +kernel
theorem d_Ma_newRow_21 : decode m_Ma_newRow.2.1 21 = .ok (.iastore, 1) := by decide +kernel
theorem d_Ma_newRow_22 : decode m_Ma_newRow.2.1 22 = .ok (.iconst 0, 1) := by decide +kernel
theorem d_Ma_newRow_23 : decode m_Ma_newRow.2.1 23 = .ok (.istore_n 3, 1) := by decide +kernel
theorem d_Ma_newRow_24 : decode m_Ma_newRow.2.1 24 = .ok (.iload_n 3, 1) := by decide +kernel
theorem d_Ma_newRow_25 : decode m_Ma_newRow.2.1 25 = .ok (.iload_n 1, 1) := by decide +kernel
theorem d_Ma_newRow_26 : decode m_Ma_newRow.2.1 26 = .ok (.if_icmp .ge 21, 3) := by decide +kernel
theorem d_Ma_newRow_29 : decode m_Ma_newRow.2.1 29 = .ok (.aload_n 0, 1) := by decide +kernel
theorem d_Ma_newRow_30 : decode m_Ma_newRow.2.1 30 = .ok (.getfield 25, 3) := by decide +kernel
theorem d_Ma_newRow_33 : decode m_Ma_newRow.2.1 33 = .ok (.iload_n 2, 1) := by decide +kernel
theorem d_Ma_newRow_34 : decode m_Ma_newRow.2.1 34 = .ok (.bipush 8, 2) := by decide +kernel
theorem d_Ma_newRow_36 : decode m_Ma_newRow.2.1 36 = .ok (.imul, 1) := by decide +kernel
theorem d_Ma_newRow_37 : decode m_Ma_newRow.2.1 37 = .ok (.iload_n 3, 1) := by decide +kernel
theorem d_Ma_newRow_38 : decode m_Ma_newRow.2.1 38 = .ok (.iadd, 1) := by decide +kernel
theorem d_Ma_newRow_39 : decode m_Ma_newRow.2.1 39 = .ok (.iconst 0, 1) := by decide +kernel
theorem d_Ma_newRow_40 : decode m_Ma_newRow.2.1 40 = .ok (.iastore, 1) := by decide +kernel
theorem d_Ma_newRow_41 : decode m_Ma_newRow.2.1 41 = .ok (.iinc 3 1, 3) := by decide +kernel
theorem d_Ma_newRow_44 : decode m_Ma_newRow.2.1 44 = .ok (.goto (-20), 3) := by decide +kernel
theorem d_Ma_newRow_47 : decode m_Ma_newRow.2.1 47 = .ok (.iload_n 2, 1) := by decide +kernel
theorem d_Ma_newRow_48 : decode m_Ma_newRow.2.1 48 = .ok (.ireturn, 1) := by decide +kernel
theorem d_Ma_goToEnd_0 : decode m_Ma_goToEnd.2.1 0 = .ok (.iconst (-1), 1) := by decide +kernel
theorem d_Ma_goToEnd_1 : decode m_Ma_goToEnd.2.1 1 = .ok (.istore_n 2, 1) := by decide +kernel
theorem d_Ma_goToEnd_2 : decode m_Ma_goToEnd.2.1 2 = .ok (.iconst 0, 1) := by decide +kernel
theorem d_Ma_goToEnd_3 : decode m_Ma_goToEnd.2.1 3 = .ok (.istore_n 3, 1) := by decide +kernel
theorem d_Ma_goToEnd_4 : decode m_Ma_goToEnd.2.1 4 = .ok (.iload_n 3, 1) := by decide +kernel
theorem d_Ma_goToEnd_5 : decode m_Ma_goToEnd.2.1 5 = .ok (.sipush 200, 3) := by decide +kernel
theorem d_Ma_goToEnd_8 : decode m_Ma_goToEnd.2.1 8 = .ok (.if_icmp .ge 39, 3) := by decide +kernel
theorem d_Ma_goToEnd_11 : decode m_Ma_goToEnd.2.1 11 = .ok (.iload_n 2, 1) := by decide +kernel
theorem d_Ma_goToEnd_12 : decode m_Ma_goToEnd.2.1 12 = .ok (.iconst (-1), 1) := by decide +kernel
theorem d_Ma_goToEnd_13 : decode m_Ma_goToEnd.2.1 13 = .ok (.if_icmp .ne 34, 3) := by decide +kernel
theorem d_Ma_goToEnd_16 : decode m_Ma_goToEnd.2.1 16 = .ok (.aload_n 0, 1) := by decide +kernel
theorem d_Ma_goToEnd_17 : decode m_Ma_goToEnd.2.1 17 = .ok (.aload_n 1, 1) := by decide +kernel
theorem d_Ma_goToEnd_18 : decode m_Ma_goToEnd.2.1 18 = .ok (.invokevirtual 75, 3) := by decide +kernel
theorem d_Ma_goToEnd_21 : decode m_Ma_goToEnd.2.1 21 = .ok (.istore_n 2, 1) := by decide +kernel
theorem d_Ma_goToEnd_22 : decode m_Ma_goToEnd.2.1 22 = .ok (.iload_n 2, 1) := by decide +kernel
theorem d_Ma_goToEnd_23 : decode m_Ma_goToEnd.2.1 23 = .ok (.iconst (-1), 1) := by decide +kernel
theorem d_Ma_goToEnd_24 : decode m_Ma_goToEnd.2.1 24 = .ok (.if_icmp .eq 7, 3) := by decide +kernel
theorem d_Ma_goToEnd_27 : decode m_Ma_goToEnd.2.1 27 = .ok (.iload_n 2, 1) := by decide +kernel
theorem d_Ma_goToEnd_28 : decode m_Ma_goToEnd.2.1 28 = .ok (.ifCond .ne 13, 3) := by decide +kernel
theorem d_Ma_goToEnd_31 : decode m_Ma_goToEnd.2.1 31 = .ok (.aload_n 0, 1) := by decide +kernel
theorem d_Ma_goToEnd_32 : decode m_Ma_goToEnd.2.1 32 = .ok (.dup, 1) := by decide +kernel
theorem d_Ma_goToEnd_33 : decode m_Ma_goToEnd.2.1 33 = .ok (.getfield 31, 3) := by decide +kernel
theorem d_Ma_goToEnd_36 : decode m_Ma_goToEnd.2.1 36 = .ok (.iconst 1, 1) := by decide +kernel
theorem d_Ma_goToEnd_37 : decode m_Ma_goToEnd.2.1 37 = .ok (.iadd, 1) := by decide +kernel
theorem d_Ma_goToEnd_38 : decode m_Ma_goToEnd.2.1 38 = .ok (.putfield 31, 3) := by decide +kernel
theorem d_Ma_goToEnd_41 : decode m_Ma_goToEnd.2.1 41 = .ok (.iinc 3 1, 3) := by decide +kernel
theorem d_Ma_goToEnd_44 : decode m_Ma_goToEnd.2.1 44 = .ok (.goto (-40), 3) := by decide +kernel
theorem d_Ma_goToEnd_47 : decode m_Ma_goToEnd.2.1 47 = .ok (.iload_n 2, 1) := by decide +kernel
theorem d_Ma_goToEnd_48 : decode m_Ma_goToEnd.2.1 48 = .ok (.iconst (-1), 1) := by decide +kernel
theorem d_Ma_goToEnd_49 : decode m_Ma_goToEnd.2.1 49 = .ok (.if_icmp .ne 8, 3) := by decide +kernel
theorem d_Ma_goToEnd_52 : decode m_Ma_goToEnd.2.1 52 = .ok (.bipush 6, 2) := by decide +kernel
theorem d_Ma_goToEnd_54 : decode m_Ma_goToEnd.2.1 54 = .ok (.goto 4, 3) := by decide +kernel
theorem d_Ma_goToEnd_57 : decode m_Ma_goToEnd.2.1 57 = .ok (.iload_n 2, 1) := by decide +kernel
theorem d_Ma_goToEnd_58 : decode m_Ma_goToEnd.2.1 58 = .ok (.ireturn, 1) := by decide +kernel
theorem d_Ma_doOne_0 : decode m_Ma_doOne.2.1 0 = .ok (.aload_n 0, 1) := by decide +kernel
theorem d_Ma_doOne_1 : decode m_Ma_doOne.2.1 1 = .ok (.getfield 11, 3) := by decide +kernel
theorem d_Ma_doOne_4 : decode m_Ma_doOne.2.1 4 = .ok (.aload_n 0, 1) := by decide +kernel
theorem d_Ma_doOne_5 : decode m_Ma_doOne.2.1 5 = .ok (.getfield 38, 3) := by decide +kernel
theorem d_Ma_doOne_8 : decode m_Ma_doOne.2.1 8 = .ok (.aaload, 1) := by decide +kernel
theorem d_Ma_doOne_9 : decode m_Ma_doOne.2.1 9 = .ok (.astore_n 2, 1) := by decide +kernel
theorem d_Ma_doOne_10 : decode m_Ma_doOne.2.1 10 = .ok (.aload_n 1, 1) := by decide +kernel
theorem d_Ma_doOne_11 : decode m_Ma_doOne.2.1 11 = .ok (.getfield 45, 3) := by decide +kernel
theorem d_Ma_doOne_14 : decode m_Ma_doOne.2.1 14 = .ok (.aload_n 0, 1) := by decide +kernel
theorem d_Ma_doOne_15 : decode m_Ma_doOne.2.1 15 = .ok (.getfield 18, 3) := by decide +kernel
theorem d_Ma_doOne_18 : decode m_Ma_doOne.2.1 18 = .ok (.aload_n 0, 1) := by decide +kernel
theorem d_Ma_doOne_19 : decode m_Ma_doOne.2.1 19 = .ok (.getfield 38, 3) := by decide +kernel
theorem d_Ma_doOne_22 : decode m_Ma_doOne.2.1 22 = .ok (.iaload, 1) := by decide +kernel
theorem d_Ma_doOne_23 : decode m_Ma_doOne.2.1 23 = .ok (.aaload, 1) := by decide +kernel
theorem d_Ma_doOne_24 : decode m_Ma_doOne.2.1 24 = .ok (.astore_n 3, 1) := by decide +kernel
theorem d_Ma_doOne_25 : decode m_Ma_doOne.2.1 25 = .ok (.aload_n 0, 1) := by decide +kernel
theorem d_Ma_doOne_26 : decode m_Ma_doOne.2.1 26 = .ok (.getfield 22, 3) := by decide +kernel
theorem d_Ma_doOne_29 : decode m_Ma_doOne.2.1 29 = .ok (.aload_n 0, 1) := by decide +kernel
theorem d_Ma_doOne_30 : decode m_Ma_doOne.2.1 30 = .ok (.getfield 38, 3) := by decide +kernel
theorem d_Ma_doOne_33 : decode m_Ma_doOne.2.1 33 = .ok (.iaload, 1) := by decide +kernel
theorem d_Ma_doOne_34 : decode m_Ma_doOne.2.1 34 = .ok (.istore 4, 2) := by decide +kernel
theorem d_Ma_doOne_36 : decode m_Ma_doOne.2.1 36 = .ok (.iload 4, 2) := by decide +kernel
theorem d_Ma_doOne_38 : decode m_Ma_doOne.2.1 38 = .ok (.aload_n 3, 1) := by decide +kernel
theorem d_Ma_doOne_39 : decode m_Ma_doOne.2.1 39 = .ok (.getfield 79, 3) := by decide +kernel
theorem d_Ma_doOne_42 : decode m_Ma_doOne.2.1 42 = .ok (.if_icmp .ge 14, 3) := by decide +kernel
theorem d_Ma_doOne_45 : decode m_Ma_doOne.2.1 45 = .ok (.aload_n 2, 1) := by decide +kernel
theorem d_Ma_doOne_46 : decode m_Ma_doOne.2.1 46 = .ok (.aload_n 1, 1) := by decide +kernel
theorem d_Ma_doOne_47 : decode m_Ma_doOne.2.1 47 = .ok (.aload_n 3, 1) := by decide +kernel
theorem d_Ma_doOne_48 : decode m_Ma_doOne.2.1 48 = .ok (.iload 4, 2) := by decide +kernel
theorem d_Ma_doOne_50 : decode m_Ma_doOne.2.1 50 = .ok (.invokevirtual 82, 3) := by decide +kernel
theorem d_Ma_doOne_53 : decode m_Ma_doOne.2.1 53 = .ok (.ifCond .ne 5, 3) := by decide +kernel
theorem d_Ma_doOne_56 : decode m_Ma_doOne.2.1 56 = .ok (.iconst 1, 1) := by decide +kernel
theorem d_Ma_doOne_57 : decode m_Ma_doOne.2.1 57 = .ok (.ireturn, 1) := by decide +kernel
theorem d_Ma_doOne_58 : decode m_Ma_doOne.2.1 58 = .ok (.aload_n 1, 1) := by decide +kernel
theorem d_Ma_doOne_59 : decode m_Ma_doOne.2.1 59 = .ok (.aload_n 3, 1) := by decide +kernel
theorem d_Ma_doOne_60 : decode m_Ma_doOne.2.1 60 = .ok (.iload 4, 2) := by decide +kernel
theorem d_Ma_doOne_62 : decode m_Ma_doOne.2.1 62 = .ok (.invokevirtual 86, 3) := by decide +kernel
theorem d_Ma_doOne_65 : decode m_Ma_doOne.2.1 65 = .ok (.istore 5, 2) := by decide +kernel
theorem d_Ma_doOne_67 : decode m_Ma_doOne.2.1 67 = .ok (.aload_n 0, 1) := by decide +kernel
theorem d_Ma_doOne_68 : decode m_Ma_doOne.2.1 68 = .ok (.aload_n 2, 1) := by decide +kernel
theorem d_Ma_doOne_69 : decode m_Ma_doOne.2.1 69 = .ok (.iload 5, 2) := by decide +kernel
theorem d_Ma_doOne_71 : decode m_Ma_doOne.2.1 71 = .ok (.invokevirtual 89, 3) := by decide +kernel
theorem d_Ma_doOne_74 : decode m_Ma_doOne.2.1 74 = .ok (.istore 6, 2) := by decide +kernel
end
section
theorem d_Ma_doOne_76 : decode m_Ma_doOne.2.1 76 = .ok (.iload 6, 2) := by decide +kernel
theorem d_Ma_doOne_78 : decode m_Ma_doOne.2.1 78 = .ok (.iconst (-1), 1) := by decide +kernel
theorem d_Ma_doOne_79 : decode m_Ma_doOne.2.1 79 = .ok (.if_icmp .eq 6, 3) := by decide +kernel
theorem d_Ma_doOne_82 : decode m_Ma_doOne.2.1 82 = .ok (.iload 6, 2) := by decide +kernel
theorem d_Ma_doOne_84 : decode m_Ma_doOne.2.1 84 = .ok (.ireturn, 1) := by decide +kernel
theorem d_Ma_doOne_85 : decode m_Ma_doOne.2.1 85 = .ok (.iload 5, 2) := by decide +kernel
theorem d_Ma_doOne_87 : decode m_Ma_doOne.2.1 87 = .ok (.invokestatic 93, 3) := by decide +kernel
theorem d_Ma_doOne_90 : decode m_Ma_doOne.2.1 90 = .ok (.ifCond .eq 11, 3) := by decide +kernel
theorem d_Ma_doOne_93 : decode m_Ma_doOne.2.1 93 = .ok (.aload_n 0, 1) := by decide +kernel
theorem d_Ma_doOne_94 : decode m_Ma_doOne.2.1 94 = .ok (.aload_n 2, 1) := by decide +kernel
theorem d_Ma_doOne_95 : decode m_Ma_doOne.2.1 95 = .ok (.iload 5, 2) := by decide +kernel
theorem d_Ma_doOne_97 : decode m_Ma_doOne.2.1 97 = .ok (.invokevirtual 99, 3) := by decide +kernel
theorem d_Ma_doOne_100 : decode m_Ma_doOne.2.1 100 = .ok (.ireturn, 1) := by decide +kernel
theorem d_Ma_doOne_101 : decode m_Ma_doOne.2.1 101 = .ok (.aload_n 0, 1) := by decide +kernel
theorem d_Ma_doOne_102 : decode m_Ma_doOne.2.1 102 = .ok (.getfield 22, 3) := by decide +kernel
theorem d_Ma_doOne_105 : decode m_Ma_doOne.2.1 105 = .ok (.aload_n 0, 1) := by decide +kernel
theorem d_Ma_doOne_106 : decode m_Ma_doOne.2.1 106 = .ok (.getfield 38, 3) := by decide +kernel
theorem d_Ma_doOne_109 : decode m_Ma_doOne.2.1 109 = .ok (.iload 4, 2) := by decide +kernel
theorem d_Ma_doOne_111 : decode m_Ma_doOne.2.1 111 = .ok (.iload 5, 2) := by decide +kernel
theorem d_Ma_doOne_113 : decode m_Ma_doOne.2.1 113 = .ok (.invokestatic 102, 3) := by decide +kernel
theorem d_Ma_doOne_116 : decode m_Ma_doOne.2.1 116 = .ok (.iadd, 1) := by decide +kernel
theorem d_Ma_doOne_117 : decode m_Ma_doOne.2.1 117 = .ok (.iastore, 1) := by decide +kernel
theorem d_Ma_doOne_118 : decode m_Ma_doOne.2.1 118 = .ok (.iload 5, 2) := by decide +kernel
theorem d_Ma_doOne_120 : decode m_Ma_doOne.2.1 120 = .ok (.sipush 184, 3) := by decide +kernel
theorem d_Ma_doOne_123 : decode m_Ma_doOne.2.1 123 = .ok (.if_icmp .ne 18, 3) := by decide +kernel
theorem d_Ma_doOne_126 : decode m_Ma_doOne.2.1 126 = .ok (.aload_n 0, 1) := by decide +kernel
theorem d_Ma_doOne_127 : decode m_Ma_doOne.2.1 127 = .ok (.aload_n 1, 1) := by decide +kernel
theorem d_Ma_doOne_128 : decode m_Ma_doOne.2.1 128 = .ok (.aload_n 1, 1) := by decide +kernel
theorem d_Ma_doOne_129 : decode m_Ma_doOne.2.1 129 = .ok (.aload_n 3, 1) := by decide +kernel
theorem d_Ma_doOne_130 : decode m_Ma_doOne.2.1 130 = .ok (.iload 4, 2) := by decide +kernel
theorem d_Ma_doOne_132 : decode m_Ma_doOne.2.1 132 = .ok (.invokevirtual 105, 3) := by decide +kernel
theorem d_Ma_doOne_135 : decode m_Ma_doOne.2.1 135 = .ok (.invokevirtual 108, 3) := by decide +kernel
theorem d_Ma_doOne_138 : decode m_Ma_doOne.2.1 138 = .ok (.goto 68, 3) := by decide +kernel
theorem d_Ma_doOne_141 : decode m_Ma_doOne.2.1 141 = .ok (.iload 5, 2) := by decide +kernel
theorem d_Ma_doOne_143 : decode m_Ma_doOne.2.1 143 = .ok (.invokestatic 112, 3) := by decide +kernel
theorem d_Ma_doOne_146 : decode m_Ma_doOne.2.1 146 = .ok (.ifCond .eq 32, 3) := by decide +kernel
theorem d_Ma_doOne_149 : decode m_Ma_doOne.2.1 149 = .ok (.aload_n 0, 1) := by decide +kernel
theorem d_Ma_doOne_150 : decode m_Ma_doOne.2.1 150 = .ok (.aload_n 2, 1) := by decide +kernel
theorem d_Ma_doOne_151 : decode m_Ma_doOne.2.1 151 = .ok (.iload 5, 2) := by decide +kernel
theorem d_Ma_doOne_153 : decode m_Ma_doOne.2.1 153 = .ok (.invokevirtual 115, 3) := by decide +kernel
theorem d_Ma_doOne_156 : decode m_Ma_doOne.2.1 156 = .ok (.ifCond .eq 50, 3) := by decide +kernel
theorem d_Ma_doOne_159 : decode m_Ma_doOne.2.1 159 = .ok (.aload_n 0, 1) := by decide +kernel
theorem d_Ma_doOne_160 : decode m_Ma_doOne.2.1 160 = .ok (.getfield 22, 3) := by decide +kernel
theorem d_Ma_doOne_163 : decode m_Ma_doOne.2.1 163 = .ok (.aload_n 0, 1) := by decide +kernel
theorem d_Ma_doOne_164 : decode m_Ma_doOne.2.1 164 = .ok (.getfield 38, 3) := by decide +kernel
theorem d_Ma_doOne_167 : decode m_Ma_doOne.2.1 167 = .ok (.aload_n 1, 1) := by decide +kernel
theorem d_Ma_doOne_168 : decode m_Ma_doOne.2.1 168 = .ok (.aload_n 3, 1) := by decide +kernel
theorem d_Ma_doOne_169 : decode m_Ma_doOne.2.1 169 = .ok (.iload 4, 2) := by decide +kernel
theorem d_Ma_doOne_171 : decode m_Ma_doOne.2.1 171 = .ok (.invokevirtual 119, 3) := by decide +kernel
theorem d_Ma_doOne_174 : decode m_Ma_doOne.2.1 174 = .ok (.iastore, 1) := by decide +kernel
theorem d_Ma_doOne_175 : decode m_Ma_doOne.2.1 175 = .ok (.goto 31, 3) := by decide +kernel
theorem d_Ma_doOne_178 : decode m_Ma_doOne.2.1 178 = .ok (.iload 5, 2) := by decide +kernel
theorem d_Ma_doOne_180 : decode m_Ma_doOne.2.1 180 = .ok (.invokestatic 102, 3) := by decide +kernel
theorem d_Ma_doOne_183 : decode m_Ma_doOne.2.1 183 = .ok (.iconst 1, 1) := by decide +kernel
theorem d_Ma_doOne_184 : decode m_Ma_doOne.2.1 184 = .ok (.if_icmp .le 15, 3) := by decide +kernel
theorem d_Ma_doOne_187 : decode m_Ma_doOne.2.1 187 = .ok (.aload_n 0, 1) := by decide +kernel
theorem d_Ma_doOne_188 : decode m_Ma_doOne.2.1 188 = .ok (.aload_n 2, 1) := by decide +kernel
theorem d_Ma_doOne_189 : decode m_Ma_doOne.2.1 189 = .ok (.aload_n 1, 1) := by decide +kernel
theorem d_Ma_doOne_190 : decode m_Ma_doOne.2.1 190 = .ok (.aload_n 3, 1) := by decide +kernel
theorem d_Ma_doOne_191 : decode m_Ma_doOne.2.1 191 = .ok (.iload 4, 2) := by decide +kernel
theorem d_Ma_doOne_193 : decode m_Ma_doOne.2.1 193 = .ok (.invokevirtual 122, 3) := by decide +kernel
theorem d_Ma_doOne_196 : decode m_Ma_doOne.2.1 196 = .ok (.goto 10, 3) := by decide +kernel
theorem d_Ma_doOne_199 : decode m_Ma_doOne.2.1 199 = .ok (.aload_n 0, 1) := by decide +kernel
theorem d_Ma_doOne_200 : decode m_Ma_doOne.2.1 200 = .ok (.aload_n 2, 1) := by decide +kernel
theorem d_Ma_doOne_201 : decode m_Ma_doOne.2.1 201 = .ok (.iload 5, 2) := by decide +kernel
theorem d_Ma_doOne_203 : decode m_Ma_doOne.2.1 203 = .ok (.invokevirtual 126, 3) := by decide +kernel
theorem d_Ma_doOne_206 : decode m_Ma_doOne.2.1 206 = .ok (.iconst (-1), 1) := by decide +kernel
theorem d_Ma_doOne_207 : decode m_Ma_doOne.2.1 207 = .ok (.ireturn, 1) := by decide +kernel
theorem d_Ma_trouble_0 : decode m_Ma_trouble.2.1 0 = .ok (.iload_n 2, 1) := by decide +kernel
theorem d_Ma_trouble_1 : decode m_Ma_trouble.2.1 1 = .ok (.lookupswitch 152 #[(46, 121), (79, 128), (108, 59), (184, 135), (188, 73), (190, 106)], 59) := by decide +kernel
theorem d_Ma_trouble_60 : decode m_Ma_trouble.2.1 60 = .ok (.aload_n 1, 1) := by decide +kernel
theorem d_Ma_trouble_61 : decode m_Ma_trouble.2.1 61 = .ok (.iconst 0, 1) := by decide +kernel
theorem d_Ma_trouble_62 : decode m_Ma_trouble.2.1 62 = .ok (.invokevirtual 130, 3) := by decide +kernel
theorem d_Ma_trouble_65 : decode m_Ma_trouble.2.1 65 = .ok (.ifCond .ne 7, 3) := by decide +kernel
theorem d_Ma_trouble_68 : decode m_Ma_trouble.2.1 68 = .ok (.iconst 2, 1) := by decide +kernel
theorem d_Ma_trouble_69 : decode m_Ma_trouble.2.1 69 = .ok (.goto 4, 3) := by decide +kernel
theorem d_Ma_trouble_72 : decode m_Ma_trouble.2.1 72 = .ok (.iconst (-1), 1) := by decide +kernel
theorem d_Ma_trouble_73 : decode m_Ma_trouble.2.1 73 = .ok (.ireturn, 1) := by decide +kernel
theorem d_Ma_trouble_74 : decode m_Ma_trouble.2.1 74 = .ok (.aload_n 1, 1) := by decide +kernel
theorem d_Ma_trouble_75 : decode m_Ma_trouble.2.1 75 = .ok (.iconst 0, 1) := by decide +kernel
theorem d_Ma_trouble_76 : decode m_Ma_trouble.2.1 76 = .ok (.invokevirtual 130, 3) := by decide +kernel
theorem d_Ma_trouble_79 : decode m_Ma_trouble.2.1 79 = .ok (.ifCond .lt 22, 3) := by decide +kernel
theorem d_Ma_trouble_82 : decode m_Ma_trouble.2.1 82 = .ok (.aload_n 1, 1) := by decide +kernel
theorem d_Ma_trouble_83 : decode m_Ma_trouble.2.1 83 = .ok (.iconst 0, 1) := by decide +kernel
theorem d_Ma_trouble_84 : decode m_Ma_trouble.2.1 84 = .ok (.invokevirtual 130, 3) := by decide +kernel
theorem d_Ma_trouble_87 : decode m_Ma_trouble.2.1 87 = .ok (.bipush 8, 2) := by decide +kernel
theorem d_Ma_trouble_89 : decode m_Ma_trouble.2.1 89 = .ok (.if_icmp .gt 12, 3) := by decide +kernel
theorem d_Ma_trouble_92 : decode m_Ma_trouble.2.1 92 = .ok (.aload_n 0, 1) := by decide +kernel
theorem d_Ma_trouble_93 : decode m_Ma_trouble.2.1 93 = .ok (.getfield 35, 3) := by decide +kernel
theorem d_Ma_trouble_96 : decode m_Ma_trouble.2.1 96 = .ok (.bipush 8, 2) := by decide +kernel
theorem d_Ma_trouble_98 : decode m_Ma_trouble.2.1 98 = .ok (.if_icmp .lt 7, 3) := by decide +kernel
theorem d_Ma_trouble_101 : decode m_Ma_trouble.2.1 101 = .ok (.iconst 5, 1) := by decide +kernel
theorem d_Ma_trouble_102 : decode m_Ma_trouble.2.1 102 = .ok (.goto 4, 3) := by decide +kernel
theorem d_Ma_trouble_105 : decode m_Ma_trouble.2.1 105 = .ok (.iconst (-1), 1) := by decide +kernel
theorem d_Ma_trouble_106 : decode m_Ma_trouble.2.1 106 = .ok (.ireturn, 1) := by decide +kernel
theorem d_Ma_trouble_107 : decode m_Ma_trouble.2.1 107 = .ok (.aload_n 1, 1) := by decide +kernel
theorem d_Ma_trouble_108 : decode m_Ma_trouble.2.1 108 = .ok (.iconst 0, 1) := by decide +kernel
theorem d_Ma_trouble_109 : decode m_Ma_trouble.2.1 109 = .ok (.invokevirtual 133, 3) := by decide +kernel
theorem d_Ma_trouble_112 : decode m_Ma_trouble.2.1 112 = .ok (.iconst 3, 1) := by decide +kernel
theorem d_Ma_trouble_113 : decode m_Ma_trouble.2.1 113 = .ok (.if_icmp .ne 7, 3) := by decide +kernel
theorem d_Ma_trouble_116 : decode m_Ma_trouble.2.1 116 = .ok (.iconst 4, 1) := by decide +kernel
theorem d_Ma_trouble_117 : decode m_Ma_trouble.2.1 117 = .ok (.goto 4, 3) := by decide +kernel
theorem d_Ma_trouble_120 : decode m_Ma_trouble.2.1 120 = .ok (.iconst (-1), 1) := by decide +kernel
theorem d_Ma_trouble_121 : decode m_Ma_trouble.2.1 121 = .ok (.ireturn, 1) := by decide +kernel
theorem d_Ma_trouble_122 : decode m_Ma_trouble.2.1 122 = .ok (.aload_n 0, 1) := by decide +kernel
theorem d_Ma_trouble_123 : decode m_Ma_trouble.2.1 123 = .ok (.aload_n 1, 1) := by decide +kernel
theorem d_Ma_trouble_124 : decode m_Ma_trouble.2.1 124 = .ok (.iconst 1, 1) := by decide +kernel
theorem d_Ma_trouble_125 : decode m_Ma_trouble.2.1 125 = .ok (.invokevirtual 136, 3) := by decide +kernel
theorem d_Ma_trouble_128 : decode m_Ma_trouble.2.1 128 = .ok (.ireturn, 1) := by decide +kernel
theorem d_Ma_trouble_129 : decode m_Ma_trouble.2.1 129 = .ok (.aload_n 0, 1) := by decide +kernel
theorem d_Ma_trouble_130 : decode m_Ma_trouble.2.1 130 = .ok (.aload_n 1, 1) := by decide +kernel
theorem d_Ma_trouble_131 : decode m_Ma_trouble.2.1 131 = .ok (.iconst 2, 1) := by decide +kernel
theorem d_Ma_trouble_132 : decode m_Ma_trouble.2.1 132 = .ok (.invokevirtual 136, 3) := by decide +kernel
theorem d_Ma_trouble_135 : decode m_Ma_trouble.2.1 135 = .ok (.ireturn, 1) := by decide +kernel
theorem d_Ma_trouble_136 : decode m_Ma_trouble.2.1 136 = .ok (.aload_n 0, 1) := by decide +kernel
theorem d_Ma_trouble_137 : decode m_Ma_trouble.2.1 137 = .ok (.getfield 38, 3) := by decide +kernel
theorem d_Ma_trouble_140 : decode m_Ma_trouble.2.1 140 = .ok (.iconst 1, 1) := by decide +kernel
theorem d_Ma_trouble_141 : decode m_Ma_trouble.2.1 141 = .ok (.iadd, 1) := by decide +kernel
theorem d_Ma_trouble_142 : decode m_Ma_trouble.2.1 142 = .ok (.iconst 4, 1) := by decide +kernel
theorem d_Ma_trouble_143 : decode m_Ma_trouble.2.1 143 = .ok (.if_icmp .lt 8, 3) := by decide +kernel
theorem d_Ma_trouble_146 : decode m_Ma_trouble.2.1 146 = .ok (.bipush 6, 2) := by decide +kernel
theorem d_Ma_trouble_148 : decode m_Ma_trouble.2.1 148 = .ok (.goto 4, 3) := by decide +kernel
theorem d_Ma_trouble_151 : decode m_Ma_trouble.2.1 151 = .ok (.iconst (-1), 1) := by decide +kernel
theorem d_Ma_trouble_152 : decode m_Ma_trouble.2.1 152 = .ok (.ireturn, 1) := by decide +kernel
theorem d_Ma_trouble_153 : decode m_Ma_trouble.2.1 153 = .ok (.iconst (-1), 1) := by decide +kernel
theorem d_Ma_trouble_154 : decode m_Ma_trouble.2.1 154 = .ok (.ireturn, 1) := by decide +kernel
theorem d_Ma_troubleOfElement_0 : decode m_Ma_troubleOfElement.2.1 0 = .ok (.aload_n 1, 1) := by decide +kernel
theorem d_Ma_troubleOfElement_1 : decode m_Ma_troubleOfElement.2.1 1 = .ok (.iload_n 2, 1) := by decide +kernel
theorem d_Ma_troubleOfElement_2 : decode m_Ma_troubleOfElement.2.1 2 = .ok (.invokevirtual 133, 3) := by decide +kernel
theorem d_Ma_troubleOfElement_5 : decode m_Ma_troubleOfElement.2.1 5 = .ok (.iconst 3, 1) := by decide +kernel
theorem d_Ma_troubleOfElement_6 : decode m_Ma_troubleOfElement.2.1 6 = .ok (.if_icmp .ne 5, 3) := by decide +kernel
theorem d_Ma_troubleOfElement_9 : decode m_Ma_troubleOfElement.2.1 9 = .ok (.iconst 4, 1) := by decide +kernel
theorem d_Ma_troubleOfElement_10 : decode m_Ma_troubleOfElement.2.1 10 = .ok (.ireturn, 1) := by decide +kernel
theorem d_Ma_troubleOfElement_11 : decode m_Ma_troubleOfElement.2.1 11 = .ok (.aload_n 1, 1) := by decide +kernel
theorem d_Ma_troubleOfElement_12 : decode m_Ma_troubleOfElement.2.1 12 = .ok (.iload_n 2, 1) := by decide +kernel
theorem d_Ma_troubleOfElement_13 : decode m_Ma_troubleOfElement.2.1 13 = .ok (.iconst 1, 1) := by decide +kernel
theorem d_Ma_troubleOfElement_14 : decode m_Ma_troubleOfElement.2.1 14 = .ok (.isub, 1) := by decide +kernel
theorem d_Ma_troubleOfElement_15 : decode m_Ma_troubleOfElement.2.1 15 = .ok (.invokevirtual 130, 3) := by decide +kernel
theorem d_Ma_troubleOfElement_18 : decode m_Ma_troubleOfElement.2.1 18 = .ok (.istore_n 3, 1) := by decide +kernel
theorem d_Ma_troubleOfElement_19 : decode m_Ma_troubleOfElement.2.1 19 = .ok (.iload_n 3, 1) := by decide +kernel
theorem d_Ma_troubleOfElement_20 : decode m_Ma_troubleOfElement.2.1 20 = .ok (.ifCond .lt 17, 3) := by decide +kernel
theorem d_Ma_troubleOfElement_23 : decode m_Ma_troubleOfElement.2.1 23 = .ok (.iload_n 3, 1) := by decide +kernel
theorem d_Ma_troubleOfElement_24 : decode m_Ma_troubleOfElement.2.1 24 = .ok (.aload_n 0, 1) := by decide +kernel
theorem d_Ma_troubleOfElement_25 : decode m_Ma_troubleOfElement.2.1 25 = .ok (.getfield 28, 3) := by decide +kernel
theorem d_Ma_troubleOfElement_28 : decode m_Ma_troubleOfElement.2.1 28 = .ok (.aload_n 1, 1) := by decide +kernel
theorem d_Ma_troubleOfElement_29 : decode m_Ma_troubleOfElement.2.1 29 = .ok (.iload_n 2, 1) := by decide +kernel
theorem d_Ma_troubleOfElement_30 : decode m_Ma_troubleOfElement.2.1 30 = .ok (.invokevirtual 130, 3) := by decide +kernel
theorem d_Ma_troubleOfElement_33 : decode m_Ma_troubleOfElement.2.1 33 = .ok (.iaload, 1) := by decide +kernel
theorem d_Ma_troubleOfElement_34 : decode m_Ma_troubleOfElement.2.1 34 = .ok (.if_icmp .lt 7, 3) := by decide +kernel
theorem d_Ma_troubleOfElement_37 : decode m_Ma_troubleOfElement.2.1 37 = .ok (.iconst 3, 1) := by decide +kernel
theorem d_Ma_troubleOfElement_38 : decode m_Ma_troubleOfElement.2.1 38 = .ok (.goto 4, 3) := by decide +kernel
theorem d_Ma_troubleOfElement_41 : decode m_Ma_troubleOfElement.2.1 41 = .ok (.iconst (-1), 1) := by decide +kernel
theorem d_Ma_troubleOfElement_42 : decode m_Ma_troubleOfElement.2.1 42 = .ok (.ireturn, 1) := by decide +kernel
theorem d_Ma_call_0 : decode m_Ma_call.2.1 0 = .ok (.aload_n 0, 1) := by decide +kernel
theorem d_Ma_call_1 : decode m_Ma_call.2.1 1 = .ok (.getfield 11, 3) := by decide +kernel
theorem d_Ma_call_4 : decode m_Ma_call.2.1 4 = .ok (.aload_n 0, 1) := by decide +kernel
theorem d_Ma_call_5 : decode m_Ma_call.2.1 5 = .ok (.getfield 38, 3) := by decide +kernel
theorem d_Ma_call_8 : decode m_Ma_call.2.1 8 = .ok (.aaload, 1) := by decide +kernel
theorem d_Ma_call_9 : decode m_Ma_call.2.1 9 = .ok (.astore_n 3, 1) := by decide +kernel
theorem d_Ma_call_10 : decode m_Ma_call.2.1 10 = .ok (.aload_n 0, 1) := by decide +kernel
theorem d_Ma_call_11 : decode m_Ma_call.2.1 11 = .ok (.dup, 1) := by decide +kernel
theorem d_Ma_call_12 : decode m_Ma_call.2.1 12 = .ok (.getfield 38, 3) := by decide +kernel
theorem d_Ma_call_15 : decode m_Ma_call.2.1 15 = .ok (.iconst 1, 1) := by decide +kernel
theorem d_Ma_call_16 : decode m_Ma_call.2.1 16 = .ok (.iadd, 1) := by decide +kernel
theorem d_Ma_call_17 : decode m_Ma_call.2.1 17 = .ok (.putfield 38, 3) := by decide +kernel
theorem d_Ma_call_20 : decode m_Ma_call.2.1 20 = .ok (.aload_n 0, 1) := by decide +kernel
theorem d_Ma_call_21 : decode m_Ma_call.2.1 21 = .ok (.iload_n 2, 1) := by decide +kernel
theorem d_Ma_call_22 : decode m_Ma_call.2.1 22 = .ok (.invokevirtual 41, 3) := by decide +kernel
theorem d_Ma_call_25 : decode m_Ma_call.2.1 25 = .ok (.aload_n 1, 1) := by decide +kernel
theorem d_Ma_call_26 : decode m_Ma_call.2.1 26 = .ok (.getfield 45, 3) := by decide +kernel
theorem d_Ma_call_29 : decode m_Ma_call.2.1 29 = .ok (.iload_n 2, 1) := by decide +kernel
theorem d_Ma_call_30 : decode m_Ma_call.2.1 30 = .ok (.aaload, 1) := by decide +kernel
theorem d_Ma_call_31 : decode m_Ma_call.2.1 31 = .ok (.getfield 51, 3) := by decide +kernel
theorem d_Ma_call_34 : decode m_Ma_call.2.1 34 = .ok (.iconst 1, 1) := by decide +kernel
theorem d_Ma_call_35 : decode m_Ma_call.2.1 35 = .ok (.isub, 1) := by decide +kernel
theorem d_Ma_call_36 : decode m_Ma_call.2.1 36 = .ok (.istore 4, 2) := by decide +kernel
theorem d_Ma_call_38 : decode m_Ma_call.2.1 38 = .ok (.iload 4, 2) := by decide +kernel
theorem d_Ma_call_40 : decode m_Ma_call.2.1 40 = .ok (.ifCond .lt 35, 3) := by decide +kernel
theorem d_Ma_call_43 : decode m_Ma_call.2.1 43 = .ok (.aload_n 3, 1) := by decide +kernel
theorem d_Ma_call_44 : decode m_Ma_call.2.1 44 = .ok (.invokevirtual 139, 3) := by decide +kernel
theorem d_Ma_call_47 : decode m_Ma_call.2.1 47 = .ok (.istore 5, 2) := by decide +kernel
theorem d_Ma_call_49 : decode m_Ma_call.2.1 49 = .ok (.aload_n 0, 1) := by decide +kernel
theorem d_Ma_call_50 : decode m_Ma_call.2.1 50 = .ok (.getfield 11, 3) := by decide +kernel
theorem d_Ma_call_53 : decode m_Ma_call.2.1 53 = .ok (.aload_n 0, 1) := by decide +kernel
theorem d_Ma_call_54 : decode m_Ma_call.2.1 54 = .ok (.getfield 38, 3) := by decide +kernel
theorem d_Ma_call_57 : decode m_Ma_call.2.1 57 = .ok (.aaload, 1) := by decide +kernel
theorem d_Ma_call_58 : decode m_Ma_call.2.1 58 = .ok (.iload 4, 2) := by decide +kernel
theorem d_Ma_call_60 : decode m_Ma_call.2.1 60 = .ok (.aload_n 3, 1) := by decide +kernel
theorem d_Ma_call_61 : decode m_Ma_call.2.1 61 = .ok (.invokevirtual 143, 3) := by decide +kernel
theorem d_Ma_call_64 : decode m_Ma_call.2.1 64 = .ok (.iload 5, 2) := by decide +kernel
theorem d_Ma_call_66 : decode m_Ma_call.2.1 66 = .ok (.invokevirtual 67, 3) := by decide +kernel
theorem d_Ma_call_69 : decode m_Ma_call.2.1 69 = .ok (.iinc 4 (-1), 3) := by decide +kernel
theorem d_Ma_call_72 : decode m_Ma_call.2.1 72 = .ok (.goto (-34), 3) := by decide +kernel
theorem d_Ma_call_75 : decode m_Ma_call.2.1 75 = .ok (.return_, 1) := by decide +kernel
theorem d_Ma_leave_0 : decode m_Ma_leave.2.1 0 = .ok (.iload_n 2, 1) := by decide +kernel
theorem d_Ma_leave_1 : decode m_Ma_leave.2.1 1 = .ok (.sipush 177, 3) := by decide +kernel
theorem d_Ma_leave_4 : decode m_Ma_leave.2.1 4 = .ok (.if_icmp .eq 7, 3) := by decide +kernel
theorem d_Ma_leave_7 : decode m_Ma_leave.2.1 7 = .ok (.iconst 1, 1) := by decide +kernel
theorem d_Ma_leave_8 : decode m_Ma_leave.2.1 8 = .ok (.goto 4, 3) := by decide +kernel
theorem d_Ma_leave_11 : decode m_Ma_leave.2.1 11 = .ok (.iconst 0, 1) := by decide +kernel
theorem d_Ma_leave_12 : decode m_Ma_leave.2.1 12 = .ok (.istore_n 3, 1) := by decide +kernel
theorem d_Ma_leave_13 : decode m_Ma_leave.2.1 13 = .ok (.iload_n 3, 1) := by decide +kernel
theorem d_Ma_leave_14 : decode m_Ma_leave.2.1 14 = .ok (.ifCond .eq 10, 3) := by decide +kernel
theorem d_Ma_leave_17 : decode m_Ma_leave.2.1 17 = .ok (.aload_n 1, 1) := by decide +kernel
theorem d_Ma_leave_18 : decode m_Ma_leave.2.1 18 = .ok (.invokevirtual 139, 3) := by decide +kernel
theorem d_Ma_leave_21 : decode m_Ma_leave.2.1 21 = .ok (.goto 4, 3) := by decide +kernel
theorem d_Ma_leave_24 : decode m_Ma_leave.2.1 24 = .ok (.iconst 0, 1) := by decide +kernel
theorem d_Ma_leave_25 : decode m_Ma_leave.2.1 25 = .ok (.istore 4, 2) := by decide +kernel
theorem d_Ma_leave_27 : decode m_Ma_leave.2.1 27 = .ok (.iload_n 3, 1) := by decide +kernel
theorem d_Ma_leave_28 : decode m_Ma_leave.2.1 28 = .ok (.ifCond .eq 10, 3) := by decide +kernel
theorem d_Ma_leave_31 : decode m_Ma_leave.2.1 31 = .ok (.aload_n 1, 1) := by decide +kernel
theorem d_Ma_leave_32 : decode m_Ma_leave.2.1 32 = .ok (.invokevirtual 143, 3) := by decide +kernel
theorem d_Ma_leave_35 : decode m_Ma_leave.2.1 35 = .ok (.goto 4, 3) := by decide +kernel
theorem d_Ma_leave_38 : decode m_Ma_leave.2.1 38 = .ok (.iconst 0, 1) := by decide +kernel
theorem d_Ma_leave_39 : decode m_Ma_leave.2.1 39 = .ok (.istore 5, 2) := by decide +kernel
theorem d_Ma_leave_41 : decode m_Ma_leave.2.1 41 = .ok (.aload_n 0, 1) := by decide +kernel
theorem d_Ma_leave_42 : decode m_Ma_leave.2.1 42 = .ok (.getfield 38, 3) := by decide +kernel
theorem d_Ma_leave_45 : decode m_Ma_leave.2.1 45 = .ok (.ifCond .ne 17, 3) := by decide +kernel
theorem d_Ma_leave_48 : decode m_Ma_leave.2.1 48 = .ok (.aload_n 0, 1) := by decide +kernel
theorem d_Ma_leave_49 : decode m_Ma_leave.2.1 49 = .ok (.aload_n 0, 1) := by decide +kernel
theorem d_Ma_leave_50 : decode m_Ma_leave.2.1 50 = .ok (.iload 5, 2) := by decide +kernel
theorem d_Ma_leave_52 : decode m_Ma_leave.2.1 52 = .ok (.iload 4, 2) := by decide +kernel
theorem d_Ma_leave_54 : decode m_Ma_leave.2.1 54 = .ok (.invokevirtual 146, 3) := by decide +kernel
theorem d_Ma_leave_57 : decode m_Ma_leave.2.1 57 = .ok (.putfield 150, 3) := by decide +kernel
theorem d_Ma_leave_60 : decode m_Ma_leave.2.1 60 = .ok (.iconst 0, 1) := by decide +kernel
theorem d_Ma_leave_61 : decode m_Ma_leave.2.1 61 = .ok (.ireturn, 1) := by decide +kernel
theorem d_Ma_leave_62 : decode m_Ma_leave.2.1 62 = .ok (.aload_n 0, 1) := by decide +kernel
theorem d_Ma_leave_63 : decode m_Ma_leave.2.1 63 = .ok (.dup, 1) := by decide +kernel
theorem d_Ma_leave_64 : decode m_Ma_leave.2.1 64 = .ok (.getfield 38, 3) := by decide +kernel
theorem d_Ma_leave_67 : decode m_Ma_leave.2.1 67 = .ok (.iconst 1, 1) := by decide +kernel
theorem d_Ma_leave_68 : decode m_Ma_leave.2.1 68 = .ok (.isub, 1) := by decide +kernel
theorem d_Ma_leave_69 : decode m_Ma_leave.2.1 69 = .ok (.putfield 38, 3) := by decide +kernel
theorem d_Ma_leave_72 : decode m_Ma_leave.2.1 72 = .ok (.iload_n 3, 1) := by decide +kernel
theorem d_Ma_leave_73 : decode m_Ma_leave.2.1 73 = .ok (.ifCond .eq 19, 3) := by decide +kernel
theorem d_Ma_leave_76 : decode m_Ma_leave.2.1 76 = .ok (.aload_n 0, 1) := by decide +kernel
theorem d_Ma_leave_77 : decode m_Ma_leave.2.1 77 = .ok (.getfield 11, 3) := by decide +kernel
theorem d_Ma_leave_80 : decode m_Ma_leave.2.1 80 = .ok (.aload_n 0, 1) := by decide +kernel
theorem d_Ma_leave_81 : decode m_Ma_leave.2.1 81 = .ok (.getfield 38, 3) := by decide +kernel
theorem d_Ma_leave_84 : decode m_Ma_leave.2.1 84 = .ok (.aaload, 1) := by decide +kernel
theorem d_Ma_leave_85 : decode m_Ma_leave.2.1 85 = .ok (.iload 5, 2) := by decide +kernel
theorem d_Ma_leave_87 : decode m_Ma_leave.2.1 87 = .ok (.iload 4, 2) := by decide +kernel
theorem d_Ma_leave_89 : decode m_Ma_leave.2.1 89 = .ok (.invokevirtual 153, 3) := by decide +kernel
theorem d_Ma_leave_92 : decode m_Ma_leave.2.1 92 = .ok (.iconst (-1), 1) := by decide +kernel
theorem d_Ma_leave_93 : decode m_Ma_leave.2.1 93 = .ok (.ireturn, 1) := by decide +kernel
theorem d_Ma_resultOf_0 : decode m_Ma_resultOf.2.1 0 = .ok (.iload_n 1, 1) := by decide +kernel
theorem d_Ma_resultOf_1 : decode m_Ma_resultOf.2.1 1 = .ok (.tableswitch 38 1 3 #[27, 29, 36], 27) := by decide +kernel
theorem d_Ma_resultOf_28 : decode m_Ma_resultOf.2.1 28 = .ok (.iload_n 2, 1) := by decide +kernel
theorem d_Ma_resultOf_29 : decode m_Ma_resultOf.2.1 29 = .ok (.ireturn, 1) := by decide +kernel
theorem d_Ma_resultOf_30 : decode m_Ma_resultOf.2.1 30 = .ok (.aload_n 0, 1) := by decide +kernel
theorem d_Ma_resultOf_31 : decode m_Ma_resultOf.2.1 31 = .ok (.getfield 28, 3) := by decide +kernel
theorem d_Ma_resultOf_34 : decode m_Ma_resultOf.2.1 34 = .ok (.iload_n 2, 1) := by decide +kernel
theorem d_Ma_resultOf_35 : decode m_Ma_resultOf.2.1 35 = .ok (.iaload, 1) := by decide +kernel
theorem d_Ma_resultOf_36 : decode m_Ma_resultOf.2.1 36 = .ok (.ireturn, 1) := by decide +kernel
theorem d_Ma_resultOf_37 : decode m_Ma_resultOf.2.1 37 = .ok (.iconst (-1), 1) := by decide +kernel
theorem d_Ma_resultOf_38 : decode m_Ma_resultOf.2.1 38 = .ok (.ireturn, 1) := by decide +kernel
theorem d_Ma_resultOf_39 : decode m_Ma_resultOf.2.1 39 = .ok (.iconst 0, 1) := by decide +kernel
theorem d_Ma_resultOf_40 : decode m_Ma_resultOf.2.1 40 = .ok (.ireturn, 1) := by decide +kernel
theorem d_Ma_goesToTarget_0 : decode m_Ma_goesToTarget.2.1 0 = .ok (.iload_n 2, 1) := by decide +kernel
theorem d_Ma_goesToTarget_1 : decode m_Ma_goesToTarget.2.1 1 = .ok (.sipush 167, 3) := by decide +kernel
theorem d_Ma_goesToTarget_4 : decode m_Ma_goesToTarget.2.1 4 = .ok (.if_icmp .ne 5, 3) := by decide +kernel
theorem d_Ma_goesToTarget_7 : decode m_Ma_goesToTarget.2.1 7 = .ok (.iconst 1, 1) := by decide +kernel
theorem d_Ma_goesToTarget_8 : decode m_Ma_goesToTarget.2.1 8 = .ok (.ireturn, 1) := by decide +kernel
theorem d_Ma_goesToTarget_9 : decode m_Ma_goesToTarget.2.1 9 = .ok (.aload_n 1, 1) := by decide +kernel
theorem d_Ma_goesToTarget_10 : decode m_Ma_goesToTarget.2.1 10 = .ok (.invokevirtual 139, 3) := by decide +kernel
theorem d_Ma_goesToTarget_13 : decode m_Ma_goesToTarget.2.1 13 = .ok (.istore_n 3, 1) := by decide +kernel
theorem d_Ma_goesToTarget_14 : decode m_Ma_goesToTarget.2.1 14 = .ok (.iload_n 2, 1) := by decide +kernel
theorem d_Ma_goesToTarget_15 : decode m_Ma_goesToTarget.2.1 15 = .ok (.sipush 198, 3) := by decide +kernel
theorem d_Ma_goesToTarget_18 : decode m_Ma_goesToTarget.2.1 18 = .ok (.if_icmp .eq 10, 3) := by decide +kernel
theorem d_Ma_goesToTarget_21 : decode m_Ma_goesToTarget.2.1 21 = .ok (.iload_n 2, 1) := by decide +kernel
theorem d_Ma_goesToTarget_22 : decode m_Ma_goesToTarget.2.1 22 = .ok (.sipush 199, 3) := by decide +kernel
theorem d_Ma_goesToTarget_25 : decode m_Ma_goesToTarget.2.1 25 = .ok (.if_icmp .ne 37, 3) := by decide +kernel
theorem d_Ma_goesToTarget_28 : decode m_Ma_goesToTarget.2.1 28 = .ok (.aload_n 1, 1) := by decide +kernel
theorem d_Ma_goesToTarget_29 : decode m_Ma_goesToTarget.2.1 29 = .ok (.invokevirtual 143, 3) := by decide +kernel
theorem d_Ma_goesToTarget_32 : decode m_Ma_goesToTarget.2.1 32 = .ok (.iconst 3, 1) := by decide +kernel
theorem d_Ma_goesToTarget_33 : decode m_Ma_goesToTarget.2.1 33 = .ok (.if_icmp .ne 7, 3) := by decide +kernel
theorem d_Ma_goesToTarget_36 : decode m_Ma_goesToTarget.2.1 36 = .ok (.iconst 1, 1) := by decide +kernel
theorem d_Ma_goesToTarget_37 : decode m_Ma_goesToTarget.2.1 37 = .ok (.goto 4, 3) := by decide +kernel
theorem d_Ma_goesToTarget_40 : decode m_Ma_goesToTarget.2.1 40 = .ok (.iconst 0, 1) := by decide +kernel
theorem d_Ma_goesToTarget_41 : decode m_Ma_goesToTarget.2.1 41 = .ok (.iload_n 2, 1) := by decide +kernel
theorem d_Ma_goesToTarget_42 : decode m_Ma_goesToTarget.2.1 42 = .ok (.sipush 198, 3) := by decide +kernel
theorem d_Ma_goesToTarget_45 : decode m_Ma_goesToTarget.2.1 45 = .ok (.if_icmp .ne 7, 3) := by decide +kernel
theorem d_Ma_goesToTarget_48 : decode m_Ma_goesToTarget.2.1 48 = .ok (.iconst 1, 1) := by decide +kernel
theorem d_Ma_goesToTarget_49 : decode m_Ma_goesToTarget.2.1 49 = .ok (.goto 4, 3) := by decide +kernel
theorem d_Ma_goesToTarget_52 : decode m_Ma_goesToTarget.2.1 52 = .ok (.iconst 0, 1) := by decide +kernel
theorem d_Ma_goesToTarget_53 : decode m_Ma_goesToTarget.2.1 53 = .ok (.if_icmp .ne 7, 3) := by decide +kernel
theorem d_Ma_goesToTarget_56 : decode m_Ma_goesToTarget.2.1 56 = .ok (.iconst 1, 1) := by decide +kernel
theorem d_Ma_goesToTarget_57 : decode m_Ma_goesToTarget.2.1 57 = .ok (.goto 4, 3) := by decide +kernel
theorem d_Ma_goesToTarget_60 : decode m_Ma_goesToTarget.2.1 60 = .ok (.iconst 0, 1) := by decide +kernel
theorem d_Ma_goesToTarget_61 : decode m_Ma_goesToTarget.2.1 61 = .ok (.ireturn, 1) := by decide +kernel
theorem d_Ma_goesToTarget_62 : decode m_Ma_goesToTarget.2.1 62 = .ok (.iload_n 2, 1) := by decide +kernel
theorem d_Ma_goesToTarget_63 : decode m_Ma_goesToTarget.2.1 63 = .ok (.sipush 158, 3) := by decide +kernel
theorem d_Ma_goesToTarget_66 : decode m_Ma_goesToTarget.2.1 66 = .ok (.if_icmp .gt 15, 3) := by decide +kernel
theorem d_Ma_goesToTarget_69 : decode m_Ma_goesToTarget.2.1 69 = .ok (.aload_n 0, 1) := by decide +kernel
theorem d_Ma_goesToTarget_70 : decode m_Ma_goesToTarget.2.1 70 = .ok (.iload_n 2, 1) := by decide +kernel
theorem d_Ma_goesToTarget_71 : decode m_Ma_goesToTarget.2.1 71 = .ok (.sipush 153, 3) := by decide +kernel
theorem d_Ma_goesToTarget_74 : decode m_Ma_goesToTarget.2.1 74 = .ok (.isub, 1) := by decide +kernel
theorem d_Ma_goesToTarget_75 : decode m_Ma_goesToTarget.2.1 75 = .ok (.iload_n 3, 1) := by decide +kernel
theorem d_Ma_goesToTarget_76 : decode m_Ma_goesToTarget.2.1 76 = .ok (.iconst 0, 1) := by decide +kernel
theorem d_Ma_goesToTarget_77 : decode m_Ma_goesToTarget.2.1 77 = .ok (.invokevirtual 157, 3) := by decide +kernel
theorem d_Ma_goesToTarget_80 : decode m_Ma_goesToTarget.2.1 80 = .ok (.ireturn, 1) := by decide +kernel
theorem d_Ma_goesToTarget_81 : decode m_Ma_goesToTarget.2.1 81 = .ok (.aload_n 0, 1) := by decide +kernel
theorem d_Ma_goesToTarget_82 : decode m_Ma_goesToTarget.2.1 82 = .ok (.iload_n 2, 1) := by decide +kernel
theorem d_Ma_goesToTarget_83 : decode m_Ma_goesToTarget.2.1 83 = .ok (.sipush 159, 3) := by decide +kernel
theorem d_Ma_goesToTarget_86 : decode m_Ma_goesToTarget.2.1 86 = .ok (.isub, 1) := by decide +kernel
theorem d_Ma_goesToTarget_87 : decode m_Ma_goesToTarget.2.1 87 = .ok (.aload_n 1, 1) := by decide +kernel
theorem d_Ma_goesToTarget_88 : decode m_Ma_goesToTarget.2.1 88 = .ok (.invokevirtual 139, 3) := by decide +kernel
theorem d_Ma_goesToTarget_91 : decode m_Ma_goesToTarget.2.1 91 = .ok (.iload_n 3, 1) := by decide +kernel
theorem d_Ma_goesToTarget_92 : decode m_Ma_goesToTarget.2.1 92 = .ok (.invokevirtual 157, 3) := by decide +kernel
theorem d_Ma_goesToTarget_95 : decode m_Ma_goesToTarget.2.1 95 = .ok (.ireturn, 1) := by decide +kernel
theorem d_Ma_holds_0 : decode m_Ma_holds.2.1 0 = .ok (.iload_n 1, 1) := by decide +kernel
theorem d_Ma_holds_1 : decode m_Ma_holds.2.1 1 = .ok (.tableswitch 90 0 4 #[35, 46, 57, 68, 79], 35) := by decide +kernel
theorem d_Ma_holds_36 : decode m_Ma_holds.2.1 36 = .ok (.iload_n 2, 1) := by decide +kernel
theorem d_Ma_holds_37 : decode m_Ma_holds.2.1 37 = .ok (.iload_n 3, 1) := by decide +kernel
theorem d_Ma_holds_38 : decode m_Ma_holds.2.1 38 = .ok (.if_icmp .ne 7, 3) := by decide +kernel
theorem d_Ma_holds_41 : decode m_Ma_holds.2.1 41 = .ok (.iconst 1, 1) := by decide +kernel
theorem d_Ma_holds_42 : decode m_Ma_holds.2.1 42 = .ok (.goto 4, 3) := by decide +kernel
theorem d_Ma_holds_45 : decode m_Ma_holds.2.1 45 = .ok (.iconst 0, 1) := by decide +kernel
theorem d_Ma_holds_46 : decode m_Ma_holds.2.1 46 = .ok (.ireturn, 1) := by decide +kernel
theorem d_Ma_holds_47 : decode m_Ma_holds.2.1 47 = .ok (.iload_n 2, 1) := by decide +kernel
theorem d_Ma_holds_48 : decode m_Ma_holds.2.1 48 = .ok (.iload_n 3, 1) := by decide +kernel
theorem d_Ma_holds_49 : decode m_Ma_holds.2.1 49 = .ok (.if_icmp .eq 7, 3) := by decide +kernel
theorem d_Ma_holds_52 : decode m_Ma_holds.2.1 52 = .ok (.iconst 1, 1) := by decide +kernel
theorem d_Ma_holds_53 : decode m_Ma_holds.2.1 53 = .ok (.goto 4, 3) := by decide +kernel
theorem d_Ma_holds_56 : decode m_Ma_holds.2.1 56 = .ok (.iconst 0, 1) := by decide +kernel
theorem d_Ma_holds_57 : decode m_Ma_holds.2.1 57 = .ok (.ireturn, 1) := by decide +kernel
theorem d_Ma_holds_58 : decode m_Ma_holds.2.1 58 = .ok (.iload_n 2, 1) := by decide +kernel
theorem d_Ma_holds_59 : decode m_Ma_holds.2.1 59 = .ok (.iload_n 3, 1) := by decide +kernel
theorem d_Ma_holds_60 : decode m_Ma_holds.2.1 60 = .ok (.if_icmp .ge 7, 3) := by decide +kernel
theorem d_Ma_holds_63 : decode m_Ma_holds.2.1 63 = .ok (.iconst 1, 1) := by decide +kernel
theorem d_Ma_holds_64 : decode m_Ma_holds.2.1 64 = .ok (.goto 4, 3) := by decide +kernel
theorem d_Ma_holds_67 : decode m_Ma_holds.2.1 67 = .ok (.iconst 0, 1) := by decide +kernel
theorem d_Ma_holds_68 : decode m_Ma_holds.2.1 68 = .ok (.ireturn, 1) := by decide +kernel
theorem d_Ma_holds_69 : decode m_Ma_holds.2.1 69 = .ok (.iload_n 2, 1) := by decide +kernel
theorem d_Ma_holds_70 : decode m_Ma_holds.2.1 70 = .ok (.iload_n 3, 1) := by decide +kernel
theorem d_Ma_holds_71 : decode m_Ma_holds.2.1 71 = .ok (.if_icmp .lt 7, 3) := by decide +kernel
theorem d_Ma_holds_74 : decode m_Ma_holds.2.1 74 = .ok (.iconst 1, 1) := by decide +kernel
theorem d_Ma_holds_75 : decode m_Ma_holds.2.1 75 = .ok (.goto 4, 3) := by decide +kernel
theorem d_Ma_holds_78 : decode m_Ma_holds.2.1 78 = .ok (.iconst 0, 1) := by decide +kernel
theorem d_Ma_holds_79 : decode m_Ma_holds.2.1 79 = .ok (.ireturn, 1) := by decide +kernel
theorem d_Ma_holds_80 : decode m_Ma_holds.2.1 80 = .ok (.iload_n 2, 1) := by decide +kernel
theorem d_Ma_holds_81 : decode m_Ma_holds.2.1 81 = .ok (.iload_n 3, 1) := by decide +kernel
theorem d_Ma_holds_82 : decode m_Ma_holds.2.1 82 = .ok (.if_icmp .le 7, 3) := by decide +kernel
theorem d_Ma_holds_85 : decode m_Ma_holds.2.1 85 = .ok (.iconst 1, 1) := by decide +kernel
theorem d_Ma_holds_86 : decode m_Ma_holds.2.1 86 = .ok (.goto 4, 3) := by decide +kernel
theorem d_Ma_holds_89 : decode m_Ma_holds.2.1 89 = .ok (.iconst 0, 1) := by decide +kernel
theorem d_Ma_holds_90 : decode m_Ma_holds.2.1 90 = .ok (.ireturn, 1) := by decide +kernel
theorem d_Ma_holds_91 : decode m_Ma_holds.2.1 91 = .ok (.iload_n 2, 1) := by decide +kernel
theorem d_Ma_holds_92 : decode m_Ma_holds.2.1 92 = .ok (.iload_n 3, 1) := by decide +kernel
theorem d_Ma_holds_93 : decode m_Ma_holds.2.1 93 = .ok (.if_icmp .gt 7, 3) := by decide +kernel
theorem d_Ma_holds_96 : decode m_Ma_holds.2.1 96 = .ok (.iconst 1, 1) := by decide +kernel
theorem d_Ma_holds_97 : decode m_Ma_holds.2.1 97 = .ok (.goto 4, 3) := by decide +kernel
theorem d_Ma_holds_100 : decode m_Ma_holds.2.1 100 = .ok (.iconst 0, 1) := by decide +kernel
theorem d_Ma_holds_101 : decode m_Ma_holds.2.1 101 = .ok (.ireturn, 1) := by decide +kernel
theorem d_Ma_doWithOperand_0 : decode m_Ma_doWithOperand.2.1 0 = .ok (.aload_n 2, 1) := by decide +kernel
theorem d_Ma_doWithOperand_1 : decode m_Ma_doWithOperand.2.1 1 = .ok (.aload_n 3, 1) := by decide +kernel
theorem d_Ma_doWithOperand_2 : decode m_Ma_doWithOperand.2.1 2 = .ok (.iload 4, 2) := by decide +kernel
theorem d_Ma_doWithOperand_4 : decode m_Ma_doWithOperand.2.1 4 = .ok (.invokevirtual 105, 3) := by decide +kernel
theorem d_Ma_doWithOperand_7 : decode m_Ma_doWithOperand.2.1 7 = .ok (.istore 5, 2) := by decide +kernel
theorem d_Ma_doWithOperand_9 : decode m_Ma_doWithOperand.2.1 9 = .ok (.aload_n 2, 1) := by decide +kernel
theorem d_Ma_doWithOperand_10 : decode m_Ma_doWithOperand.2.1 10 = .ok (.aload_n 3, 1) := by decide +kernel
theorem d_Ma_doWithOperand_11 : decode m_Ma_doWithOperand.2.1 11 = .ok (.iload 4, 2) := by decide +kernel
theorem d_Ma_doWithOperand_13 : decode m_Ma_doWithOperand.2.1 13 = .ok (.invokevirtual 86, 3) := by decide +kernel
theorem d_Ma_doWithOperand_16 : decode m_Ma_doWithOperand.2.1 16 = .ok (.lookupswitch 144 #[(16, 68), (18, 85), (21, 99), (25, 99), (54, 108), (58, 108), (132, 117)], 68) := by decide +kernel
theorem d_Ma_doWithOperand_84 : decode m_Ma_doWithOperand.2.1 84 = .ok (.aload_n 1, 1) := by decide +kernel
theorem d_Ma_doWithOperand_85 : decode m_Ma_doWithOperand.2.1 85 = .ok (.iconst 1, 1) := by decide +kernel
theorem d_Ma_doWithOperand_86 : decode m_Ma_doWithOperand.2.1 86 = .ok (.aload_n 2, 1) := by decide +kernel
theorem d_Ma_doWithOperand_87 : decode m_Ma_doWithOperand.2.1 87 = .ok (.aload_n 3, 1) := by decide +kernel
theorem d_Ma_doWithOperand_88 : decode m_Ma_doWithOperand.2.1 88 = .ok (.iload 4, 2) := by decide +kernel
theorem d_Ma_doWithOperand_90 : decode m_Ma_doWithOperand.2.1 90 = .ok (.iconst 1, 1) := by decide +kernel
theorem d_Ma_doWithOperand_91 : decode m_Ma_doWithOperand.2.1 91 = .ok (.iadd, 1) := by decide +kernel
theorem d_Ma_doWithOperand_92 : decode m_Ma_doWithOperand.2.1 92 = .ok (.invokevirtual 161, 3) := by decide +kernel
theorem d_Ma_doWithOperand_95 : decode m_Ma_doWithOperand.2.1 95 = .ok (.invokevirtual 153, 3) := by decide +kernel
theorem d_Ma_doWithOperand_98 : decode m_Ma_doWithOperand.2.1 98 = .ok (.goto 62, 3) := by decide +kernel
theorem d_Ma_doWithOperand_101 : decode m_Ma_doWithOperand.2.1 101 = .ok (.aload_n 1, 1) := by decide +kernel
theorem d_Ma_doWithOperand_102 : decode m_Ma_doWithOperand.2.1 102 = .ok (.iconst 1, 1) := by decide +kernel
theorem d_Ma_doWithOperand_103 : decode m_Ma_doWithOperand.2.1 103 = .ok (.aload_n 2, 1) := by decide +kernel
theorem d_Ma_doWithOperand_104 : decode m_Ma_doWithOperand.2.1 104 = .ok (.iload 5, 2) := by decide +kernel
theorem d_Ma_doWithOperand_106 : decode m_Ma_doWithOperand.2.1 106 = .ok (.invokevirtual 164, 3) := by decide +kernel
theorem d_Ma_doWithOperand_109 : decode m_Ma_doWithOperand.2.1 109 = .ok (.invokevirtual 153, 3) := by decide +kernel
theorem d_Ma_doWithOperand_112 : decode m_Ma_doWithOperand.2.1 112 = .ok (.goto 48, 3) := by decide +kernel
theorem d_Ma_doWithOperand_115 : decode m_Ma_doWithOperand.2.1 115 = .ok (.aload_n 1, 1) := by decide +kernel
theorem d_Ma_doWithOperand_116 : decode m_Ma_doWithOperand.2.1 116 = .ok (.iload 5, 2) := by decide +kernel
theorem d_Ma_doWithOperand_118 : decode m_Ma_doWithOperand.2.1 118 = .ok (.invokevirtual 167, 3) := by decide +kernel
theorem d_Ma_doWithOperand_121 : decode m_Ma_doWithOperand.2.1 121 = .ok (.goto 39, 3) := by decide +kernel
theorem d_Ma_doWithOperand_124 : decode m_Ma_doWithOperand.2.1 124 = .ok (.aload_n 1, 1) := by decide +kernel
theorem d_Ma_doWithOperand_125 : decode m_Ma_doWithOperand.2.1 125 = .ok (.iload 5, 2) := by decide +kernel
theorem d_Ma_doWithOperand_127 : decode m_Ma_doWithOperand.2.1 127 = .ok (.invokevirtual 170, 3) := by decide +kernel
theorem d_Ma_doWithOperand_130 : decode m_Ma_doWithOperand.2.1 130 = .ok (.goto 30, 3) := by decide +kernel
theorem d_Ma_doWithOperand_133 : decode m_Ma_doWithOperand.2.1 133 = .ok (.aload_n 1, 1) := by decide +kernel
theorem d_Ma_doWithOperand_134 : decode m_Ma_doWithOperand.2.1 134 = .ok (.iload 5, 2) := by decide +kernel
theorem d_Ma_doWithOperand_136 : decode m_Ma_doWithOperand.2.1 136 = .ok (.iconst 1, 1) := by decide +kernel
theorem d_Ma_doWithOperand_137 : decode m_Ma_doWithOperand.2.1 137 = .ok (.aload_n 1, 1) := by decide +kernel
theorem d_Ma_doWithOperand_138 : decode m_Ma_doWithOperand.2.1 138 = .ok (.getfield 173, 3) := by decide +kernel
theorem d_Ma_doWithOperand_141 : decode m_Ma_doWithOperand.2.1 141 = .ok (.iload 5, 2) := by decide +kernel
theorem d_Ma_doWithOperand_143 : decode m_Ma_doWithOperand.2.1 143 = .ok (.iaload, 1) := by decide +kernel
theorem d_Ma_doWithOperand_144 : decode m_Ma_doWithOperand.2.1 144 = .ok (.aload_n 2, 1) := by decide +kernel
theorem d_Ma_doWithOperand_145 : decode m_Ma_doWithOperand.2.1 145 = .ok (.aload_n 3, 1) := by decide +kernel
theorem d_Ma_doWithOperand_146 : decode m_Ma_doWithOperand.2.1 146 = .ok (.iload 4, 2) := by decide +kernel
theorem d_Ma_doWithOperand_148 : decode m_Ma_doWithOperand.2.1 148 = .ok (.iconst 2, 1) := by decide +kernel
theorem d_Ma_doWithOperand_149 : decode m_Ma_doWithOperand.2.1 149 = .ok (.iadd, 1) := by decide +kernel
theorem d_Ma_doWithOperand_150 : decode m_Ma_doWithOperand.2.1 150 = .ok (.invokevirtual 161, 3) := by decide +kernel
theorem d_Ma_doWithOperand_153 : decode m_Ma_doWithOperand.2.1 153 = .ok (.iadd, 1) := by decide +kernel
theorem d_Ma_doWithOperand_154 : decode m_Ma_doWithOperand.2.1 154 = .ok (.invokevirtual 67, 3) := by decide +kernel
theorem d_Ma_doWithOperand_157 : decode m_Ma_doWithOperand.2.1 157 = .ok (.goto 3, 3) := by decide +kernel
theorem d_Ma_doWithOperand_160 : decode m_Ma_doWithOperand.2.1 160 = .ok (.return_, 1) := by decide +kernel
theorem d_Ma_doAlone_0 : decode m_Ma_doAlone.2.1 0 = .ok (.iload_n 2, 1) := by decide +kernel
theorem d_Ma_doAlone_1 : decode m_Ma_doAlone.2.1 1 = .ok (.lookupswitch 195 #[(1, 83), (46, 160), (79, 187), (87, 92), (89, 100), (95, 107), (116, 114), (188, 127), (190, 143)], 83) := by decide +kernel
theorem d_Ma_doAlone_84 : decode m_Ma_doAlone.2.1 84 = .ok (.aload_n 1, 1) := by decide +kernel
theorem d_Ma_doAlone_85 : decode m_Ma_doAlone.2.1 85 = .ok (.iconst 3, 1) := by decide +kernel
theorem d_Ma_doAlone_86 : decode m_Ma_doAlone.2.1 86 = .ok (.iconst 0, 1) := by decide +kernel
theorem d_Ma_doAlone_87 : decode m_Ma_doAlone.2.1 87 = .ok (.invokevirtual 153, 3) := by decide +kernel
theorem d_Ma_doAlone_90 : decode m_Ma_doAlone.2.1 90 = .ok (.goto 128, 3) := by decide +kernel
theorem d_Ma_doAlone_93 : decode m_Ma_doAlone.2.1 93 = .ok (.aload_n 1, 1) := by decide +kernel
theorem d_Ma_doAlone_94 : decode m_Ma_doAlone.2.1 94 = .ok (.invokevirtual 139, 3) := by decide +kernel
theorem d_Ma_doAlone_97 : decode m_Ma_doAlone.2.1 97 = .ok (.pop, 1) := by decide +kernel
theorem d_Ma_doAlone_98 : decode m_Ma_doAlone.2.1 98 = .ok (.goto 120, 3) := by decide +kernel
theorem d_Ma_doAlone_101 : decode m_Ma_doAlone.2.1 101 = .ok (.aload_n 1, 1) := by decide +kernel
theorem d_Ma_doAlone_102 : decode m_Ma_doAlone.2.1 102 = .ok (.invokevirtual 176, 3) := by decide +kernel
theorem d_Ma_doAlone_105 : decode m_Ma_doAlone.2.1 105 = .ok (.goto 113, 3) := by decide +kernel
theorem d_Ma_doAlone_108 : decode m_Ma_doAlone.2.1 108 = .ok (.aload_n 1, 1) := by decide +kernel
theorem d_Ma_doAlone_109 : decode m_Ma_doAlone.2.1 109 = .ok (.invokevirtual 179, 3) := by decide +kernel
theorem d_Ma_doAlone_112 : decode m_Ma_doAlone.2.1 112 = .ok (.goto 106, 3) := by decide +kernel
theorem d_Ma_doAlone_115 : decode m_Ma_doAlone.2.1 115 = .ok (.aload_n 1, 1) := by decide +kernel
theorem d_Ma_doAlone_116 : decode m_Ma_doAlone.2.1 116 = .ok (.iconst 1, 1) := by decide +kernel
theorem d_Ma_doAlone_117 : decode m_Ma_doAlone.2.1 117 = .ok (.aload_n 1, 1) := by decide +kernel
theorem d_Ma_doAlone_118 : decode m_Ma_doAlone.2.1 118 = .ok (.invokevirtual 139, 3) := by decide +kernel
theorem d_Ma_doAlone_121 : decode m_Ma_doAlone.2.1 121 = .ok (.ineg, 1) := by decide +kernel
theorem d_Ma_doAlone_122 : decode m_Ma_doAlone.2.1 122 = .ok (.invokevirtual 153, 3) := by decide +kernel
theorem d_Ma_doAlone_125 : decode m_Ma_doAlone.2.1 125 = .ok (.goto 93, 3) := by decide +kernel
theorem d_Ma_doAlone_128 : decode m_Ma_doAlone.2.1 128 = .ok (.aload_n 1, 1) := by decide +kernel
theorem d_Ma_doAlone_129 : decode m_Ma_doAlone.2.1 129 = .ok (.iconst 2, 1) := by decide +kernel
theorem d_Ma_doAlone_130 : decode m_Ma_doAlone.2.1 130 = .ok (.aload_n 0, 1) := by decide +kernel
theorem d_Ma_doAlone_131 : decode m_Ma_doAlone.2.1 131 = .ok (.aload_n 1, 1) := by decide +kernel
theorem d_Ma_doAlone_132 : decode m_Ma_doAlone.2.1 132 = .ok (.invokevirtual 139, 3) := by decide +kernel
theorem d_Ma_doAlone_135 : decode m_Ma_doAlone.2.1 135 = .ok (.invokevirtual 71, 3) := by decide +kernel
theorem d_Ma_doAlone_138 : decode m_Ma_doAlone.2.1 138 = .ok (.invokevirtual 153, 3) := by decide +kernel
theorem d_Ma_doAlone_141 : decode m_Ma_doAlone.2.1 141 = .ok (.goto 77, 3) := by decide +kernel
theorem d_Ma_doAlone_144 : decode m_Ma_doAlone.2.1 144 = .ok (.aload_n 1, 1) := by decide +kernel
theorem d_Ma_doAlone_145 : decode m_Ma_doAlone.2.1 145 = .ok (.iconst 1, 1) := by decide +kernel
theorem d_Ma_doAlone_146 : decode m_Ma_doAlone.2.1 146 = .ok (.aload_n 0, 1) := by decide +kernel
theorem d_Ma_doAlone_147 : decode m_Ma_doAlone.2.1 147 = .ok (.getfield 28, 3) := by decide +kernel
theorem d_Ma_doAlone_150 : decode m_Ma_doAlone.2.1 150 = .ok (.aload_n 1, 1) := by decide +kernel
theorem d_Ma_doAlone_151 : decode m_Ma_doAlone.2.1 151 = .ok (.invokevirtual 139, 3) := by decide +kernel
theorem d_Ma_doAlone_154 : decode m_Ma_doAlone.2.1 154 = .ok (.iaload, 1) := by decide +kernel
theorem d_Ma_doAlone_155 : decode m_Ma_doAlone.2.1 155 = .ok (.invokevirtual 153, 3) := by decide +kernel
theorem d_Ma_doAlone_158 : decode m_Ma_doAlone.2.1 158 = .ok (.goto 60, 3) := by decide +kernel
theorem d_Ma_doAlone_161 : decode m_Ma_doAlone.2.1 161 = .ok (.aload_n 1, 1) := by decide +kernel
theorem d_Ma_doAlone_162 : decode m_Ma_doAlone.2.1 162 = .ok (.invokevirtual 139, 3) := by decide +kernel
theorem d_Ma_doAlone_165 : decode m_Ma_doAlone.2.1 165 = .ok (.istore_n 3, 1) := by decide +kernel
theorem d_Ma_doAlone_166 : decode m_Ma_doAlone.2.1 166 = .ok (.aload_n 1, 1) := by decide +kernel
theorem d_Ma_doAlone_167 : decode m_Ma_doAlone.2.1 167 = .ok (.iconst 1, 1) := by decide +kernel
theorem d_Ma_doAlone_168 : decode m_Ma_doAlone.2.1 168 = .ok (.aload_n 0, 1) := by decide +kernel
theorem d_Ma_doAlone_169 : decode m_Ma_doAlone.2.1 169 = .ok (.getfield 25, 3) := by decide +kernel
theorem d_Ma_doAlone_172 : decode m_Ma_doAlone.2.1 172 = .ok (.aload_n 1, 1) := by decide +kernel
theorem d_Ma_doAlone_173 : decode m_Ma_doAlone.2.1 173 = .ok (.invokevirtual 139, 3) := by decide +kernel
theorem d_Ma_doAlone_176 : decode m_Ma_doAlone.2.1 176 = .ok (.bipush 8, 2) := by decide +kernel
theorem d_Ma_doAlone_178 : decode m_Ma_doAlone.2.1 178 = .ok (.imul, 1) := by decide +kernel
theorem d_Ma_doAlone_179 : decode m_Ma_doAlone.2.1 179 = .ok (.iload_n 3, 1) := by decide +kernel
theorem d_Ma_doAlone_180 : decode m_Ma_doAlone.2.1 180 = .ok (.iadd, 1) := by decide +kernel
theorem d_Ma_doAlone_181 : decode m_Ma_doAlone.2.1 181 = .ok (.iaload, 1) := by decide +kernel
theorem d_Ma_doAlone_182 : decode m_Ma_doAlone.2.1 182 = .ok (.invokevirtual 153, 3) := by decide +kernel
theorem d_Ma_doAlone_185 : decode m_Ma_doAlone.2.1 185 = .ok (.goto 33, 3) := by decide +kernel
theorem d_Ma_doAlone_188 : decode m_Ma_doAlone.2.1 188 = .ok (.aload_n 0, 1) := by decide +kernel
theorem d_Ma_doAlone_189 : decode m_Ma_doAlone.2.1 189 = .ok (.aload_n 1, 1) := by decide +kernel
theorem d_Ma_doAlone_190 : decode m_Ma_doAlone.2.1 190 = .ok (.invokevirtual 182, 3) := by decide +kernel
theorem d_Ma_doAlone_193 : decode m_Ma_doAlone.2.1 193 = .ok (.goto 25, 3) := by decide +kernel
theorem d_Ma_doAlone_196 : decode m_Ma_doAlone.2.1 196 = .ok (.aload_n 1, 1) := by decide +kernel
theorem d_Ma_doAlone_197 : decode m_Ma_doAlone.2.1 197 = .ok (.invokevirtual 139, 3) := by decide +kernel
theorem d_Ma_doAlone_200 : decode m_Ma_doAlone.2.1 200 = .ok (.istore 4, 2) := by decide +kernel
theorem d_Ma_doAlone_202 : decode m_Ma_doAlone.2.1 202 = .ok (.aload_n 1, 1) := by decide +kernel
theorem d_Ma_doAlone_203 : decode m_Ma_doAlone.2.1 203 = .ok (.iconst 1, 1) := by decide +kernel
theorem d_Ma_doAlone_204 : decode m_Ma_doAlone.2.1 204 = .ok (.aload_n 0, 1) := by decide +kernel
theorem d_Ma_doAlone_205 : decode m_Ma_doAlone.2.1 205 = .ok (.iload_n 2, 1) := by decide +kernel
theorem d_Ma_doAlone_206 : decode m_Ma_doAlone.2.1 206 = .ok (.aload_n 1, 1) := by decide +kernel
theorem d_Ma_doAlone_207 : decode m_Ma_doAlone.2.1 207 = .ok (.invokevirtual 139, 3) := by decide +kernel
theorem d_Ma_doAlone_210 : decode m_Ma_doAlone.2.1 210 = .ok (.iload 4, 2) := by decide +kernel
theorem d_Ma_doAlone_212 : decode m_Ma_doAlone.2.1 212 = .ok (.invokevirtual 186, 3) := by decide +kernel
theorem d_Ma_doAlone_215 : decode m_Ma_doAlone.2.1 215 = .ok (.invokevirtual 153, 3) := by decide +kernel
theorem d_Ma_doAlone_218 : decode m_Ma_doAlone.2.1 218 = .ok (.return_, 1) := by decide +kernel
theorem d_Ma_storeElement_0 : decode m_Ma_storeElement.2.1 0 = .ok (.aload_n 1, 1) := by decide +kernel
theorem d_Ma_storeElement_1 : decode m_Ma_storeElement.2.1 1 = .ok (.invokevirtual 139, 3) := by decide +kernel
theorem d_Ma_storeElement_4 : decode m_Ma_storeElement.2.1 4 = .ok (.istore_n 2, 1) := by decide +kernel
theorem d_Ma_storeElement_5 : decode m_Ma_storeElement.2.1 5 = .ok (.aload_n 1, 1) := by decide +kernel
theorem d_Ma_storeElement_6 : decode m_Ma_storeElement.2.1 6 = .ok (.invokevirtual 139, 3) := by decide +kernel
theorem d_Ma_storeElement_9 : decode m_Ma_storeElement.2.1 9 = .ok (.istore_n 3, 1) := by decide +kernel
theorem d_Ma_storeElement_10 : decode m_Ma_storeElement.2.1 10 = .ok (.aload_n 0, 1) := by decide +kernel
theorem d_Ma_storeElement_11 : decode m_Ma_storeElement.2.1 11 = .ok (.getfield 25, 3) := by decide +kernel
theorem d_Ma_storeElement_14 : decode m_Ma_storeElement.2.1 14 = .ok (.aload_n 1, 1) := by decide +kernel
theorem d_Ma_storeElement_15 : decode m_Ma_storeElement.2.1 15 = .ok (.invokevirtual 139, 3) := by decide +kernel
theorem d_Ma_storeElement_18 : decode m_Ma_storeElement.2.1 18 = .ok (.bipush 8, 2) := by decide +kernel
theorem d_Ma_storeElement_20 : decode m_Ma_storeElement.2.1 20 = .ok (.imul, 1) := by decide +kernel
theorem d_Ma_storeElement_21 : decode m_Ma_storeElement.2.1 21 = .ok (.iload_n 3, 1) := by decide +kernel
theorem d_Ma_storeElement_22 : decode m_Ma_storeElement.2.1 22 = .ok (.iadd, 1) := by decide +kernel
theorem d_Ma_storeElement_23 : decode m_Ma_storeElement.2.1 23 = .ok (.iload_n 2, 1) := by decide +kernel
theorem d_Ma_storeElement_24 : decode m_Ma_storeElement.2.1 24 = .ok (.iastore, 1) := by decide +kernel
theorem d_Ma_storeElement_25 : decode m_Ma_storeElement.2.1 25 = .ok (.return_, 1) := by decide +kernel
theorem d_Ma_reckoned_0 : decode m_Ma_reckoned.2.1 0 = .ok (.iload_n 1, 1) := by decide +kernel
theorem d_Ma_reckoned_1 : decode m_Ma_reckoned.2.1 1 = .ok (.lookupswitch 47 #[(96, 35), (100, 39), (104, 43)], 35) := by decide +kernel
theorem d_Ma_reckoned_36 : decode m_Ma_reckoned.2.1 36 = .ok (.iload_n 2, 1) := by decide +kernel
theorem d_Ma_reckoned_37 : decode m_Ma_reckoned.2.1 37 = .ok (.iload_n 3, 1) := by decide +kernel
theorem d_Ma_reckoned_38 : decode m_Ma_reckoned.2.1 38 = .ok (.iadd, 1) := by decide +kernel
theorem d_Ma_reckoned_39 : decode m_Ma_reckoned.2.1 39 = .ok (.ireturn, 1) := by decide +kernel
theorem d_Ma_reckoned_40 : decode m_Ma_reckoned.2.1 40 = .ok (.iload_n 2, 1) := by decide +kernel
theorem d_Ma_reckoned_41 : decode m_Ma_reckoned.2.1 41 = .ok (.iload_n 3, 1) := by decide +kernel
theorem d_Ma_reckoned_42 : decode m_Ma_reckoned.2.1 42 = .ok (.isub, 1) := by decide +kernel
theorem d_Ma_reckoned_43 : decode m_Ma_reckoned.2.1 43 = .ok (.ireturn, 1) := by decide +kernel
theorem d_Ma_reckoned_44 : decode m_Ma_reckoned.2.1 44 = .ok (.iload_n 2, 1) := by decide +kernel
theorem d_Ma_reckoned_45 : decode m_Ma_reckoned.2.1 45 = .ok (.iload_n 3, 1) := by decide +kernel
theorem d_Ma_reckoned_46 : decode m_Ma_reckoned.2.1 46 = .ok (.imul, 1) := by decide +kernel
theorem d_Ma_reckoned_47 : decode m_Ma_reckoned.2.1 47 = .ok (.ireturn, 1) := by decide +kernel
theorem d_Ma_reckoned_48 : decode m_Ma_reckoned.2.1 48 = .ok (.iload_n 3, 1) := by decide +kernel
theorem d_Ma_reckoned_49 : decode m_Ma_reckoned.2.1 49 = .ok (.ifCond .ne 7, 3) := by decide +kernel
theorem d_Ma_reckoned_52 : decode m_Ma_reckoned.2.1 52 = .ok (.iconst 0, 1) := by decide +kernel
theorem d_Ma_reckoned_53 : decode m_Ma_reckoned.2.1 53 = .ok (.goto 6, 3) := by decide +kernel
theorem d_Ma_reckoned_56 : decode m_Ma_reckoned.2.1 56 = .ok (.iload_n 2, 1) := by decide +kernel
theorem d_Ma_reckoned_57 : decode m_Ma_reckoned.2.1 57 = .ok (.iload_n 3, 1) := by decide +kernel
theorem d_Ma_reckoned_58 : decode m_Ma_reckoned.2.1 58 = .ok (.idiv, 1) := by decide +kernel
theorem d_Ma_reckoned_59 : decode m_Ma_reckoned.2.1 59 = .ok (.ireturn, 1) := by decide +kernel
theorem d_Pr_takeFile_0 : decode m_Pr_takeFile.2.1 0 = .ok (.aload_n 1, 1) := by decide +kernel
theorem d_Pr_takeFile_1 : decode m_Pr_takeFile.2.1 1 = .ok (.iconst 0, 1) := by decide +kernel
theorem d_Pr_takeFile_2 : decode m_Pr_takeFile.2.1 2 = .ok (.aload_n 0, 1) := by decide +kernel
theorem d_Pr_takeFile_3 : decode m_Pr_takeFile.2.1 3 = .ok (.getfield 9, 3) := by decide +kernel
theorem d_Pr_takeFile_6 : decode m_Pr_takeFile.2.1 6 = .ok (.iconst 0, 1) := by decide +kernel
theorem d_Pr_takeFile_7 : decode m_Pr_takeFile.2.1 7 = .ok (.iload_n 2, 1) := by decide +kernel
theorem d_Pr_takeFile_8 : decode m_Pr_takeFile.2.1 8 = .ok (.invokestatic 22, 3) := by decide +kernel
theorem d_Pr_takeFile_11 : decode m_Pr_takeFile.2.1 11 = .ok (.aload_n 0, 1) := by decide +kernel
theorem d_Pr_takeFile_12 : decode m_Pr_takeFile.2.1 12 = .ok (.iload_n 2, 1) := by decide +kernel
theorem d_Pr_takeFile_13 : decode m_Pr_takeFile.2.1 13 = .ok (.putfield 28, 3) := by decide +kernel
theorem d_Pr_takeFile_16 : decode m_Pr_takeFile.2.1 16 = .ok (.return_, 1) := by decide +kernel
theorem d_Pr_constant_0 : decode m_Pr_constant.2.1 0 = .ok (.aload_n 0, 1) := by decide +kernel
theorem d_Pr_constant_1 : decode m_Pr_constant.2.1 1 = .ok (.getfield 32, 3) := by decide +kernel
theorem d_Pr_constant_4 : decode m_Pr_constant.2.1 4 = .ok (.iconst 4, 1) := by decide +kernel
theorem d_Pr_constant_5 : decode m_Pr_constant.2.1 5 = .ok (.iload_n 1, 1) := by decide +kernel
theorem d_Pr_constant_6 : decode m_Pr_constant.2.1 6 = .ok (.imul, 1) := by decide +kernel
theorem d_Pr_constant_7 : decode m_Pr_constant.2.1 7 = .ok (.iadd, 1) := by decide +kernel
theorem d_Pr_constant_8 : decode m_Pr_constant.2.1 8 = .ok (.istore_n 2, 1) := by decide +kernel
theorem d_Pr_constant_9 : decode m_Pr_constant.2.1 9 = .ok (.aload_n 0, 1) := by decide +kernel
theorem d_Pr_constant_10 : decode m_Pr_constant.2.1 10 = .ok (.getfield 9, 3) := by decide +kernel
theorem d_Pr_constant_13 : decode m_Pr_constant.2.1 13 = .ok (.iload_n 2, 1) := by decide +kernel
theorem d_Pr_constant_14 : decode m_Pr_constant.2.1 14 = .ok (.iaload, 1) := by decide +kernel
theorem d_Pr_constant_15 : decode m_Pr_constant.2.1 15 = .ok (.bipush 24, 2) := by decide +kernel
theorem d_Pr_constant_17 : decode m_Pr_constant.2.1 17 = .ok (.ishl, 1) := by decide +kernel
theorem d_Pr_constant_18 : decode m_Pr_constant.2.1 18 = .ok (.aload_n 0, 1) := by decide +kernel
theorem d_Pr_constant_19 : decode m_Pr_constant.2.1 19 = .ok (.getfield 9, 3) := by decide +kernel
theorem d_Pr_constant_22 : decode m_Pr_constant.2.1 22 = .ok (.iload_n 2, 1) := by decide +kernel
theorem d_Pr_constant_23 : decode m_Pr_constant.2.1 23 = .ok (.iconst 1, 1) := by decide +kernel
theorem d_Pr_constant_24 : decode m_Pr_constant.2.1 24 = .ok (.iadd, 1) := by decide +kernel
theorem d_Pr_constant_25 : decode m_Pr_constant.2.1 25 = .ok (.iaload, 1) := by decide +kernel
theorem d_Pr_constant_26 : decode m_Pr_constant.2.1 26 = .ok (.bipush 16, 2) := by decide +kernel
theorem d_Pr_constant_28 : decode m_Pr_constant.2.1 28 = .ok (.ishl, 1) := by decide +kernel
theorem d_Pr_constant_29 : decode m_Pr_constant.2.1 29 = .ok (.ior, 1) := by decide +kernel
theorem d_Pr_constant_30 : decode m_Pr_constant.2.1 30 = .ok (.aload_n 0, 1) := by decide +kernel
theorem d_Pr_constant_31 : decode m_Pr_constant.2.1 31 = .ok (.getfield 9, 3) := by decide +kernel
theorem d_Pr_constant_34 : decode m_Pr_constant.2.1 34 = .ok (.iload_n 2, 1) := by decide +kernel
theorem d_Pr_constant_35 : decode m_Pr_constant.2.1 35 = .ok (.iconst 2, 1) := by decide +kernel
theorem d_Pr_constant_36 : decode m_Pr_constant.2.1 36 = .ok (.iadd, 1) := by decide +kernel
theorem d_Pr_constant_37 : decode m_Pr_constant.2.1 37 = .ok (.iaload, 1) := by decide +kernel
theorem d_Pr_constant_38 : decode m_Pr_constant.2.1 38 = .ok (.bipush 8, 2) := by decide +kernel
theorem d_Pr_constant_40 : decode m_Pr_constant.2.1 40 = .ok (.ishl, 1) := by decide +kernel
theorem d_Pr_constant_41 : decode m_Pr_constant.2.1 41 = .ok (.ior, 1) := by decide +kernel
theorem d_Pr_constant_42 : decode m_Pr_constant.2.1 42 = .ok (.aload_n 0, 1) := by decide +kernel
theorem d_Pr_constant_43 : decode m_Pr_constant.2.1 43 = .ok (.getfield 9, 3) := by decide +kernel
theorem d_Pr_constant_46 : decode m_Pr_constant.2.1 46 = .ok (.iload_n 2, 1) := by decide +kernel
theorem d_Pr_constant_47 : decode m_Pr_constant.2.1 47 = .ok (.iconst 3, 1) := by decide +kernel
theorem d_Pr_constant_48 : decode m_Pr_constant.2.1 48 = .ok (.iadd, 1) := by decide +kernel
theorem d_Pr_constant_49 : decode m_Pr_constant.2.1 49 = .ok (.iaload, 1) := by decide +kernel
theorem d_Pr_constant_50 : decode m_Pr_constant.2.1 50 = .ok (.ior, 1) := by decide +kernel
theorem d_Pr_constant_51 : decode m_Pr_constant.2.1 51 = .ok (.ireturn, 1) := by decide +kernel
theorem d_Pr_parameterType_0 : decode m_Pr_parameterType.2.1 0 = .ok (.aload_n 0, 1) := by decide +kernel
theorem d_Pr_parameterType_1 : decode m_Pr_parameterType.2.1 1 = .ok (.getfield 9, 3) := by decide +kernel
theorem d_Pr_parameterType_4 : decode m_Pr_parameterType.2.1 4 = .ok (.aload_n 1, 1) := by decide +kernel
theorem d_Pr_parameterType_5 : decode m_Pr_parameterType.2.1 5 = .ok (.getfield 35, 3) := by decide +kernel
theorem d_Pr_parameterType_8 : decode m_Pr_parameterType.2.1 8 = .ok (.iload_n 2, 1) := by decide +kernel
theorem d_Pr_parameterType_9 : decode m_Pr_parameterType.2.1 9 = .ok (.iadd, 1) := by decide +kernel
theorem d_Pr_parameterType_10 : decode m_Pr_parameterType.2.1 10 = .ok (.iaload, 1) := by decide +kernel
theorem d_Pr_parameterType_11 : decode m_Pr_parameterType.2.1 11 = .ok (.ireturn, 1) := by decide +kernel
theorem d_Pr_code_0 : decode m_Pr_code.2.1 0 = .ok (.aload_n 0, 1) := by decide +kernel
theorem d_Pr_code_1 : decode m_Pr_code.2.1 1 = .ok (.getfield 9, 3) := by decide +kernel
theorem d_Pr_code_4 : decode m_Pr_code.2.1 4 = .ok (.aload_n 1, 1) := by decide +kernel
theorem d_Pr_code_5 : decode m_Pr_code.2.1 5 = .ok (.getfield 38, 3) := by decide +kernel
theorem d_Pr_code_8 : decode m_Pr_code.2.1 8 = .ok (.iload_n 2, 1) := by decide +kernel
theorem d_Pr_code_9 : decode m_Pr_code.2.1 9 = .ok (.iadd, 1) := by decide +kernel
theorem d_Pr_code_10 : decode m_Pr_code.2.1 10 = .ok (.iaload, 1) := by decide +kernel
theorem d_Pr_code_11 : decode m_Pr_code.2.1 11 = .ok (.ireturn, 1) := by decide +kernel
theorem d_Pr_operand_0 : decode m_Pr_operand.2.1 0 = .ok (.aload_n 0, 1) := by decide +kernel
theorem d_Pr_operand_1 : decode m_Pr_operand.2.1 1 = .ok (.getfield 9, 3) := by decide +kernel
theorem d_Pr_operand_4 : decode m_Pr_operand.2.1 4 = .ok (.aload_n 1, 1) := by decide +kernel
theorem d_Pr_operand_5 : decode m_Pr_operand.2.1 5 = .ok (.getfield 38, 3) := by decide +kernel
theorem d_Pr_operand_8 : decode m_Pr_operand.2.1 8 = .ok (.iload_n 2, 1) := by decide +kernel
theorem d_Pr_operand_9 : decode m_Pr_operand.2.1 9 = .ok (.iadd, 1) := by decide +kernel
theorem d_Pr_operand_10 : decode m_Pr_operand.2.1 10 = .ok (.iconst 1, 1) := by decide +kernel
theorem d_Pr_operand_11 : decode m_Pr_operand.2.1 11 = .ok (.iadd, 1) := by decide +kernel
theorem d_Pr_operand_12 : decode m_Pr_operand.2.1 12 = .ok (.iaload, 1) := by decide +kernel
theorem d_Pr_operand_13 : decode m_Pr_operand.2.1 13 = .ok (.ireturn, 1) := by decide +kernel
theorem d_Pr_signedByte_0 : decode m_Pr_signedByte.2.1 0 = .ok (.aload_n 0, 1) := by decide +kernel
theorem d_Pr_signedByte_1 : decode m_Pr_signedByte.2.1 1 = .ok (.aload_n 1, 1) := by decide +kernel
theorem d_Pr_signedByte_2 : decode m_Pr_signedByte.2.1 2 = .ok (.iload_n 2, 1) := by decide +kernel
theorem d_Pr_signedByte_3 : decode m_Pr_signedByte.2.1 3 = .ok (.invokevirtual 41, 3) := by decide +kernel
theorem d_Pr_signedByte_6 : decode m_Pr_signedByte.2.1 6 = .ok (.istore_n 3, 1) := by decide +kernel
theorem d_Pr_signedByte_7 : decode m_Pr_signedByte.2.1 7 = .ok (.iload_n 3, 1) := by decide +kernel
theorem d_Pr_signedByte_8 : decode m_Pr_signedByte.2.1 8 = .ok (.sipush 128, 3) := by decide +kernel
theorem d_Pr_signedByte_11 : decode m_Pr_signedByte.2.1 11 = .ok (.if_icmp .lt 11, 3) := by decide +kernel
theorem d_Pr_signedByte_14 : decode m_Pr_signedByte.2.1 14 = .ok (.iload_n 3, 1) := by decide +kernel
theorem d_Pr_signedByte_15 : decode m_Pr_signedByte.2.1 15 = .ok (.sipush 256, 3) := by decide +kernel
theorem d_Pr_signedByte_18 : decode m_Pr_signedByte.2.1 18 = .ok (.isub, 1) := by decide +kernel
theorem d_Pr_signedByte_19 : decode m_Pr_signedByte.2.1 19 = .ok (.goto 4, 3) := by decide +kernel
theorem d_Pr_signedByte_22 : decode m_Pr_signedByte.2.1 22 = .ok (.iload_n 3, 1) := by decide +kernel
theorem d_Pr_signedByte_23 : decode m_Pr_signedByte.2.1 23 = .ok (.ireturn, 1) := by decide +kernel
theorem d_Pr_target_0 : decode m_Pr_target.2.1 0 = .ok (.aload_n 0, 1) := by decide +kernel
theorem d_Pr_target_1 : decode m_Pr_target.2.1 1 = .ok (.aload_n 1, 1) := by decide +kernel
theorem d_Pr_target_2 : decode m_Pr_target.2.1 2 = .ok (.iload_n 2, 1) := by decide +kernel
theorem d_Pr_target_3 : decode m_Pr_target.2.1 3 = .ok (.iconst 1, 1) := by decide +kernel
theorem d_Pr_target_4 : decode m_Pr_target.2.1 4 = .ok (.iadd, 1) := by decide +kernel
theorem d_Pr_target_5 : decode m_Pr_target.2.1 5 = .ok (.invokevirtual 41, 3) := by decide +kernel
theorem d_Pr_target_8 : decode m_Pr_target.2.1 8 = .ok (.sipush 256, 3) := by decide +kernel
theorem d_Pr_target_11 : decode m_Pr_target.2.1 11 = .ok (.imul, 1) := by decide +kernel
theorem d_Pr_target_12 : decode m_Pr_target.2.1 12 = .ok (.aload_n 0, 1) := by decide +kernel
theorem d_Pr_target_13 : decode m_Pr_target.2.1 13 = .ok (.aload_n 1, 1) := by decide +kernel
theorem d_Pr_target_14 : decode m_Pr_target.2.1 14 = .ok (.iload_n 2, 1) := by decide +kernel
theorem d_Pr_target_15 : decode m_Pr_target.2.1 15 = .ok (.iconst 2, 1) := by decide +kernel
theorem d_Pr_target_16 : decode m_Pr_target.2.1 16 = .ok (.iadd, 1) := by decide +kernel
theorem d_Pr_target_17 : decode m_Pr_target.2.1 17 = .ok (.invokevirtual 41, 3) := by decide +kernel
theorem d_Pr_target_20 : decode m_Pr_target.2.1 20 = .ok (.iadd, 1) := by decide +kernel
theorem d_Pr_target_21 : decode m_Pr_target.2.1 21 = .ok (.istore_n 3, 1) := by decide +kernel
theorem d_Pr_target_22 : decode m_Pr_target.2.1 22 = .ok (.iload_n 2, 1) := by decide +kernel
theorem d_Pr_target_23 : decode m_Pr_target.2.1 23 = .ok (.iload_n 3, 1) := by decide +kernel
theorem d_Pr_target_24 : decode m_Pr_target.2.1 24 = .ok (.ldc 45, 2) := by decide +kernel
theorem d_Pr_target_26 : decode m_Pr_target.2.1 26 = .ok (.if_icmp .lt 10, 3) := by decide +kernel
theorem d_Pr_target_29 : decode m_Pr_target.2.1 29 = .ok (.iload_n 3, 1) := by decide +kernel
theorem d_Pr_target_30 : decode m_Pr_target.2.1 30 = .ok (.ldc 46, 2) := by decide +kernel
theorem d_Pr_target_32 : decode m_Pr_target.2.1 32 = .ok (.isub, 1) := by decide +kernel
theorem d_Pr_target_33 : decode m_Pr_target.2.1 33 = .ok (.goto 4, 3) := by decide +kernel
theorem d_Pr_target_36 : decode m_Pr_target.2.1 36 = .ok (.iload_n 3, 1) := by decide +kernel
theorem d_Pr_target_37 : decode m_Pr_target.2.1 37 = .ok (.iadd, 1) := by decide +kernel
theorem d_Pr_target_38 : decode m_Pr_target.2.1 38 = .ok (.ireturn, 1) := by decide +kernel
theorem d_Pr_called_0 : decode m_Pr_called.2.1 0 = .ok (.aload_n 0, 1) := by decide +kernel
theorem d_Pr_called_1 : decode m_Pr_called.2.1 1 = .ok (.getfield 17, 3) := by decide +kernel
theorem d_Pr_called_4 : decode m_Pr_called.2.1 4 = .ok (.aload_n 0, 1) := by decide +kernel
theorem d_Pr_called_5 : decode m_Pr_called.2.1 5 = .ok (.getfield 9, 3) := by decide +kernel
theorem d_Pr_called_8 : decode m_Pr_called.2.1 8 = .ok (.aload_n 1, 1) := by decide +kernel
theorem d_Pr_called_9 : decode m_Pr_called.2.1 9 = .ok (.getfield 38, 3) := by decide +kernel
theorem d_Pr_called_12 : decode m_Pr_called.2.1 12 = .ok (.iload_n 2, 1) := by decide +kernel
theorem d_Pr_called_13 : decode m_Pr_called.2.1 13 = .ok (.iadd, 1) := by decide +kernel
theorem d_Pr_called_14 : decode m_Pr_called.2.1 14 = .ok (.iconst 1, 1) := by decide +kernel
theorem d_Pr_called_15 : decode m_Pr_called.2.1 15 = .ok (.iadd, 1) := by decide +kernel
theorem d_Pr_called_16 : decode m_Pr_called.2.1 16 = .ok (.iaload, 1) := by decide +kernel
theorem d_Pr_called_17 : decode m_Pr_called.2.1 17 = .ok (.aaload, 1) := by decide +kernel
theorem d_Pr_called_18 : decode m_Pr_called.2.1 18 = .ok (.areturn, 1) := by decide +kernel
theorem d_Pr_frameOffset_0 : decode m_Pr_frameOffset.2.1 0 = .ok (.aload_n 0, 1) := by decide +kernel
theorem d_Pr_frameOffset_1 : decode m_Pr_frameOffset.2.1 1 = .ok (.getfield 9, 3) := by decide +kernel
theorem d_Pr_frameOffset_4 : decode m_Pr_frameOffset.2.1 4 = .ok (.aload_n 1, 1) := by decide +kernel
theorem d_Pr_frameOffset_5 : decode m_Pr_frameOffset.2.1 5 = .ok (.getfield 47, 3) := by decide +kernel
theorem d_Pr_frameOffset_8 : decode m_Pr_frameOffset.2.1 8 = .ok (.iload_n 2, 1) := by decide +kernel
theorem d_Pr_frameOffset_9 : decode m_Pr_frameOffset.2.1 9 = .ok (.iaload, 1) := by decide +kernel
theorem d_Pr_frameOffset_10 : decode m_Pr_frameOffset.2.1 10 = .ok (.iaload, 1) := by decide +kernel
theorem d_Pr_frameOffset_11 : decode m_Pr_frameOffset.2.1 11 = .ok (.ireturn, 1) := by decide +kernel
theorem d_Pr_framePlace_0 : decode m_Pr_framePlace.2.1 0 = .ok (.aload_n 0, 1) := by decide +kernel
theorem d_Pr_framePlace_1 : decode m_Pr_framePlace.2.1 1 = .ok (.getfield 9, 3) := by decide +kernel
theorem d_Pr_framePlace_4 : decode m_Pr_framePlace.2.1 4 = .ok (.aload_n 1, 1) := by decide +kernel
theorem d_Pr_framePlace_5 : decode m_Pr_framePlace.2.1 5 = .ok (.getfield 47, 3) := by decide +kernel
theorem d_Pr_framePlace_8 : decode m_Pr_framePlace.2.1 8 = .ok (.iload_n 2, 1) := by decide +kernel
theorem d_Pr_framePlace_9 : decode m_Pr_framePlace.2.1 9 = .ok (.iaload, 1) := by decide +kernel
theorem d_Pr_framePlace_10 : decode m_Pr_framePlace.2.1 10 = .ok (.iconst 1, 1) := by decide +kernel
theorem d_Pr_framePlace_11 : decode m_Pr_framePlace.2.1 11 = .ok (.iadd, 1) := by decide +kernel
theorem d_Pr_framePlace_12 : decode m_Pr_framePlace.2.1 12 = .ok (.iload_n 3, 1) := by decide +kernel
theorem d_Pr_framePlace_13 : decode m_Pr_framePlace.2.1 13 = .ok (.iadd, 1) := by decide +kernel
theorem d_Pr_framePlace_14 : decode m_Pr_framePlace.2.1 14 = .ok (.iaload, 1) := by decide +kernel
theorem d_Pr_framePlace_15 : decode m_Pr_framePlace.2.1 15 = .ok (.ireturn, 1) := by decide +kernel
theorem d_Pr_frameHeight_0 : decode m_Pr_frameHeight.2.1 0 = .ok (.aload_n 0, 1) := by decide +kernel
theorem d_Pr_frameHeight_1 : decode m_Pr_frameHeight.2.1 1 = .ok (.getfield 9, 3) := by decide +kernel
theorem d_Pr_frameHeight_4 : decode m_Pr_frameHeight.2.1 4 = .ok (.aload_n 1, 1) := by decide +kernel
theorem d_Pr_frameHeight_5 : decode m_Pr_frameHeight.2.1 5 = .ok (.getfield 47, 3) := by decide +kernel
theorem d_Pr_frameHeight_8 : decode m_Pr_frameHeight.2.1 8 = .ok (.iload_n 2, 1) := by decide +kernel
theorem d_Pr_frameHeight_9 : decode m_Pr_frameHeight.2.1 9 = .ok (.iaload, 1) := by decide +kernel
theorem d_Pr_frameHeight_10 : decode m_Pr_frameHeight.2.1 10 = .ok (.iconst 1, 1) := by decide +kernel
theorem d_Pr_frameHeight_11 : decode m_Pr_frameHeight.2.1 11 = .ok (.iadd, 1) := by decide +kernel
theorem d_Pr_frameHeight_12 : decode m_Pr_frameHeight.2.1 12 = .ok (.aload_n 1, 1) := by decide +kernel
theorem d_Pr_frameHeight_13 : decode m_Pr_frameHeight.2.1 13 = .ok (.getfield 50, 3) := by decide +kernel
theorem d_Pr_frameHeight_16 : decode m_Pr_frameHeight.2.1 16 = .ok (.iadd, 1) := by decide +kernel
theorem d_Pr_frameHeight_17 : decode m_Pr_frameHeight.2.1 17 = .ok (.iaload, 1) := by decide +kernel
theorem d_Pr_frameHeight_18 : decode m_Pr_frameHeight.2.1 18 = .ok (.ireturn, 1) := by decide +kernel
theorem d_Pr_frameValue_0 : decode m_Pr_frameValue.2.1 0 = .ok (.aload_n 0, 1) := by decide +kernel
theorem d_Pr_frameValue_1 : decode m_Pr_frameValue.2.1 1 = .ok (.getfield 9, 3) := by decide +kernel
theorem d_Pr_frameValue_4 : decode m_Pr_frameValue.2.1 4 = .ok (.aload_n 1, 1) := by decide +kernel
theorem d_Pr_frameValue_5 : decode m_Pr_frameValue.2.1 5 = .ok (.getfield 47, 3) := by decide +kernel
theorem d_Pr_frameValue_8 : decode m_Pr_frameValue.2.1 8 = .ok (.iload_n 2, 1) := by decide +kernel
theorem d_Pr_frameValue_9 : decode m_Pr_frameValue.2.1 9 = .ok (.iaload, 1) := by decide +kernel
theorem d_Pr_frameValue_10 : decode m_Pr_frameValue.2.1 10 = .ok (.iconst 2, 1) := by decide +kernel
theorem d_Pr_frameValue_11 : decode m_Pr_frameValue.2.1 11 = .ok (.iadd, 1) := by decide +kernel
theorem d_Pr_frameValue_12 : decode m_Pr_frameValue.2.1 12 = .ok (.aload_n 1, 1) := by decide +kernel
theorem d_Pr_frameValue_13 : decode m_Pr_frameValue.2.1 13 = .ok (.getfield 50, 3) := by decide +kernel
theorem d_Pr_frameValue_16 : decode m_Pr_frameValue.2.1 16 = .ok (.iadd, 1) := by decide +kernel
theorem d_Pr_frameValue_17 : decode m_Pr_frameValue.2.1 17 = .ok (.iload_n 3, 1) := by decide +kernel
theorem d_Pr_frameValue_18 : decode m_Pr_frameValue.2.1 18 = .ok (.iadd, 1) := by decide +kernel
theorem d_Pr_frameValue_19 : decode m_Pr_frameValue.2.1 19 = .ok (.iaload, 1) := by decide +kernel
theorem d_Pr_frameValue_20 : decode m_Pr_frameValue.2.1 20 = .ok (.ireturn, 1) := by decide +kernel
theorem d_Pr_frameAt_0 : decode m_Pr_frameAt.2.1 0 = .ok (.iconst 0, 1) := by decide +kernel
theorem d_Pr_frameAt_1 : decode m_Pr_frameAt.2.1 1 = .ok (.istore_n 3, 1) := by decide +kernel
theorem d_Pr_frameAt_2 : decode m_Pr_frameAt.2.1 2 = .ok (.iload_n 3, 1) := by decide +kernel
theorem d_Pr_frameAt_3 : decode m_Pr_frameAt.2.1 3 = .ok (.aload_n 1, 1) := by decide +kernel
end
section
theorem d_Pr_frameAt_4 : decode m_Pr_frameAt.2.1 4 = .ok (.getfield 53, 3) := by decide +kernel
theorem d_Pr_frameAt_7 : decode m_Pr_frameAt.2.1 7 = .ok (.if_icmp .ge 21, 3) := by decide +kernel
theorem d_Pr_frameAt_10 : decode m_Pr_frameAt.2.1 10 = .ok (.aload_n 0, 1) := by decide +kernel
theorem d_Pr_frameAt_11 : decode m_Pr_frameAt.2.1 11 = .ok (.aload_n 1, 1) := by decide +kernel
theorem d_Pr_frameAt_12 : decode m_Pr_frameAt.2.1 12 = .ok (.iload_n 3, 1) := by decide +kernel
theorem d_Pr_frameAt_13 : decode m_Pr_frameAt.2.1 13 = .ok (.invokevirtual 56, 3) := by decide +kernel
theorem d_Pr_frameAt_16 : decode m_Pr_frameAt.2.1 16 = .ok (.iload_n 2, 1) := by decide +kernel
theorem d_Pr_frameAt_17 : decode m_Pr_frameAt.2.1 17 = .ok (.if_icmp .ne 5, 3) := by decide +kernel
theorem d_Pr_frameAt_20 : decode m_Pr_frameAt.2.1 20 = .ok (.iload_n 3, 1) := by decide +kernel
theorem d_Pr_frameAt_21 : decode m_Pr_frameAt.2.1 21 = .ok (.ireturn, 1) := by decide +kernel
theorem d_Pr_frameAt_22 : decode m_Pr_frameAt.2.1 22 = .ok (.iinc 3 1, 3) := by decide +kernel
theorem d_Pr_frameAt_25 : decode m_Pr_frameAt.2.1 25 = .ok (.goto (-23), 3) := by decide +kernel
theorem d_Pr_frameAt_28 : decode m_Pr_frameAt.2.1 28 = .ok (.iconst (-1), 1) := by decide +kernel
theorem d_Pr_frameAt_29 : decode m_Pr_frameAt.2.1 29 = .ok (.ireturn, 1) := by decide +kernel
theorem d_Pr_takenCount_0 : decode m_Pr_takenCount.2.1 0 = .ok (.aload_n 0, 1) := by decide +kernel
theorem d_Pr_takenCount_1 : decode m_Pr_takenCount.2.1 1 = .ok (.aload_n 1, 1) := by decide +kernel
theorem d_Pr_takenCount_2 : decode m_Pr_takenCount.2.1 2 = .ok (.iload_n 2, 1) := by decide +kernel
theorem d_Pr_takenCount_3 : decode m_Pr_takenCount.2.1 3 = .ok (.invokevirtual 41, 3) := by decide +kernel
theorem d_Pr_takenCount_6 : decode m_Pr_takenCount.2.1 6 = .ok (.istore_n 3, 1) := by decide +kernel
theorem d_Pr_takenCount_7 : decode m_Pr_takenCount.2.1 7 = .ok (.iload_n 3, 1) := by decide +kernel
theorem d_Pr_takenCount_8 : decode m_Pr_takenCount.2.1 8 = .ok (.sipush 184, 3) := by decide +kernel
theorem d_Pr_takenCount_11 : decode m_Pr_takenCount.2.1 11 = .ok (.if_icmp .ne 15, 3) := by decide +kernel
theorem d_Pr_takenCount_14 : decode m_Pr_takenCount.2.1 14 = .ok (.aload_n 0, 1) := by decide +kernel
theorem d_Pr_takenCount_15 : decode m_Pr_takenCount.2.1 15 = .ok (.aload_n 1, 1) := by decide +kernel
theorem d_Pr_takenCount_16 : decode m_Pr_takenCount.2.1 16 = .ok (.iload_n 2, 1) := by decide +kernel
theorem d_Pr_takenCount_17 : decode m_Pr_takenCount.2.1 17 = .ok (.invokevirtual 61, 3) := by decide +kernel
theorem d_Pr_takenCount_20 : decode m_Pr_takenCount.2.1 20 = .ok (.getfield 65, 3) := by decide +kernel
theorem d_Pr_takenCount_23 : decode m_Pr_takenCount.2.1 23 = .ok (.goto 7, 3) := by decide +kernel
theorem d_Pr_takenCount_26 : decode m_Pr_takenCount.2.1 26 = .ok (.iload_n 3, 1) := by decide +kernel
theorem d_Pr_takenCount_27 : decode m_Pr_takenCount.2.1 27 = .ok (.invokestatic 68, 3) := by decide +kernel
theorem d_Pr_takenCount_30 : decode m_Pr_takenCount.2.1 30 = .ok (.ireturn, 1) := by decide +kernel
theorem d_Pr_takenType_0 : decode m_Pr_takenType.2.1 0 = .ok (.aload_n 0, 1) := by decide +kernel
theorem d_Pr_takenType_1 : decode m_Pr_takenType.2.1 1 = .ok (.aload_n 1, 1) := by decide +kernel
theorem d_Pr_takenType_2 : decode m_Pr_takenType.2.1 2 = .ok (.iload_n 2, 1) := by decide +kernel
theorem d_Pr_takenType_3 : decode m_Pr_takenType.2.1 3 = .ok (.invokevirtual 41, 3) := by decide +kernel
theorem d_Pr_takenType_6 : decode m_Pr_takenType.2.1 6 = .ok (.istore 4, 2) := by decide +kernel
theorem d_Pr_takenType_8 : decode m_Pr_takenType.2.1 8 = .ok (.iload 4, 2) := by decide +kernel
theorem d_Pr_takenType_10 : decode m_Pr_takenType.2.1 10 = .ok (.sipush 184, 3) := by decide +kernel
theorem d_Pr_takenType_13 : decode m_Pr_takenType.2.1 13 = .ok (.if_icmp .ne 17, 3) := by decide +kernel
theorem d_Pr_takenType_16 : decode m_Pr_takenType.2.1 16 = .ok (.aload_n 0, 1) := by decide +kernel
theorem d_Pr_takenType_17 : decode m_Pr_takenType.2.1 17 = .ok (.aload_n 0, 1) := by decide +kernel
theorem d_Pr_takenType_18 : decode m_Pr_takenType.2.1 18 = .ok (.aload_n 1, 1) := by decide +kernel
theorem d_Pr_takenType_19 : decode m_Pr_takenType.2.1 19 = .ok (.iload_n 2, 1) := by decide +kernel
theorem d_Pr_takenType_20 : decode m_Pr_takenType.2.1 20 = .ok (.invokevirtual 61, 3) := by decide +kernel
theorem d_Pr_takenType_23 : decode m_Pr_takenType.2.1 23 = .ok (.iload_n 3, 1) := by decide +kernel
theorem d_Pr_takenType_24 : decode m_Pr_takenType.2.1 24 = .ok (.invokevirtual 72, 3) := by decide +kernel
theorem d_Pr_takenType_27 : decode m_Pr_takenType.2.1 27 = .ok (.goto 9, 3) := by decide +kernel
theorem d_Pr_takenType_30 : decode m_Pr_takenType.2.1 30 = .ok (.iload 4, 2) := by decide +kernel
theorem d_Pr_takenType_32 : decode m_Pr_takenType.2.1 32 = .ok (.iload_n 3, 1) := by decide +kernel
theorem d_Pr_takenType_33 : decode m_Pr_takenType.2.1 33 = .ok (.invokestatic 75, 3) := by decide +kernel
theorem d_Pr_takenType_36 : decode m_Pr_takenType.2.1 36 = .ok (.ireturn, 1) := by decide +kernel
theorem d_Pr_putCount_0 : decode m_Pr_putCount.2.1 0 = .ok (.aload_n 0, 1) := by decide +kernel
theorem d_Pr_putCount_1 : decode m_Pr_putCount.2.1 1 = .ok (.aload_n 1, 1) := by decide +kernel
theorem d_Pr_putCount_2 : decode m_Pr_putCount.2.1 2 = .ok (.iload_n 2, 1) := by decide +kernel
theorem d_Pr_putCount_3 : decode m_Pr_putCount.2.1 3 = .ok (.invokevirtual 41, 3) := by decide +kernel
theorem d_Pr_putCount_6 : decode m_Pr_putCount.2.1 6 = .ok (.istore_n 3, 1) := by decide +kernel
theorem d_Pr_putCount_7 : decode m_Pr_putCount.2.1 7 = .ok (.iload_n 3, 1) := by decide +kernel
theorem d_Pr_putCount_8 : decode m_Pr_putCount.2.1 8 = .ok (.sipush 184, 3) := by decide +kernel
theorem d_Pr_putCount_11 : decode m_Pr_putCount.2.1 11 = .ok (.if_icmp .ne 21, 3) := by decide +kernel
theorem d_Pr_putCount_14 : decode m_Pr_putCount.2.1 14 = .ok (.aload_n 0, 1) := by decide +kernel
theorem d_Pr_putCount_15 : decode m_Pr_putCount.2.1 15 = .ok (.aload_n 1, 1) := by decide +kernel
theorem d_Pr_putCount_16 : decode m_Pr_putCount.2.1 16 = .ok (.iload_n 2, 1) := by decide +kernel
theorem d_Pr_putCount_17 : decode m_Pr_putCount.2.1 17 = .ok (.invokevirtual 61, 3) := by decide +kernel
theorem d_Pr_putCount_20 : decode m_Pr_putCount.2.1 20 = .ok (.getfield 79, 3) := by decide +kernel
theorem d_Pr_putCount_23 : decode m_Pr_putCount.2.1 23 = .ok (.ifCond .ne 7, 3) := by decide +kernel
theorem d_Pr_putCount_26 : decode m_Pr_putCount.2.1 26 = .ok (.iconst 0, 1) := by decide +kernel
theorem d_Pr_putCount_27 : decode m_Pr_putCount.2.1 27 = .ok (.goto 4, 3) := by decide +kernel
theorem d_Pr_putCount_30 : decode m_Pr_putCount.2.1 30 = .ok (.iconst 1, 1) := by decide +kernel
theorem d_Pr_putCount_31 : decode m_Pr_putCount.2.1 31 = .ok (.ireturn, 1) := by decide +kernel
theorem d_Pr_putCount_32 : decode m_Pr_putCount.2.1 32 = .ok (.iload_n 3, 1) := by decide +kernel
theorem d_Pr_putCount_33 : decode m_Pr_putCount.2.1 33 = .ok (.invokestatic 82, 3) := by decide +kernel
theorem d_Pr_putCount_36 : decode m_Pr_putCount.2.1 36 = .ok (.ireturn, 1) := by decide +kernel
theorem d_Rd_readsFile_0 : decode m_Rd_readsFile.2.1 0 = .ok (.aload_n 0, 1) := by decide +kernel
theorem d_Rd_readsFile_1 : decode m_Rd_readsFile.2.1 1 = .ok (.iconst 0, 1) := by decide +kernel
theorem d_Rd_readsFile_2 : decode m_Rd_readsFile.2.1 2 = .ok (.putfield 15, 3) := by decide +kernel
theorem d_Rd_readsFile_5 : decode m_Rd_readsFile.2.1 5 = .ok (.aload_n 0, 1) := by decide +kernel
theorem d_Rd_readsFile_6 : decode m_Rd_readsFile.2.1 6 = .ok (.aload_n 1, 1) := by decide +kernel
theorem d_Rd_readsFile_7 : decode m_Rd_readsFile.2.1 7 = .ok (.sipush 202, 3) := by decide +kernel
theorem d_Rd_readsFile_10 : decode m_Rd_readsFile.2.1 10 = .ok (.sipush 202, 3) := by decide +kernel
theorem d_Rd_readsFile_13 : decode m_Rd_readsFile.2.1 13 = .ok (.invokevirtual 19, 3) := by decide +kernel
theorem d_Rd_readsFile_16 : decode m_Rd_readsFile.2.1 16 = .ok (.ifCond .eq 21, 3) := by decide +kernel
theorem d_Rd_readsFile_19 : decode m_Rd_readsFile.2.1 19 = .ok (.aload_n 0, 1) := by decide +kernel
theorem d_Rd_readsFile_20 : decode m_Rd_readsFile.2.1 20 = .ok (.aload_n 1, 1) := by decide +kernel
theorem d_Rd_readsFile_21 : decode m_Rd_readsFile.2.1 21 = .ok (.invokevirtual 23, 3) := by decide +kernel
theorem d_Rd_readsFile_24 : decode m_Rd_readsFile.2.1 24 = .ok (.ifCond .eq 13, 3) := by decide +kernel
theorem d_Rd_readsFile_27 : decode m_Rd_readsFile.2.1 27 = .ok (.aload_n 0, 1) := by decide +kernel
theorem d_Rd_readsFile_28 : decode m_Rd_readsFile.2.1 28 = .ok (.aload_n 1, 1) := by decide +kernel
theorem d_Rd_readsFile_29 : decode m_Rd_readsFile.2.1 29 = .ok (.iconst 1, 1) := by decide +kernel
theorem d_Rd_readsFile_30 : decode m_Rd_readsFile.2.1 30 = .ok (.iconst 4, 1) := by decide +kernel
theorem d_Rd_readsFile_31 : decode m_Rd_readsFile.2.1 31 = .ok (.invokevirtual 19, 3) := by decide +kernel
theorem d_Rd_readsFile_34 : decode m_Rd_readsFile.2.1 34 = .ok (.ifCond .ne 5, 3) := by decide +kernel
theorem d_Rd_readsFile_37 : decode m_Rd_readsFile.2.1 37 = .ok (.iconst 0, 1) := by decide +kernel
theorem d_Rd_readsFile_38 : decode m_Rd_readsFile.2.1 38 = .ok (.ireturn, 1) := by decide +kernel
theorem d_Rd_readsFile_39 : decode m_Rd_readsFile.2.1 39 = .ok (.aload_n 1, 1) := by decide +kernel
theorem d_Rd_readsFile_40 : decode m_Rd_readsFile.2.1 40 = .ok (.aload_n 0, 1) := by decide +kernel
theorem d_Rd_readsFile_41 : decode m_Rd_readsFile.2.1 41 = .ok (.getfield 27, 3) := by decide +kernel
theorem d_Rd_readsFile_44 : decode m_Rd_readsFile.2.1 44 = .ok (.putfield 30, 3) := by decide +kernel
theorem d_Rd_readsFile_47 : decode m_Rd_readsFile.2.1 47 = .ok (.iconst 0, 1) := by decide +kernel
theorem d_Rd_readsFile_48 : decode m_Rd_readsFile.2.1 48 = .ok (.istore_n 2, 1) := by decide +kernel
theorem d_Rd_readsFile_49 : decode m_Rd_readsFile.2.1 49 = .ok (.iload_n 2, 1) := by decide +kernel
theorem d_Rd_readsFile_50 : decode m_Rd_readsFile.2.1 50 = .ok (.aload_n 1, 1) := by decide +kernel
theorem d_Rd_readsFile_51 : decode m_Rd_readsFile.2.1 51 = .ok (.getfield 30, 3) := by decide +kernel
theorem d_Rd_readsFile_54 : decode m_Rd_readsFile.2.1 54 = .ok (.if_icmp .ge 25, 3) := by decide +kernel
theorem d_Rd_readsFile_57 : decode m_Rd_readsFile.2.1 57 = .ok (.aload_n 0, 1) := by decide +kernel
theorem d_Rd_readsFile_58 : decode m_Rd_readsFile.2.1 58 = .ok (.aload_n 1, 1) := by decide +kernel
theorem d_Rd_readsFile_59 : decode m_Rd_readsFile.2.1 59 = .ok (.aload_n 1, 1) := by decide +kernel
theorem d_Rd_readsFile_60 : decode m_Rd_readsFile.2.1 60 = .ok (.getfield 35, 3) := by decide +kernel
theorem d_Rd_readsFile_63 : decode m_Rd_readsFile.2.1 63 = .ok (.iload_n 2, 1) := by decide +kernel
theorem d_Rd_readsFile_64 : decode m_Rd_readsFile.2.1 64 = .ok (.aaload, 1) := by decide +kernel
theorem d_Rd_readsFile_65 : decode m_Rd_readsFile.2.1 65 = .ok (.invokevirtual 39, 3) := by decide +kernel
theorem d_Rd_readsFile_68 : decode m_Rd_readsFile.2.1 68 = .ok (.ifCond .ne 5, 3) := by decide +kernel
theorem d_Rd_readsFile_71 : decode m_Rd_readsFile.2.1 71 = .ok (.iconst 0, 1) := by decide +kernel
theorem d_Rd_readsFile_72 : decode m_Rd_readsFile.2.1 72 = .ok (.ireturn, 1) := by decide +kernel
theorem d_Rd_readsFile_73 : decode m_Rd_readsFile.2.1 73 = .ok (.iinc 2 1, 3) := by decide +kernel
theorem d_Rd_readsFile_76 : decode m_Rd_readsFile.2.1 76 = .ok (.goto (-27), 3) := by decide +kernel
theorem d_Rd_readsFile_79 : decode m_Rd_readsFile.2.1 79 = .ok (.aload_n 0, 1) := by decide +kernel
theorem d_Rd_readsFile_80 : decode m_Rd_readsFile.2.1 80 = .ok (.getfield 15, 3) := by decide +kernel
theorem d_Rd_readsFile_83 : decode m_Rd_readsFile.2.1 83 = .ok (.aload_n 1, 1) := by decide +kernel
theorem d_Rd_readsFile_84 : decode m_Rd_readsFile.2.1 84 = .ok (.getfield 43, 3) := by decide +kernel
theorem d_Rd_readsFile_87 : decode m_Rd_readsFile.2.1 87 = .ok (.if_icmp .ne 7, 3) := by decide +kernel
theorem d_Rd_readsFile_90 : decode m_Rd_readsFile.2.1 90 = .ok (.iconst 1, 1) := by decide +kernel
theorem d_Rd_readsFile_91 : decode m_Rd_readsFile.2.1 91 = .ok (.goto 4, 3) := by decide +kernel
theorem d_Rd_readsFile_94 : decode m_Rd_readsFile.2.1 94 = .ok (.iconst 0, 1) := by decide +kernel
theorem d_Rd_readsFile_95 : decode m_Rd_readsFile.2.1 95 = .ok (.ireturn, 1) := by decide +kernel
theorem d_Rd_next_0 : decode m_Rd_next.2.1 0 = .ok (.aload_n 0, 1) := by decide +kernel
theorem d_Rd_next_1 : decode m_Rd_next.2.1 1 = .ok (.getfield 15, 3) := by decide +kernel
theorem d_Rd_next_4 : decode m_Rd_next.2.1 4 = .ok (.aload_n 1, 1) := by decide +kernel
theorem d_Rd_next_5 : decode m_Rd_next.2.1 5 = .ok (.getfield 43, 3) := by decide +kernel
theorem d_Rd_next_8 : decode m_Rd_next.2.1 8 = .ok (.if_icmp .ge 29, 3) := by decide +kernel
theorem d_Rd_next_11 : decode m_Rd_next.2.1 11 = .ok (.aload_n 1, 1) := by decide +kernel
theorem d_Rd_next_12 : decode m_Rd_next.2.1 12 = .ok (.getfield 46, 3) := by decide +kernel
theorem d_Rd_next_15 : decode m_Rd_next.2.1 15 = .ok (.aload_n 0, 1) := by decide +kernel
theorem d_Rd_next_16 : decode m_Rd_next.2.1 16 = .ok (.getfield 15, 3) := by decide +kernel
theorem d_Rd_next_19 : decode m_Rd_next.2.1 19 = .ok (.iaload, 1) := by decide +kernel
theorem d_Rd_next_20 : decode m_Rd_next.2.1 20 = .ok (.iload_n 2, 1) := by decide +kernel
theorem d_Rd_next_21 : decode m_Rd_next.2.1 21 = .ok (.if_icmp .lt 16, 3) := by decide +kernel
theorem d_Rd_next_24 : decode m_Rd_next.2.1 24 = .ok (.aload_n 1, 1) := by decide +kernel
theorem d_Rd_next_25 : decode m_Rd_next.2.1 25 = .ok (.getfield 46, 3) := by decide +kernel
theorem d_Rd_next_28 : decode m_Rd_next.2.1 28 = .ok (.aload_n 0, 1) := by decide +kernel
theorem d_Rd_next_29 : decode m_Rd_next.2.1 29 = .ok (.getfield 15, 3) := by decide +kernel
theorem d_Rd_next_32 : decode m_Rd_next.2.1 32 = .ok (.iaload, 1) := by decide +kernel
theorem d_Rd_next_33 : decode m_Rd_next.2.1 33 = .ok (.iload_n 3, 1) := by decide +kernel
theorem d_Rd_next_34 : decode m_Rd_next.2.1 34 = .ok (.if_icmp .le 5, 3) := by decide +kernel
theorem d_Rd_next_37 : decode m_Rd_next.2.1 37 = .ok (.iconst 0, 1) := by decide +kernel
theorem d_Rd_next_38 : decode m_Rd_next.2.1 38 = .ok (.ireturn, 1) := by decide +kernel
theorem d_Rd_next_39 : decode m_Rd_next.2.1 39 = .ok (.aload_n 0, 1) := by decide +kernel
theorem d_Rd_next_40 : decode m_Rd_next.2.1 40 = .ok (.aload_n 1, 1) := by decide +kernel
theorem d_Rd_next_41 : decode m_Rd_next.2.1 41 = .ok (.getfield 46, 3) := by decide +kernel
theorem d_Rd_next_44 : decode m_Rd_next.2.1 44 = .ok (.aload_n 0, 1) := by decide +kernel
theorem d_Rd_next_45 : decode m_Rd_next.2.1 45 = .ok (.getfield 15, 3) := by decide +kernel
theorem d_Rd_next_48 : decode m_Rd_next.2.1 48 = .ok (.iaload, 1) := by decide +kernel
theorem d_Rd_next_49 : decode m_Rd_next.2.1 49 = .ok (.putfield 27, 3) := by decide +kernel
theorem d_Rd_next_52 : decode m_Rd_next.2.1 52 = .ok (.aload_n 0, 1) := by decide +kernel
theorem d_Rd_next_53 : decode m_Rd_next.2.1 53 = .ok (.dup, 1) := by decide +kernel
theorem d_Rd_next_54 : decode m_Rd_next.2.1 54 = .ok (.getfield 15, 3) := by decide +kernel
theorem d_Rd_next_57 : decode m_Rd_next.2.1 57 = .ok (.iconst 1, 1) := by decide +kernel
theorem d_Rd_next_58 : decode m_Rd_next.2.1 58 = .ok (.iadd, 1) := by decide +kernel
theorem d_Rd_next_59 : decode m_Rd_next.2.1 59 = .ok (.putfield 15, 3) := by decide +kernel
theorem d_Rd_next_62 : decode m_Rd_next.2.1 62 = .ok (.iconst 1, 1) := by decide +kernel
theorem d_Rd_next_63 : decode m_Rd_next.2.1 63 = .ok (.ireturn, 1) := by decide +kernel
theorem d_Rd_nextOnes_0 : decode m_Rd_nextOnes.2.1 0 = .ok (.iconst 0, 1) := by decide +kernel
theorem d_Rd_nextOnes_1 : decode m_Rd_nextOnes.2.1 1 = .ok (.istore 5, 2) := by decide +kernel
theorem d_Rd_nextOnes_3 : decode m_Rd_nextOnes.2.1 3 = .ok (.iload 5, 2) := by decide +kernel
theorem d_Rd_nextOnes_5 : decode m_Rd_nextOnes.2.1 5 = .ok (.iload_n 2, 1) := by decide +kernel
theorem d_Rd_nextOnes_6 : decode m_Rd_nextOnes.2.1 6 = .ok (.if_icmp .ge 22, 3) := by decide +kernel
theorem d_Rd_nextOnes_9 : decode m_Rd_nextOnes.2.1 9 = .ok (.aload_n 0, 1) := by decide +kernel
theorem d_Rd_nextOnes_10 : decode m_Rd_nextOnes.2.1 10 = .ok (.aload_n 1, 1) := by decide +kernel
theorem d_Rd_nextOnes_11 : decode m_Rd_nextOnes.2.1 11 = .ok (.iload_n 3, 1) := by decide +kernel
theorem d_Rd_nextOnes_12 : decode m_Rd_nextOnes.2.1 12 = .ok (.iload 4, 2) := by decide +kernel
theorem d_Rd_nextOnes_14 : decode m_Rd_nextOnes.2.1 14 = .ok (.invokevirtual 19, 3) := by decide +kernel
theorem d_Rd_nextOnes_17 : decode m_Rd_nextOnes.2.1 17 = .ok (.ifCond .ne 5, 3) := by decide +kernel
theorem d_Rd_nextOnes_20 : decode m_Rd_nextOnes.2.1 20 = .ok (.iconst 0, 1) := by decide +kernel
theorem d_Rd_nextOnes_21 : decode m_Rd_nextOnes.2.1 21 = .ok (.ireturn, 1) := by decide +kernel
theorem d_Rd_nextOnes_22 : decode m_Rd_nextOnes.2.1 22 = .ok (.iinc 5 1, 3) := by decide +kernel
theorem d_Rd_nextOnes_25 : decode m_Rd_nextOnes.2.1 25 = .ok (.goto (-22), 3) := by decide +kernel
theorem d_Rd_nextOnes_28 : decode m_Rd_nextOnes.2.1 28 = .ok (.iconst 1, 1) := by decide +kernel
theorem d_Rd_nextOnes_29 : decode m_Rd_nextOnes.2.1 29 = .ok (.ireturn, 1) := by decide +kernel
theorem d_Rd_readsConstants_0 : decode m_Rd_readsConstants.2.1 0 = .ok (.aload_n 0, 1) := by decide +kernel
theorem d_Rd_readsConstants_1 : decode m_Rd_readsConstants.2.1 1 = .ok (.aload_n 1, 1) := by decide +kernel
theorem d_Rd_readsConstants_2 : decode m_Rd_readsConstants.2.1 2 = .ok (.iconst 0, 1) := by decide +kernel
theorem d_Rd_readsConstants_3 : decode m_Rd_readsConstants.2.1 3 = .ok (.iconst 4, 1) := by decide +kernel
theorem d_Rd_readsConstants_4 : decode m_Rd_readsConstants.2.1 4 = .ok (.invokevirtual 19, 3) := by decide +kernel
theorem d_Rd_readsConstants_7 : decode m_Rd_readsConstants.2.1 7 = .ok (.ifCond .ne 5, 3) := by decide +kernel
theorem d_Rd_readsConstants_10 : decode m_Rd_readsConstants.2.1 10 = .ok (.iconst 0, 1) := by decide +kernel
theorem d_Rd_readsConstants_11 : decode m_Rd_readsConstants.2.1 11 = .ok (.ireturn, 1) := by decide +kernel
theorem d_Rd_readsConstants_12 : decode m_Rd_readsConstants.2.1 12 = .ok (.aload_n 1, 1) := by decide +kernel
theorem d_Rd_readsConstants_13 : decode m_Rd_readsConstants.2.1 13 = .ok (.aload_n 0, 1) := by decide +kernel
theorem d_Rd_readsConstants_14 : decode m_Rd_readsConstants.2.1 14 = .ok (.getfield 27, 3) := by decide +kernel
theorem d_Rd_readsConstants_17 : decode m_Rd_readsConstants.2.1 17 = .ok (.putfield 50, 3) := by decide +kernel
theorem d_Rd_readsConstants_20 : decode m_Rd_readsConstants.2.1 20 = .ok (.aload_n 1, 1) := by decide +kernel
theorem d_Rd_readsConstants_21 : decode m_Rd_readsConstants.2.1 21 = .ok (.aload_n 0, 1) := by decide +kernel
theorem d_Rd_readsConstants_22 : decode m_Rd_readsConstants.2.1 22 = .ok (.getfield 15, 3) := by decide +kernel
theorem d_Rd_readsConstants_25 : decode m_Rd_readsConstants.2.1 25 = .ok (.putfield 53, 3) := by decide +kernel
theorem d_Rd_readsConstants_28 : decode m_Rd_readsConstants.2.1 28 = .ok (.aload_n 0, 1) := by decide +kernel
theorem d_Rd_readsConstants_29 : decode m_Rd_readsConstants.2.1 29 = .ok (.aload_n 1, 1) := by decide +kernel
theorem d_Rd_readsConstants_30 : decode m_Rd_readsConstants.2.1 30 = .ok (.iconst 4, 1) := by decide +kernel
theorem d_Rd_readsConstants_31 : decode m_Rd_readsConstants.2.1 31 = .ok (.aload_n 1, 1) := by decide +kernel
theorem d_Rd_readsConstants_32 : decode m_Rd_readsConstants.2.1 32 = .ok (.getfield 50, 3) := by decide +kernel
theorem d_Rd_readsConstants_35 : decode m_Rd_readsConstants.2.1 35 = .ok (.imul, 1) := by decide +kernel
theorem d_Rd_readsConstants_36 : decode m_Rd_readsConstants.2.1 36 = .ok (.iconst 0, 1) := by decide +kernel
theorem d_Rd_readsConstants_37 : decode m_Rd_readsConstants.2.1 37 = .ok (.sipush 255, 3) := by decide +kernel
theorem d_Rd_readsConstants_40 : decode m_Rd_readsConstants.2.1 40 = .ok (.invokevirtual 56, 3) := by decide +kernel
theorem d_Rd_readsConstants_43 : decode m_Rd_readsConstants.2.1 43 = .ok (.ireturn, 1) := by decide +kernel
theorem d_Rd_readsMethod_0 : decode m_Rd_readsMethod.2.1 0 = .ok (.aload_n 0, 1) := by decide +kernel
theorem d_Rd_readsMethod_1 : decode m_Rd_readsMethod.2.1 1 = .ok (.aload_n 1, 1) := by decide +kernel
theorem d_Rd_readsMethod_2 : decode m_Rd_readsMethod.2.1 2 = .ok (.aload_n 2, 1) := by decide +kernel
theorem d_Rd_readsMethod_3 : decode m_Rd_readsMethod.2.1 3 = .ok (.invokevirtual 60, 3) := by decide +kernel
theorem d_Rd_readsMethod_6 : decode m_Rd_readsMethod.2.1 6 = .ok (.ifCond .eq 43, 3) := by decide +kernel
theorem d_Rd_readsMethod_9 : decode m_Rd_readsMethod.2.1 9 = .ok (.aload_n 0, 1) := by decide +kernel
theorem d_Rd_readsMethod_10 : decode m_Rd_readsMethod.2.1 10 = .ok (.aload_n 1, 1) := by decide +kernel
theorem d_Rd_readsMethod_11 : decode m_Rd_readsMethod.2.1 11 = .ok (.aload_n 2, 1) := by decide +kernel
theorem d_Rd_readsMethod_12 : decode m_Rd_readsMethod.2.1 12 = .ok (.invokevirtual 63, 3) := by decide +kernel
theorem d_Rd_readsMethod_15 : decode m_Rd_readsMethod.2.1 15 = .ok (.ifCond .eq 34, 3) := by decide +kernel
theorem d_Rd_readsMethod_18 : decode m_Rd_readsMethod.2.1 18 = .ok (.aload_n 0, 1) := by decide +kernel
theorem d_Rd_readsMethod_19 : decode m_Rd_readsMethod.2.1 19 = .ok (.aload_n 1, 1) := by decide +kernel
theorem d_Rd_readsMethod_20 : decode m_Rd_readsMethod.2.1 20 = .ok (.aload_n 2, 1) := by decide +kernel
theorem d_Rd_readsMethod_21 : decode m_Rd_readsMethod.2.1 21 = .ok (.invokevirtual 66, 3) := by decide +kernel
theorem d_Rd_readsMethod_24 : decode m_Rd_readsMethod.2.1 24 = .ok (.ifCond .eq 25, 3) := by decide +kernel
theorem d_Rd_readsMethod_27 : decode m_Rd_readsMethod.2.1 27 = .ok (.aload_n 0, 1) := by decide +kernel
theorem d_Rd_readsMethod_28 : decode m_Rd_readsMethod.2.1 28 = .ok (.aload_n 1, 1) := by decide +kernel
theorem d_Rd_readsMethod_29 : decode m_Rd_readsMethod.2.1 29 = .ok (.aload_n 2, 1) := by decide +kernel
theorem d_Rd_readsMethod_30 : decode m_Rd_readsMethod.2.1 30 = .ok (.invokevirtual 69, 3) := by decide +kernel
theorem d_Rd_readsMethod_33 : decode m_Rd_readsMethod.2.1 33 = .ok (.ifCond .eq 16, 3) := by decide +kernel
theorem d_Rd_readsMethod_36 : decode m_Rd_readsMethod.2.1 36 = .ok (.aload_n 0, 1) := by decide +kernel
theorem d_Rd_readsMethod_37 : decode m_Rd_readsMethod.2.1 37 = .ok (.aload_n 1, 1) := by decide +kernel
theorem d_Rd_readsMethod_38 : decode m_Rd_readsMethod.2.1 38 = .ok (.aload_n 2, 1) := by decide +kernel
theorem d_Rd_readsMethod_39 : decode m_Rd_readsMethod.2.1 39 = .ok (.invokevirtual 72, 3) := by decide +kernel
theorem d_Rd_readsMethod_42 : decode m_Rd_readsMethod.2.1 42 = .ok (.ifCond .eq 7, 3) := by decide +kernel
theorem d_Rd_readsMethod_45 : decode m_Rd_readsMethod.2.1 45 = .ok (.iconst 1, 1) := by decide +kernel
theorem d_Rd_readsMethod_46 : decode m_Rd_readsMethod.2.1 46 = .ok (.goto 4, 3) := by decide +kernel
theorem d_Rd_readsMethod_49 : decode m_Rd_readsMethod.2.1 49 = .ok (.iconst 0, 1) := by decide +kernel
theorem d_Rd_readsMethod_50 : decode m_Rd_readsMethod.2.1 50 = .ok (.ireturn, 1) := by decide +kernel
theorem d_Rd_readsHead_0 : decode m_Rd_readsHead.2.1 0 = .ok (.aload_n 0, 1) := by decide +kernel
theorem d_Rd_readsHead_1 : decode m_Rd_readsHead.2.1 1 = .ok (.aload_n 1, 1) := by decide +kernel
theorem d_Rd_readsHead_2 : decode m_Rd_readsHead.2.1 2 = .ok (.iconst 0, 1) := by decide +kernel
theorem d_Rd_readsHead_3 : decode m_Rd_readsHead.2.1 3 = .ok (.iconst 3, 1) := by decide +kernel
theorem d_Rd_readsHead_4 : decode m_Rd_readsHead.2.1 4 = .ok (.invokevirtual 19, 3) := by decide +kernel
theorem d_Rd_readsHead_7 : decode m_Rd_readsHead.2.1 7 = .ok (.ifCond .ne 5, 3) := by decide +kernel
theorem d_Rd_readsHead_10 : decode m_Rd_readsHead.2.1 10 = .ok (.iconst 0, 1) := by decide +kernel
theorem d_Rd_readsHead_11 : decode m_Rd_readsHead.2.1 11 = .ok (.ireturn, 1) := by decide +kernel
theorem d_Rd_readsHead_12 : decode m_Rd_readsHead.2.1 12 = .ok (.aload_n 2, 1) := by decide +kernel
theorem d_Rd_readsHead_13 : decode m_Rd_readsHead.2.1 13 = .ok (.aload_n 0, 1) := by decide +kernel
theorem d_Rd_readsHead_14 : decode m_Rd_readsHead.2.1 14 = .ok (.getfield 27, 3) := by decide +kernel
theorem d_Rd_readsHead_17 : decode m_Rd_readsHead.2.1 17 = .ok (.putfield 75, 3) := by decide +kernel
theorem d_Rd_readsHead_20 : decode m_Rd_readsHead.2.1 20 = .ok (.aload_n 2, 1) := by decide +kernel
theorem d_Rd_readsHead_21 : decode m_Rd_readsHead.2.1 21 = .ok (.aload_n 0, 1) := by decide +kernel
theorem d_Rd_readsHead_22 : decode m_Rd_readsHead.2.1 22 = .ok (.getfield 15, 3) := by decide +kernel
theorem d_Rd_readsHead_25 : decode m_Rd_readsHead.2.1 25 = .ok (.putfield 80, 3) := by decide +kernel
theorem d_Rd_readsHead_28 : decode m_Rd_readsHead.2.1 28 = .ok (.aload_n 0, 1) := by decide +kernel
theorem d_Rd_readsHead_29 : decode m_Rd_readsHead.2.1 29 = .ok (.aload_n 1, 1) := by decide +kernel
theorem d_Rd_readsHead_30 : decode m_Rd_readsHead.2.1 30 = .ok (.aload_n 2, 1) := by decide +kernel
theorem d_Rd_readsHead_31 : decode m_Rd_readsHead.2.1 31 = .ok (.getfield 75, 3) := by decide +kernel
theorem d_Rd_readsHead_34 : decode m_Rd_readsHead.2.1 34 = .ok (.iconst 1, 1) := by decide +kernel
theorem d_Rd_readsHead_35 : decode m_Rd_readsHead.2.1 35 = .ok (.iconst 2, 1) := by decide +kernel
theorem d_Rd_readsHead_36 : decode m_Rd_readsHead.2.1 36 = .ok (.invokevirtual 56, 3) := by decide +kernel
theorem d_Rd_readsHead_39 : decode m_Rd_readsHead.2.1 39 = .ok (.ifCond .eq 13, 3) := by decide +kernel
theorem d_Rd_readsHead_42 : decode m_Rd_readsHead.2.1 42 = .ok (.aload_n 0, 1) := by decide +kernel
theorem d_Rd_readsHead_43 : decode m_Rd_readsHead.2.1 43 = .ok (.aload_n 1, 1) := by decide +kernel
theorem d_Rd_readsHead_44 : decode m_Rd_readsHead.2.1 44 = .ok (.iconst 0, 1) := by decide +kernel
theorem d_Rd_readsHead_45 : decode m_Rd_readsHead.2.1 45 = .ok (.iconst 2, 1) := by decide +kernel
theorem d_Rd_readsHead_46 : decode m_Rd_readsHead.2.1 46 = .ok (.invokevirtual 19, 3) := by decide +kernel
theorem d_Rd_readsHead_49 : decode m_Rd_readsHead.2.1 49 = .ok (.ifCond .ne 5, 3) := by decide +kernel
theorem d_Rd_readsHead_52 : decode m_Rd_readsHead.2.1 52 = .ok (.iconst 0, 1) := by decide +kernel
theorem d_Rd_readsHead_53 : decode m_Rd_readsHead.2.1 53 = .ok (.ireturn, 1) := by decide +kernel
theorem d_Rd_readsHead_54 : decode m_Rd_readsHead.2.1 54 = .ok (.aload_n 2, 1) := by decide +kernel
theorem d_Rd_readsHead_55 : decode m_Rd_readsHead.2.1 55 = .ok (.aload_n 0, 1) := by decide +kernel
theorem d_Rd_readsHead_56 : decode m_Rd_readsHead.2.1 56 = .ok (.getfield 27, 3) := by decide +kernel
theorem d_Rd_readsHead_59 : decode m_Rd_readsHead.2.1 59 = .ok (.putfield 83, 3) := by decide +kernel
theorem d_Rd_readsHead_62 : decode m_Rd_readsHead.2.1 62 = .ok (.aload_n 0, 1) := by decide +kernel
theorem d_Rd_readsHead_63 : decode m_Rd_readsHead.2.1 63 = .ok (.aload_n 1, 1) := by decide +kernel
theorem d_Rd_readsHead_64 : decode m_Rd_readsHead.2.1 64 = .ok (.iconst 0, 1) := by decide +kernel
theorem d_Rd_readsHead_65 : decode m_Rd_readsHead.2.1 65 = .ok (.bipush 6, 2) := by decide +kernel
theorem d_Rd_readsHead_67 : decode m_Rd_readsHead.2.1 67 = .ok (.invokevirtual 19, 3) := by decide +kernel
theorem d_Rd_readsHead_70 : decode m_Rd_readsHead.2.1 70 = .ok (.ifCond .ne 5, 3) := by decide +kernel
theorem d_Rd_readsHead_73 : decode m_Rd_readsHead.2.1 73 = .ok (.iconst 0, 1) := by decide +kernel
theorem d_Rd_readsHead_74 : decode m_Rd_readsHead.2.1 74 = .ok (.ireturn, 1) := by decide +kernel
theorem d_Rd_readsHead_75 : decode m_Rd_readsHead.2.1 75 = .ok (.aload_n 2, 1) := by decide +kernel
theorem d_Rd_readsHead_76 : decode m_Rd_readsHead.2.1 76 = .ok (.aload_n 0, 1) := by decide +kernel
theorem d_Rd_readsHead_77 : decode m_Rd_readsHead.2.1 77 = .ok (.getfield 27, 3) := by decide +kernel
theorem d_Rd_readsHead_80 : decode m_Rd_readsHead.2.1 80 = .ok (.putfield 86, 3) := by decide +kernel
theorem d_Rd_readsHead_83 : decode m_Rd_readsHead.2.1 83 = .ok (.aload_n 0, 1) := by decide +kernel
theorem d_Rd_readsHead_84 : decode m_Rd_readsHead.2.1 84 = .ok (.aload_n 1, 1) := by decide +kernel
theorem d_Rd_readsHead_85 : decode m_Rd_readsHead.2.1 85 = .ok (.aload_n 2, 1) := by decide +kernel
theorem d_Rd_readsHead_86 : decode m_Rd_readsHead.2.1 86 = .ok (.getfield 75, 3) := by decide +kernel
theorem d_Rd_readsHead_89 : decode m_Rd_readsHead.2.1 89 = .ok (.bipush 6, 2) := by decide +kernel
theorem d_Rd_readsHead_91 : decode m_Rd_readsHead.2.1 91 = .ok (.invokevirtual 19, 3) := by decide +kernel
theorem d_Rd_readsHead_94 : decode m_Rd_readsHead.2.1 94 = .ok (.ifCond .ne 5, 3) := by decide +kernel
theorem d_Rd_readsHead_97 : decode m_Rd_readsHead.2.1 97 = .ok (.iconst 0, 1) := by decide +kernel
theorem d_Rd_readsHead_98 : decode m_Rd_readsHead.2.1 98 = .ok (.ireturn, 1) := by decide +kernel
theorem d_Rd_readsHead_99 : decode m_Rd_readsHead.2.1 99 = .ok (.aload_n 2, 1) := by decide +kernel
theorem d_Rd_readsHead_100 : decode m_Rd_readsHead.2.1 100 = .ok (.aload_n 0, 1) := by decide +kernel
theorem d_Rd_readsHead_101 : decode m_Rd_readsHead.2.1 101 = .ok (.getfield 27, 3) := by decide +kernel
theorem d_Rd_readsHead_104 : decode m_Rd_readsHead.2.1 104 = .ok (.putfield 89, 3) := by decide +kernel
theorem d_Rd_readsHead_107 : decode m_Rd_readsHead.2.1 107 = .ok (.aload_n 0, 1) := by decide +kernel
theorem d_Rd_readsHead_108 : decode m_Rd_readsHead.2.1 108 = .ok (.aload_n 1, 1) := by decide +kernel
theorem d_Rd_readsHead_109 : decode m_Rd_readsHead.2.1 109 = .ok (.iconst 1, 1) := by decide +kernel
theorem d_Rd_readsHead_110 : decode m_Rd_readsHead.2.1 110 = .ok (.bipush 60, 2) := by decide +kernel
theorem d_Rd_readsHead_112 : decode m_Rd_readsHead.2.1 112 = .ok (.invokevirtual 19, 3) := by decide +kernel
theorem d_Rd_readsHead_115 : decode m_Rd_readsHead.2.1 115 = .ok (.ifCond .ne 5, 3) := by decide +kernel
theorem d_Rd_readsHead_118 : decode m_Rd_readsHead.2.1 118 = .ok (.iconst 0, 1) := by decide +kernel
theorem d_Rd_readsHead_119 : decode m_Rd_readsHead.2.1 119 = .ok (.ireturn, 1) := by decide +kernel
theorem d_Rd_readsHead_120 : decode m_Rd_readsHead.2.1 120 = .ok (.aload_n 2, 1) := by decide +kernel
theorem d_Rd_readsHead_121 : decode m_Rd_readsHead.2.1 121 = .ok (.aload_n 0, 1) := by decide +kernel
theorem d_Rd_readsHead_122 : decode m_Rd_readsHead.2.1 122 = .ok (.getfield 27, 3) := by decide +kernel
theorem d_Rd_readsHead_125 : decode m_Rd_readsHead.2.1 125 = .ok (.putfield 92, 3) := by decide +kernel
theorem d_Rd_readsHead_128 : decode m_Rd_readsHead.2.1 128 = .ok (.aload_n 2, 1) := by decide +kernel
theorem d_Rd_readsHead_129 : decode m_Rd_readsHead.2.1 129 = .ok (.aload_n 0, 1) := by decide +kernel
theorem d_Rd_readsHead_130 : decode m_Rd_readsHead.2.1 130 = .ok (.getfield 15, 3) := by decide +kernel
theorem d_Rd_readsHead_133 : decode m_Rd_readsHead.2.1 133 = .ok (.putfield 95, 3) := by decide +kernel
theorem d_Rd_readsHead_136 : decode m_Rd_readsHead.2.1 136 = .ok (.iconst 1, 1) := by decide +kernel
theorem d_Rd_readsHead_137 : decode m_Rd_readsHead.2.1 137 = .ok (.ireturn, 1) := by decide +kernel
theorem d_Rd_readsCode_0 : decode m_Rd_readsCode.2.1 0 = .ok (.iconst 0, 1) := by decide +kernel
theorem d_Rd_readsCode_1 : decode m_Rd_readsCode.2.1 1 = .ok (.istore_n 3, 1) := by decide +kernel
theorem d_Rd_readsCode_2 : decode m_Rd_readsCode.2.1 2 = .ok (.iload_n 3, 1) := by decide +kernel
theorem d_Rd_readsCode_3 : decode m_Rd_readsCode.2.1 3 = .ok (.bipush 60, 2) := by decide +kernel
theorem d_Rd_readsCode_5 : decode m_Rd_readsCode.2.1 5 = .ok (.if_icmp .ge 16, 3) := by decide +kernel
theorem d_Rd_readsCode_8 : decode m_Rd_readsCode.2.1 8 = .ok (.aload_n 0, 1) := by decide +kernel
theorem d_Rd_readsCode_9 : decode m_Rd_readsCode.2.1 9 = .ok (.getfield 9, 3) := by decide +kernel
theorem d_Rd_readsCode_12 : decode m_Rd_readsCode.2.1 12 = .ok (.iload_n 3, 1) := by decide +kernel
theorem d_Rd_readsCode_13 : decode m_Rd_readsCode.2.1 13 = .ok (.iconst 0, 1) := by decide +kernel
theorem d_Rd_readsCode_14 : decode m_Rd_readsCode.2.1 14 = .ok (.bastore, 1) := by decide +kernel
theorem d_Rd_readsCode_15 : decode m_Rd_readsCode.2.1 15 = .ok (.iinc 3 1, 3) := by decide +kernel
theorem d_Rd_readsCode_18 : decode m_Rd_readsCode.2.1 18 = .ok (.goto (-16), 3) := by decide +kernel
theorem d_Rd_readsCode_21 : decode m_Rd_readsCode.2.1 21 = .ok (.aload_n 2, 1) := by decide +kernel
theorem d_Rd_readsCode_22 : decode m_Rd_readsCode.2.1 22 = .ok (.getfield 95, 3) := by decide +kernel
theorem d_Rd_readsCode_25 : decode m_Rd_readsCode.2.1 25 = .ok (.aload_n 2, 1) := by decide +kernel
theorem d_Rd_readsCode_26 : decode m_Rd_readsCode.2.1 26 = .ok (.getfield 92, 3) := by decide +kernel
theorem d_Rd_readsCode_29 : decode m_Rd_readsCode.2.1 29 = .ok (.iadd, 1) := by decide +kernel
theorem d_Rd_readsCode_30 : decode m_Rd_readsCode.2.1 30 = .ok (.istore_n 3, 1) := by decide +kernel
theorem d_Rd_readsCode_31 : decode m_Rd_readsCode.2.1 31 = .ok (.iconst 0, 1) := by decide +kernel
theorem d_Rd_readsCode_32 : decode m_Rd_readsCode.2.1 32 = .ok (.istore 4, 2) := by decide +kernel
theorem d_Rd_readsCode_34 : decode m_Rd_readsCode.2.1 34 = .ok (.iload 4, 2) := by decide +kernel
theorem d_Rd_readsCode_36 : decode m_Rd_readsCode.2.1 36 = .ok (.bipush 60, 2) := by decide +kernel
theorem d_Rd_readsCode_38 : decode m_Rd_readsCode.2.1 38 = .ok (.if_icmp .ge 44, 3) := by decide +kernel
theorem d_Rd_readsCode_41 : decode m_Rd_readsCode.2.1 41 = .ok (.aload_n 0, 1) := by decide +kernel
theorem d_Rd_readsCode_42 : decode m_Rd_readsCode.2.1 42 = .ok (.getfield 15, 3) := by decide +kernel
theorem d_Rd_readsCode_45 : decode m_Rd_readsCode.2.1 45 = .ok (.iload_n 3, 1) := by decide +kernel
theorem d_Rd_readsCode_46 : decode m_Rd_readsCode.2.1 46 = .ok (.if_icmp .ge 36, 3) := by decide +kernel
theorem d_Rd_readsCode_49 : decode m_Rd_readsCode.2.1 49 = .ok (.aload_n 0, 1) := by decide +kernel
theorem d_Rd_readsCode_50 : decode m_Rd_readsCode.2.1 50 = .ok (.getfield 9, 3) := by decide +kernel
theorem d_Rd_readsCode_53 : decode m_Rd_readsCode.2.1 53 = .ok (.aload_n 0, 1) := by decide +kernel
theorem d_Rd_readsCode_54 : decode m_Rd_readsCode.2.1 54 = .ok (.getfield 15, 3) := by decide +kernel
theorem d_Rd_readsCode_57 : decode m_Rd_readsCode.2.1 57 = .ok (.aload_n 2, 1) := by decide +kernel
theorem d_Rd_readsCode_58 : decode m_Rd_readsCode.2.1 58 = .ok (.getfield 95, 3) := by decide +kernel
theorem d_Rd_readsCode_61 : decode m_Rd_readsCode.2.1 61 = .ok (.isub, 1) := by decide +kernel
theorem d_Rd_readsCode_62 : decode m_Rd_readsCode.2.1 62 = .ok (.iconst 1, 1) := by decide +kernel
theorem d_Rd_readsCode_63 : decode m_Rd_readsCode.2.1 63 = .ok (.bastore, 1) := by decide +kernel
theorem d_Rd_readsCode_64 : decode m_Rd_readsCode.2.1 64 = .ok (.aload_n 0, 1) := by decide +kernel
theorem d_Rd_readsCode_65 : decode m_Rd_readsCode.2.1 65 = .ok (.aload_n 1, 1) := by decide +kernel
theorem d_Rd_readsCode_66 : decode m_Rd_readsCode.2.1 66 = .ok (.aload_n 2, 1) := by decide +kernel
theorem d_Rd_readsCode_67 : decode m_Rd_readsCode.2.1 67 = .ok (.iload_n 3, 1) := by decide +kernel
theorem d_Rd_readsCode_68 : decode m_Rd_readsCode.2.1 68 = .ok (.invokevirtual 98, 3) := by decide +kernel
theorem d_Rd_readsCode_71 : decode m_Rd_readsCode.2.1 71 = .ok (.ifCond .ne 5, 3) := by decide +kernel
theorem d_Rd_readsCode_74 : decode m_Rd_readsCode.2.1 74 = .ok (.iconst 0, 1) := by decide +kernel
theorem d_Rd_readsCode_75 : decode m_Rd_readsCode.2.1 75 = .ok (.ireturn, 1) := by decide +kernel
theorem d_Rd_readsCode_76 : decode m_Rd_readsCode.2.1 76 = .ok (.iinc 4 1, 3) := by decide +kernel
theorem d_Rd_readsCode_79 : decode m_Rd_readsCode.2.1 79 = .ok (.goto (-45), 3) := by decide +kernel
theorem d_Rd_readsCode_82 : decode m_Rd_readsCode.2.1 82 = .ok (.iconst 1, 1) := by decide +kernel
theorem d_Rd_readsCode_83 : decode m_Rd_readsCode.2.1 83 = .ok (.ireturn, 1) := by decide +kernel
theorem d_Rd_readsInstruction_0 : decode m_Rd_readsInstruction.2.1 0 = .ok (.aload_n 0, 1) := by decide +kernel
theorem d_Rd_readsInstruction_1 : decode m_Rd_readsInstruction.2.1 1 = .ok (.getfield 15, 3) := by decide +kernel
theorem d_Rd_readsInstruction_4 : decode m_Rd_readsInstruction.2.1 4 = .ok (.aload_n 1, 1) := by decide +kernel
theorem d_Rd_readsInstruction_5 : decode m_Rd_readsInstruction.2.1 5 = .ok (.getfield 43, 3) := by decide +kernel
theorem d_Rd_readsInstruction_8 : decode m_Rd_readsInstruction.2.1 8 = .ok (.if_icmp .ge 18, 3) := by decide +kernel
theorem d_Rd_readsInstruction_11 : decode m_Rd_readsInstruction.2.1 11 = .ok (.aload_n 1, 1) := by decide +kernel
theorem d_Rd_readsInstruction_12 : decode m_Rd_readsInstruction.2.1 12 = .ok (.getfield 46, 3) := by decide +kernel
theorem d_Rd_readsInstruction_15 : decode m_Rd_readsInstruction.2.1 15 = .ok (.aload_n 0, 1) := by decide +kernel
theorem d_Rd_readsInstruction_16 : decode m_Rd_readsInstruction.2.1 16 = .ok (.getfield 15, 3) := by decide +kernel
theorem d_Rd_readsInstruction_19 : decode m_Rd_readsInstruction.2.1 19 = .ok (.iaload, 1) := by decide +kernel
theorem d_Rd_readsInstruction_20 : decode m_Rd_readsInstruction.2.1 20 = .ok (.invokestatic 102, 3) := by decide +kernel
theorem d_Rd_readsInstruction_23 : decode m_Rd_readsInstruction.2.1 23 = .ok (.ifCond .ne 5, 3) := by decide +kernel
theorem d_Rd_readsInstruction_26 : decode m_Rd_readsInstruction.2.1 26 = .ok (.iconst 0, 1) := by decide +kernel
theorem d_Rd_readsInstruction_27 : decode m_Rd_readsInstruction.2.1 27 = .ok (.ireturn, 1) := by decide +kernel
theorem d_Rd_readsInstruction_28 : decode m_Rd_readsInstruction.2.1 28 = .ok (.aload_n 1, 1) := by decide +kernel
theorem d_Rd_readsInstruction_29 : decode m_Rd_readsInstruction.2.1 29 = .ok (.getfield 46, 3) := by decide +kernel
theorem d_Rd_readsInstruction_32 : decode m_Rd_readsInstruction.2.1 32 = .ok (.aload_n 0, 1) := by decide +kernel
theorem d_Rd_readsInstruction_33 : decode m_Rd_readsInstruction.2.1 33 = .ok (.getfield 15, 3) := by decide +kernel
theorem d_Rd_readsInstruction_36 : decode m_Rd_readsInstruction.2.1 36 = .ok (.iaload, 1) := by decide +kernel
theorem d_Rd_readsInstruction_37 : decode m_Rd_readsInstruction.2.1 37 = .ok (.istore 4, 2) := by decide +kernel
theorem d_Rd_readsInstruction_39 : decode m_Rd_readsInstruction.2.1 39 = .ok (.aload_n 0, 1) := by decide +kernel
theorem d_Rd_readsInstruction_40 : decode m_Rd_readsInstruction.2.1 40 = .ok (.dup, 1) := by decide +kernel
theorem d_Rd_readsInstruction_41 : decode m_Rd_readsInstruction.2.1 41 = .ok (.getfield 15, 3) := by decide +kernel
theorem d_Rd_readsInstruction_44 : decode m_Rd_readsInstruction.2.1 44 = .ok (.iconst 1, 1) := by decide +kernel
theorem d_Rd_readsInstruction_45 : decode m_Rd_readsInstruction.2.1 45 = .ok (.iadd, 1) := by decide +kernel
theorem d_Rd_readsInstruction_46 : decode m_Rd_readsInstruction.2.1 46 = .ok (.putfield 15, 3) := by decide +kernel
theorem d_Rd_readsInstruction_49 : decode m_Rd_readsInstruction.2.1 49 = .ok (.iconst 1, 1) := by decide +kernel
theorem d_Rd_readsInstruction_50 : decode m_Rd_readsInstruction.2.1 50 = .ok (.istore 5, 2) := by decide +kernel
theorem d_Rd_readsInstruction_52 : decode m_Rd_readsInstruction.2.1 52 = .ok (.iload 5, 2) := by decide +kernel
theorem d_Rd_readsInstruction_54 : decode m_Rd_readsInstruction.2.1 54 = .ok (.iload 4, 2) := by decide +kernel
theorem d_Rd_readsInstruction_56 : decode m_Rd_readsInstruction.2.1 56 = .ok (.invokestatic 102, 3) := by decide +kernel
theorem d_Rd_readsInstruction_59 : decode m_Rd_readsInstruction.2.1 59 = .ok (.if_icmp .ge 38, 3) := by decide +kernel
theorem d_Rd_readsInstruction_62 : decode m_Rd_readsInstruction.2.1 62 = .ok (.aload_n 0, 1) := by decide +kernel
theorem d_Rd_readsInstruction_63 : decode m_Rd_readsInstruction.2.1 63 = .ok (.getfield 15, 3) := by decide +kernel
theorem d_Rd_readsInstruction_66 : decode m_Rd_readsInstruction.2.1 66 = .ok (.iload_n 3, 1) := by decide +kernel
theorem d_Rd_readsInstruction_67 : decode m_Rd_readsInstruction.2.1 67 = .ok (.if_icmp .ge 22, 3) := by decide +kernel
theorem d_Rd_readsInstruction_70 : decode m_Rd_readsInstruction.2.1 70 = .ok (.aload_n 0, 1) := by decide +kernel
theorem d_Rd_readsInstruction_71 : decode m_Rd_readsInstruction.2.1 71 = .ok (.aload_n 1, 1) := by decide +kernel
theorem d_Rd_readsInstruction_72 : decode m_Rd_readsInstruction.2.1 72 = .ok (.iconst 0, 1) := by decide +kernel
theorem d_Rd_readsInstruction_73 : decode m_Rd_readsInstruction.2.1 73 = .ok (.aload_n 0, 1) := by decide +kernel
theorem d_Rd_readsInstruction_74 : decode m_Rd_readsInstruction.2.1 74 = .ok (.aload_n 1, 1) := by decide +kernel
theorem d_Rd_readsInstruction_75 : decode m_Rd_readsInstruction.2.1 75 = .ok (.aload_n 2, 1) := by decide +kernel
theorem d_Rd_readsInstruction_76 : decode m_Rd_readsInstruction.2.1 76 = .ok (.iload 4, 2) := by decide +kernel
theorem d_Rd_readsInstruction_78 : decode m_Rd_readsInstruction.2.1 78 = .ok (.iload 5, 2) := by decide +kernel
theorem d_Rd_readsInstruction_80 : decode m_Rd_readsInstruction.2.1 80 = .ok (.invokevirtual 108, 3) := by decide +kernel
theorem d_Rd_readsInstruction_83 : decode m_Rd_readsInstruction.2.1 83 = .ok (.invokevirtual 19, 3) := by decide +kernel
theorem d_Rd_readsInstruction_86 : decode m_Rd_readsInstruction.2.1 86 = .ok (.ifCond .ne 5, 3) := by decide +kernel
theorem d_Rd_readsInstruction_89 : decode m_Rd_readsInstruction.2.1 89 = .ok (.iconst 0, 1) := by decide +kernel
theorem d_Rd_readsInstruction_90 : decode m_Rd_readsInstruction.2.1 90 = .ok (.ireturn, 1) := by decide +kernel
theorem d_Rd_readsInstruction_91 : decode m_Rd_readsInstruction.2.1 91 = .ok (.iinc 5 1, 3) := by decide +kernel
theorem d_Rd_readsInstruction_94 : decode m_Rd_readsInstruction.2.1 94 = .ok (.goto (-42), 3) := by decide +kernel
theorem d_Rd_readsInstruction_97 : decode m_Rd_readsInstruction.2.1 97 = .ok (.iconst 1, 1) := by decide +kernel
theorem d_Rd_readsInstruction_98 : decode m_Rd_readsInstruction.2.1 98 = .ok (.ireturn, 1) := by decide +kernel
theorem d_Rd_highestOperand_0 : decode m_Rd_highestOperand.2.1 0 = .ok (.iload 4, 2) := by decide +kernel
theorem d_Rd_highestOperand_2 : decode m_Rd_highestOperand.2.1 2 = .ok (.iconst 1, 1) := by decide +kernel
theorem d_Rd_highestOperand_3 : decode m_Rd_highestOperand.2.1 3 = .ok (.if_icmp .ne 17, 3) := by decide +kernel
theorem d_Rd_highestOperand_6 : decode m_Rd_highestOperand.2.1 6 = .ok (.iload_n 3, 1) := by decide +kernel
theorem d_Rd_highestOperand_7 : decode m_Rd_highestOperand.2.1 7 = .ok (.invokestatic 112, 3) := by decide +kernel
theorem d_Rd_highestOperand_10 : decode m_Rd_highestOperand.2.1 10 = .ok (.ifCond .eq 10, 3) := by decide +kernel
theorem d_Rd_highestOperand_13 : decode m_Rd_highestOperand.2.1 13 = .ok (.aload_n 2, 1) := by decide +kernel
theorem d_Rd_highestOperand_14 : decode m_Rd_highestOperand.2.1 14 = .ok (.getfield 89, 3) := by decide +kernel
theorem d_Rd_highestOperand_17 : decode m_Rd_highestOperand.2.1 17 = .ok (.iconst 1, 1) := by decide +kernel
theorem d_Rd_highestOperand_18 : decode m_Rd_highestOperand.2.1 18 = .ok (.isub, 1) := by decide +kernel
theorem d_Rd_highestOperand_19 : decode m_Rd_highestOperand.2.1 19 = .ok (.ireturn, 1) := by decide +kernel
theorem d_Rd_highestOperand_20 : decode m_Rd_highestOperand.2.1 20 = .ok (.iload_n 3, 1) := by decide +kernel
theorem d_Rd_highestOperand_21 : decode m_Rd_highestOperand.2.1 21 = .ok (.bipush 18, 2) := by decide +kernel
theorem d_Rd_highestOperand_23 : decode m_Rd_highestOperand.2.1 23 = .ok (.if_icmp .ne 10, 3) := by decide +kernel
theorem d_Rd_highestOperand_26 : decode m_Rd_highestOperand.2.1 26 = .ok (.aload_n 1, 1) := by decide +kernel
theorem d_Rd_highestOperand_27 : decode m_Rd_highestOperand.2.1 27 = .ok (.getfield 50, 3) := by decide +kernel
theorem d_Rd_highestOperand_30 : decode m_Rd_highestOperand.2.1 30 = .ok (.iconst 1, 1) := by decide +kernel
theorem d_Rd_highestOperand_31 : decode m_Rd_highestOperand.2.1 31 = .ok (.isub, 1) := by decide +kernel
theorem d_Rd_highestOperand_32 : decode m_Rd_highestOperand.2.1 32 = .ok (.ireturn, 1) := by decide +kernel
theorem d_Rd_highestOperand_33 : decode m_Rd_highestOperand.2.1 33 = .ok (.iload_n 3, 1) := by decide +kernel
theorem d_Rd_highestOperand_34 : decode m_Rd_highestOperand.2.1 34 = .ok (.sipush 184, 3) := by decide +kernel
theorem d_Rd_highestOperand_37 : decode m_Rd_highestOperand.2.1 37 = .ok (.if_icmp .ne 12, 3) := by decide +kernel
theorem d_Rd_highestOperand_40 : decode m_Rd_highestOperand.2.1 40 = .ok (.aload_n 1, 1) := by decide +kernel
theorem d_Rd_highestOperand_41 : decode m_Rd_highestOperand.2.1 41 = .ok (.getfield 30, 3) := by decide +kernel
theorem d_Rd_highestOperand_44 : decode m_Rd_highestOperand.2.1 44 = .ok (.iconst 1, 1) := by decide +kernel
theorem d_Rd_highestOperand_45 : decode m_Rd_highestOperand.2.1 45 = .ok (.isub, 1) := by decide +kernel
theorem d_Rd_highestOperand_46 : decode m_Rd_highestOperand.2.1 46 = .ok (.goto 6, 3) := by decide +kernel
theorem d_Rd_highestOperand_49 : decode m_Rd_highestOperand.2.1 49 = .ok (.sipush 255, 3) := by decide +kernel
theorem d_Rd_highestOperand_52 : decode m_Rd_highestOperand.2.1 52 = .ok (.ireturn, 1) := by decide +kernel
theorem d_Rd_readsFrames_0 : decode m_Rd_readsFrames.2.1 0 = .ok (.aload_n 0, 1) := by decide +kernel
theorem d_Rd_readsFrames_1 : decode m_Rd_readsFrames.2.1 1 = .ok (.aload_n 1, 1) := by decide +kernel
theorem d_Rd_readsFrames_2 : decode m_Rd_readsFrames.2.1 2 = .ok (.iconst 0, 1) := by decide +kernel
theorem d_Rd_readsFrames_3 : decode m_Rd_readsFrames.2.1 3 = .ok (.bipush 8, 2) := by decide +kernel
theorem d_Rd_readsFrames_5 : decode m_Rd_readsFrames.2.1 5 = .ok (.invokevirtual 19, 3) := by decide +kernel
theorem d_Rd_readsFrames_8 : decode m_Rd_readsFrames.2.1 8 = .ok (.ifCond .ne 5, 3) := by decide +kernel
theorem d_Rd_readsFrames_11 : decode m_Rd_readsFrames.2.1 11 = .ok (.iconst 0, 1) := by decide +kernel
theorem d_Rd_readsFrames_12 : decode m_Rd_readsFrames.2.1 12 = .ok (.ireturn, 1) := by decide +kernel
theorem d_Rd_readsFrames_13 : decode m_Rd_readsFrames.2.1 13 = .ok (.aload_n 2, 1) := by decide +kernel
theorem d_Rd_readsFrames_14 : decode m_Rd_readsFrames.2.1 14 = .ok (.aload_n 0, 1) := by decide +kernel
theorem d_Rd_readsFrames_15 : decode m_Rd_readsFrames.2.1 15 = .ok (.getfield 27, 3) := by decide +kernel
theorem d_Rd_readsFrames_18 : decode m_Rd_readsFrames.2.1 18 = .ok (.putfield 116, 3) := by decide +kernel
theorem d_Rd_readsFrames_21 : decode m_Rd_readsFrames.2.1 21 = .ok (.iconst 0, 1) := by decide +kernel
theorem d_Rd_readsFrames_22 : decode m_Rd_readsFrames.2.1 22 = .ok (.istore_n 3, 1) := by decide +kernel
theorem d_Rd_readsFrames_23 : decode m_Rd_readsFrames.2.1 23 = .ok (.iconst 0, 1) := by decide +kernel
theorem d_Rd_readsFrames_24 : decode m_Rd_readsFrames.2.1 24 = .ok (.istore 4, 2) := by decide +kernel
theorem d_Rd_readsFrames_26 : decode m_Rd_readsFrames.2.1 26 = .ok (.iload 4, 2) := by decide +kernel
theorem d_Rd_readsFrames_28 : decode m_Rd_readsFrames.2.1 28 = .ok (.aload_n 2, 1) := by decide +kernel
theorem d_Rd_readsFrames_29 : decode m_Rd_readsFrames.2.1 29 = .ok (.getfield 116, 3) := by decide +kernel
theorem d_Rd_readsFrames_32 : decode m_Rd_readsFrames.2.1 32 = .ok (.if_icmp .ge 87, 3) := by decide +kernel
theorem d_Rd_readsFrames_35 : decode m_Rd_readsFrames.2.1 35 = .ok (.aload_n 2, 1) := by decide +kernel
theorem d_Rd_readsFrames_36 : decode m_Rd_readsFrames.2.1 36 = .ok (.getfield 119, 3) := by decide +kernel
theorem d_Rd_readsFrames_39 : decode m_Rd_readsFrames.2.1 39 = .ok (.iload 4, 2) := by decide +kernel
theorem d_Rd_readsFrames_41 : decode m_Rd_readsFrames.2.1 41 = .ok (.aload_n 0, 1) := by decide +kernel
theorem d_Rd_readsFrames_42 : decode m_Rd_readsFrames.2.1 42 = .ok (.getfield 15, 3) := by decide +kernel
theorem d_Rd_readsFrames_45 : decode m_Rd_readsFrames.2.1 45 = .ok (.iastore, 1) := by decide +kernel
theorem d_Rd_readsFrames_46 : decode m_Rd_readsFrames.2.1 46 = .ok (.aload_n 0, 1) := by decide +kernel
theorem d_Rd_readsFrames_47 : decode m_Rd_readsFrames.2.1 47 = .ok (.aload_n 1, 1) := by decide +kernel
theorem d_Rd_readsFrames_48 : decode m_Rd_readsFrames.2.1 48 = .ok (.iload_n 3, 1) := by decide +kernel
theorem d_Rd_readsFrames_49 : decode m_Rd_readsFrames.2.1 49 = .ok (.aload_n 2, 1) := by decide +kernel
theorem d_Rd_readsFrames_50 : decode m_Rd_readsFrames.2.1 50 = .ok (.getfield 92, 3) := by decide +kernel
theorem d_Rd_readsFrames_53 : decode m_Rd_readsFrames.2.1 53 = .ok (.iconst 1, 1) := by decide +kernel
theorem d_Rd_readsFrames_54 : decode m_Rd_readsFrames.2.1 54 = .ok (.isub, 1) := by decide +kernel
theorem d_Rd_readsFrames_55 : decode m_Rd_readsFrames.2.1 55 = .ok (.invokevirtual 19, 3) := by decide +kernel
theorem d_Rd_readsFrames_58 : decode m_Rd_readsFrames.2.1 58 = .ok (.ifCond .ne 5, 3) := by decide +kernel
theorem d_Rd_readsFrames_61 : decode m_Rd_readsFrames.2.1 61 = .ok (.iconst 0, 1) := by decide +kernel
theorem d_Rd_readsFrames_62 : decode m_Rd_readsFrames.2.1 62 = .ok (.ireturn, 1) := by decide +kernel
theorem d_Rd_readsFrames_63 : decode m_Rd_readsFrames.2.1 63 = .ok (.aload_n 0, 1) := by decide +kernel
theorem d_Rd_readsFrames_64 : decode m_Rd_readsFrames.2.1 64 = .ok (.getfield 27, 3) := by decide +kernel
theorem d_Rd_readsFrames_67 : decode m_Rd_readsFrames.2.1 67 = .ok (.iconst 1, 1) := by decide +kernel
theorem d_Rd_readsFrames_68 : decode m_Rd_readsFrames.2.1 68 = .ok (.iadd, 1) := by decide +kernel
theorem d_Rd_readsFrames_69 : decode m_Rd_readsFrames.2.1 69 = .ok (.istore_n 3, 1) := by decide +kernel
theorem d_Rd_readsFrames_70 : decode m_Rd_readsFrames.2.1 70 = .ok (.aload_n 0, 1) := by decide +kernel
theorem d_Rd_readsFrames_71 : decode m_Rd_readsFrames.2.1 71 = .ok (.aload_n 1, 1) := by decide +kernel
theorem d_Rd_readsFrames_72 : decode m_Rd_readsFrames.2.1 72 = .ok (.aload_n 2, 1) := by decide +kernel
theorem d_Rd_readsFrames_73 : decode m_Rd_readsFrames.2.1 73 = .ok (.getfield 89, 3) := by decide +kernel
theorem d_Rd_readsFrames_76 : decode m_Rd_readsFrames.2.1 76 = .ok (.iconst 0, 1) := by decide +kernel
theorem d_Rd_readsFrames_77 : decode m_Rd_readsFrames.2.1 77 = .ok (.iconst 3, 1) := by decide +kernel
theorem d_Rd_readsFrames_78 : decode m_Rd_readsFrames.2.1 78 = .ok (.invokevirtual 56, 3) := by decide +kernel
theorem d_Rd_readsFrames_81 : decode m_Rd_readsFrames.2.1 81 = .ok (.ifCond .eq 30, 3) := by decide +kernel
theorem d_Rd_readsFrames_84 : decode m_Rd_readsFrames.2.1 84 = .ok (.aload_n 0, 1) := by decide +kernel
theorem d_Rd_readsFrames_85 : decode m_Rd_readsFrames.2.1 85 = .ok (.aload_n 1, 1) := by decide +kernel
theorem d_Rd_readsFrames_86 : decode m_Rd_readsFrames.2.1 86 = .ok (.iconst 0, 1) := by decide +kernel
theorem d_Rd_readsFrames_87 : decode m_Rd_readsFrames.2.1 87 = .ok (.aload_n 2, 1) := by decide +kernel
theorem d_Rd_readsFrames_88 : decode m_Rd_readsFrames.2.1 88 = .ok (.getfield 86, 3) := by decide +kernel
theorem d_Rd_readsFrames_91 : decode m_Rd_readsFrames.2.1 91 = .ok (.invokevirtual 19, 3) := by decide +kernel
theorem d_Rd_readsFrames_94 : decode m_Rd_readsFrames.2.1 94 = .ok (.ifCond .eq 17, 3) := by decide +kernel
theorem d_Rd_readsFrames_97 : decode m_Rd_readsFrames.2.1 97 = .ok (.aload_n 0, 1) := by decide +kernel
theorem d_Rd_readsFrames_98 : decode m_Rd_readsFrames.2.1 98 = .ok (.aload_n 1, 1) := by decide +kernel
theorem d_Rd_readsFrames_99 : decode m_Rd_readsFrames.2.1 99 = .ok (.aload_n 0, 1) := by decide +kernel
theorem d_Rd_readsFrames_100 : decode m_Rd_readsFrames.2.1 100 = .ok (.getfield 27, 3) := by decide +kernel
theorem d_Rd_readsFrames_103 : decode m_Rd_readsFrames.2.1 103 = .ok (.iconst 1, 1) := by decide +kernel
theorem d_Rd_readsFrames_104 : decode m_Rd_readsFrames.2.1 104 = .ok (.iconst 3, 1) := by decide +kernel
theorem d_Rd_readsFrames_105 : decode m_Rd_readsFrames.2.1 105 = .ok (.invokevirtual 56, 3) := by decide +kernel
theorem d_Rd_readsFrames_108 : decode m_Rd_readsFrames.2.1 108 = .ok (.ifCond .ne 5, 3) := by decide +kernel
theorem d_Rd_readsFrames_111 : decode m_Rd_readsFrames.2.1 111 = .ok (.iconst 0, 1) := by decide +kernel
theorem d_Rd_readsFrames_112 : decode m_Rd_readsFrames.2.1 112 = .ok (.ireturn, 1) := by decide +kernel
theorem d_Rd_readsFrames_113 : decode m_Rd_readsFrames.2.1 113 = .ok (.iinc 4 1, 3) := by decide +kernel
theorem d_Rd_readsFrames_116 : decode m_Rd_readsFrames.2.1 116 = .ok (.goto (-90), 3) := by decide +kernel
theorem d_Rd_readsFrames_119 : decode m_Rd_readsFrames.2.1 119 = .ok (.iconst 1, 1) := by decide +kernel
theorem d_Rd_readsFrames_120 : decode m_Rd_readsFrames.2.1 120 = .ok (.ireturn, 1) := by decide +kernel
theorem d_Rd_targetsBegin_0 : decode m_Rd_targetsBegin.2.1 0 = .ok (.iconst 0, 1) := by decide +kernel
theorem d_Rd_targetsBegin_1 : decode m_Rd_targetsBegin.2.1 1 = .ok (.istore_n 3, 1) := by decide +kernel
theorem d_Rd_targetsBegin_2 : decode m_Rd_targetsBegin.2.1 2 = .ok (.iload_n 3, 1) := by decide +kernel
theorem d_Rd_targetsBegin_3 : decode m_Rd_targetsBegin.2.1 3 = .ok (.aload_n 2, 1) := by decide +kernel
theorem d_Rd_targetsBegin_4 : decode m_Rd_targetsBegin.2.1 4 = .ok (.getfield 92, 3) := by decide +kernel
theorem d_Rd_targetsBegin_7 : decode m_Rd_targetsBegin.2.1 7 = .ok (.if_icmp .ge 46, 3) := by decide +kernel
theorem d_Rd_targetsBegin_10 : decode m_Rd_targetsBegin.2.1 10 = .ok (.aload_n 0, 1) := by decide +kernel
theorem d_Rd_targetsBegin_11 : decode m_Rd_targetsBegin.2.1 11 = .ok (.getfield 9, 3) := by decide +kernel
theorem d_Rd_targetsBegin_14 : decode m_Rd_targetsBegin.2.1 14 = .ok (.iload_n 3, 1) := by decide +kernel
theorem d_Rd_targetsBegin_15 : decode m_Rd_targetsBegin.2.1 15 = .ok (.baload, 1) := by decide +kernel
theorem d_Rd_targetsBegin_16 : decode m_Rd_targetsBegin.2.1 16 = .ok (.ifCond .eq 31, 3) := by decide +kernel
theorem d_Rd_targetsBegin_19 : decode m_Rd_targetsBegin.2.1 19 = .ok (.aload_n 1, 1) := by decide +kernel
theorem d_Rd_targetsBegin_20 : decode m_Rd_targetsBegin.2.1 20 = .ok (.aload_n 2, 1) := by decide +kernel
theorem d_Rd_targetsBegin_21 : decode m_Rd_targetsBegin.2.1 21 = .ok (.iload_n 3, 1) := by decide +kernel
theorem d_Rd_targetsBegin_22 : decode m_Rd_targetsBegin.2.1 22 = .ok (.invokevirtual 122, 3) := by decide +kernel
theorem d_Rd_targetsBegin_25 : decode m_Rd_targetsBegin.2.1 25 = .ok (.invokestatic 126, 3) := by decide +kernel
theorem d_Rd_targetsBegin_28 : decode m_Rd_targetsBegin.2.1 28 = .ok (.ifCond .eq 19, 3) := by decide +kernel
theorem d_Rd_targetsBegin_31 : decode m_Rd_targetsBegin.2.1 31 = .ok (.aload_n 0, 1) := by decide +kernel
theorem d_Rd_targetsBegin_32 : decode m_Rd_targetsBegin.2.1 32 = .ok (.aload_n 2, 1) := by decide +kernel
theorem d_Rd_targetsBegin_33 : decode m_Rd_targetsBegin.2.1 33 = .ok (.aload_n 1, 1) := by decide +kernel
theorem d_Rd_targetsBegin_34 : decode m_Rd_targetsBegin.2.1 34 = .ok (.aload_n 2, 1) := by decide +kernel
theorem d_Rd_targetsBegin_35 : decode m_Rd_targetsBegin.2.1 35 = .ok (.iload_n 3, 1) := by decide +kernel
theorem d_Rd_targetsBegin_36 : decode m_Rd_targetsBegin.2.1 36 = .ok (.invokevirtual 129, 3) := by decide +kernel
theorem d_Rd_targetsBegin_39 : decode m_Rd_targetsBegin.2.1 39 = .ok (.invokevirtual 132, 3) := by decide +kernel
theorem d_Rd_targetsBegin_42 : decode m_Rd_targetsBegin.2.1 42 = .ok (.ifCond .ne 5, 3) := by decide +kernel
theorem d_Rd_targetsBegin_45 : decode m_Rd_targetsBegin.2.1 45 = .ok (.iconst 0, 1) := by decide +kernel
theorem d_Rd_targetsBegin_46 : decode m_Rd_targetsBegin.2.1 46 = .ok (.ireturn, 1) := by decide +kernel
theorem d_Rd_targetsBegin_47 : decode m_Rd_targetsBegin.2.1 47 = .ok (.iinc 3 1, 3) := by decide +kernel
theorem d_Rd_targetsBegin_50 : decode m_Rd_targetsBegin.2.1 50 = .ok (.goto (-48), 3) := by decide +kernel
theorem d_Rd_targetsBegin_53 : decode m_Rd_targetsBegin.2.1 53 = .ok (.iconst 1, 1) := by decide +kernel
theorem d_Rd_targetsBegin_54 : decode m_Rd_targetsBegin.2.1 54 = .ok (.ireturn, 1) := by decide +kernel
theorem d_Rd_framesBegin_0 : decode m_Rd_framesBegin.2.1 0 = .ok (.iconst 0, 1) := by decide +kernel
theorem d_Rd_framesBegin_1 : decode m_Rd_framesBegin.2.1 1 = .ok (.istore_n 3, 1) := by decide +kernel
theorem d_Rd_framesBegin_2 : decode m_Rd_framesBegin.2.1 2 = .ok (.iload_n 3, 1) := by decide +kernel
theorem d_Rd_framesBegin_3 : decode m_Rd_framesBegin.2.1 3 = .ok (.aload_n 2, 1) := by decide +kernel
theorem d_Rd_framesBegin_4 : decode m_Rd_framesBegin.2.1 4 = .ok (.getfield 116, 3) := by decide +kernel
theorem d_Rd_framesBegin_7 : decode m_Rd_framesBegin.2.1 7 = .ok (.if_icmp .ge 25, 3) := by decide +kernel
theorem d_Rd_framesBegin_10 : decode m_Rd_framesBegin.2.1 10 = .ok (.aload_n 0, 1) := by decide +kernel
theorem d_Rd_framesBegin_11 : decode m_Rd_framesBegin.2.1 11 = .ok (.aload_n 2, 1) := by decide +kernel
theorem d_Rd_framesBegin_12 : decode m_Rd_framesBegin.2.1 12 = .ok (.aload_n 1, 1) := by decide +kernel
theorem d_Rd_framesBegin_13 : decode m_Rd_framesBegin.2.1 13 = .ok (.aload_n 2, 1) := by decide +kernel
theorem d_Rd_framesBegin_14 : decode m_Rd_framesBegin.2.1 14 = .ok (.iload_n 3, 1) := by decide +kernel
theorem d_Rd_framesBegin_15 : decode m_Rd_framesBegin.2.1 15 = .ok (.invokevirtual 136, 3) := by decide +kernel
theorem d_Rd_framesBegin_18 : decode m_Rd_framesBegin.2.1 18 = .ok (.invokevirtual 132, 3) := by decide +kernel
theorem d_Rd_framesBegin_21 : decode m_Rd_framesBegin.2.1 21 = .ok (.ifCond .ne 5, 3) := by decide +kernel
theorem d_Rd_framesBegin_24 : decode m_Rd_framesBegin.2.1 24 = .ok (.iconst 0, 1) := by decide +kernel
theorem d_Rd_framesBegin_25 : decode m_Rd_framesBegin.2.1 25 = .ok (.ireturn, 1) := by decide +kernel
theorem d_Rd_framesBegin_26 : decode m_Rd_framesBegin.2.1 26 = .ok (.iinc 3 1, 3) := by decide +kernel
theorem d_Rd_framesBegin_29 : decode m_Rd_framesBegin.2.1 29 = .ok (.goto (-27), 3) := by decide +kernel
theorem d_Rd_framesBegin_32 : decode m_Rd_framesBegin.2.1 32 = .ok (.iconst 1, 1) := by decide +kernel
theorem d_Rd_framesBegin_33 : decode m_Rd_framesBegin.2.1 33 = .ok (.ireturn, 1) := by decide +kernel
theorem d_Rd_beginsAt_0 : decode m_Rd_beginsAt.2.1 0 = .ok (.iload_n 2, 1) := by decide +kernel
theorem d_Rd_beginsAt_1 : decode m_Rd_beginsAt.2.1 1 = .ok (.ifCond .lt 24, 3) := by decide +kernel
theorem d_Rd_beginsAt_4 : decode m_Rd_beginsAt.2.1 4 = .ok (.iload_n 2, 1) := by decide +kernel
theorem d_Rd_beginsAt_5 : decode m_Rd_beginsAt.2.1 5 = .ok (.aload_n 1, 1) := by decide +kernel
theorem d_Rd_beginsAt_6 : decode m_Rd_beginsAt.2.1 6 = .ok (.getfield 92, 3) := by decide +kernel
theorem d_Rd_beginsAt_9 : decode m_Rd_beginsAt.2.1 9 = .ok (.if_icmp .ge 16, 3) := by decide +kernel
theorem d_Rd_beginsAt_12 : decode m_Rd_beginsAt.2.1 12 = .ok (.aload_n 0, 1) := by decide +kernel
theorem d_Rd_beginsAt_13 : decode m_Rd_beginsAt.2.1 13 = .ok (.getfield 9, 3) := by decide +kernel
theorem d_Rd_beginsAt_16 : decode m_Rd_beginsAt.2.1 16 = .ok (.iload_n 2, 1) := by decide +kernel
theorem d_Rd_beginsAt_17 : decode m_Rd_beginsAt.2.1 17 = .ok (.baload, 1) := by decide +kernel
theorem d_Rd_beginsAt_18 : decode m_Rd_beginsAt.2.1 18 = .ok (.ifCond .eq 7, 3) := by decide +kernel
theorem d_Rd_beginsAt_21 : decode m_Rd_beginsAt.2.1 21 = .ok (.iconst 1, 1) := by decide +kernel
theorem d_Rd_beginsAt_22 : decode m_Rd_beginsAt.2.1 22 = .ok (.goto 4, 3) := by decide +kernel
theorem d_Rd_beginsAt_25 : decode m_Rd_beginsAt.2.1 25 = .ok (.iconst 0, 1) := by decide +kernel
theorem d_Rd_beginsAt_26 : decode m_Rd_beginsAt.2.1 26 = .ok (.ireturn, 1) := by decide +kernel
theorem d_St_makeEmpty_0 : decode m_St_makeEmpty.2.1 0 = .ok (.iconst 0, 1) := by decide +kernel
theorem d_St_makeEmpty_1 : decode m_St_makeEmpty.2.1 1 = .ok (.istore_n 1, 1) := by decide +kernel
theorem d_St_makeEmpty_2 : decode m_St_makeEmpty.2.1 2 = .ok (.iload_n 1, 1) := by decide +kernel
theorem d_St_makeEmpty_3 : decode m_St_makeEmpty.2.1 3 = .ok (.bipush 6, 2) := by decide +kernel
theorem d_St_makeEmpty_5 : decode m_St_makeEmpty.2.1 5 = .ok (.if_icmp .ge 16, 3) := by decide +kernel
theorem d_St_makeEmpty_8 : decode m_St_makeEmpty.2.1 8 = .ok (.aload_n 0, 1) := by decide +kernel
theorem d_St_makeEmpty_9 : decode m_St_makeEmpty.2.1 9 = .ok (.iload_n 1, 1) := by decide +kernel
theorem d_St_makeEmpty_10 : decode m_St_makeEmpty.2.1 10 = .ok (.iconst 0, 1) := by decide +kernel
theorem d_St_makeEmpty_11 : decode m_St_makeEmpty.2.1 11 = .ok (.iconst 0, 1) := by decide +kernel
theorem d_St_makeEmpty_12 : decode m_St_makeEmpty.2.1 12 = .ok (.invokevirtual 24, 3) := by decide +kernel
theorem d_St_makeEmpty_15 : decode m_St_makeEmpty.2.1 15 = .ok (.iinc 1 1, 3) := by decide +kernel
theorem d_St_makeEmpty_18 : decode m_St_makeEmpty.2.1 18 = .ok (.goto (-16), 3) := by decide +kernel
theorem d_St_makeEmpty_21 : decode m_St_makeEmpty.2.1 21 = .ok (.aload_n 0, 1) := by decide +kernel
theorem d_St_makeEmpty_22 : decode m_St_makeEmpty.2.1 22 = .ok (.iconst 0, 1) := by decide +kernel
theorem d_St_makeEmpty_23 : decode m_St_makeEmpty.2.1 23 = .ok (.putfield 28, 3) := by decide +kernel
theorem d_St_makeEmpty_26 : decode m_St_makeEmpty.2.1 26 = .ok (.return_, 1) := by decide +kernel
theorem d_St_setPlace_0 : decode m_St_setPlace.2.1 0 = .ok (.aload_n 0, 1) := by decide +kernel
theorem d_St_setPlace_1 : decode m_St_setPlace.2.1 1 = .ok (.getfield 9, 3) := by decide +kernel
theorem d_St_setPlace_4 : decode m_St_setPlace.2.1 4 = .ok (.iload_n 1, 1) := by decide +kernel
theorem d_St_setPlace_5 : decode m_St_setPlace.2.1 5 = .ok (.iload_n 2, 1) := by decide +kernel
theorem d_St_setPlace_6 : decode m_St_setPlace.2.1 6 = .ok (.iastore, 1) := by decide +kernel
theorem d_St_setPlace_7 : decode m_St_setPlace.2.1 7 = .ok (.aload_n 0, 1) := by decide +kernel
theorem d_St_setPlace_8 : decode m_St_setPlace.2.1 8 = .ok (.getfield 15, 3) := by decide +kernel
theorem d_St_setPlace_11 : decode m_St_setPlace.2.1 11 = .ok (.iload_n 1, 1) := by decide +kernel
theorem d_St_setPlace_12 : decode m_St_setPlace.2.1 12 = .ok (.iload_n 3, 1) := by decide +kernel
theorem d_St_setPlace_13 : decode m_St_setPlace.2.1 13 = .ok (.iastore, 1) := by decide +kernel
theorem d_St_setPlace_14 : decode m_St_setPlace.2.1 14 = .ok (.return_, 1) := by decide +kernel
theorem d_St_put_0 : decode m_St_put.2.1 0 = .ok (.aload_n 0, 1) := by decide +kernel
theorem d_St_put_1 : decode m_St_put.2.1 1 = .ok (.getfield 18, 3) := by decide +kernel
theorem d_St_put_4 : decode m_St_put.2.1 4 = .ok (.aload_n 0, 1) := by decide +kernel
theorem d_St_put_5 : decode m_St_put.2.1 5 = .ok (.getfield 28, 3) := by decide +kernel
theorem d_St_put_8 : decode m_St_put.2.1 8 = .ok (.iload_n 1, 1) := by decide +kernel
theorem d_St_put_9 : decode m_St_put.2.1 9 = .ok (.iastore, 1) := by decide +kernel
theorem d_St_put_10 : decode m_St_put.2.1 10 = .ok (.aload_n 0, 1) := by decide +kernel
theorem d_St_put_11 : decode m_St_put.2.1 11 = .ok (.getfield 21, 3) := by decide +kernel
theorem d_St_put_14 : decode m_St_put.2.1 14 = .ok (.aload_n 0, 1) := by decide +kernel
theorem d_St_put_15 : decode m_St_put.2.1 15 = .ok (.getfield 28, 3) := by decide +kernel
theorem d_St_put_18 : decode m_St_put.2.1 18 = .ok (.iload_n 2, 1) := by decide +kernel
theorem d_St_put_19 : decode m_St_put.2.1 19 = .ok (.iastore, 1) := by decide +kernel
theorem d_St_put_20 : decode m_St_put.2.1 20 = .ok (.aload_n 0, 1) := by decide +kernel
theorem d_St_put_21 : decode m_St_put.2.1 21 = .ok (.dup, 1) := by decide +kernel
theorem d_St_put_22 : decode m_St_put.2.1 22 = .ok (.getfield 28, 3) := by decide +kernel
theorem d_St_put_25 : decode m_St_put.2.1 25 = .ok (.iconst 1, 1) := by decide +kernel
theorem d_St_put_26 : decode m_St_put.2.1 26 = .ok (.iadd, 1) := by decide +kernel
theorem d_St_put_27 : decode m_St_put.2.1 27 = .ok (.putfield 28, 3) := by decide +kernel
theorem d_St_put_30 : decode m_St_put.2.1 30 = .ok (.return_, 1) := by decide +kernel
theorem d_St_take_0 : decode m_St_take.2.1 0 = .ok (.aload_n 0, 1) := by decide +kernel
theorem d_St_take_1 : decode m_St_take.2.1 1 = .ok (.dup, 1) := by decide +kernel
theorem d_St_take_2 : decode m_St_take.2.1 2 = .ok (.getfield 28, 3) := by decide +kernel
theorem d_St_take_5 : decode m_St_take.2.1 5 = .ok (.iconst 1, 1) := by decide +kernel
theorem d_St_take_6 : decode m_St_take.2.1 6 = .ok (.isub, 1) := by decide +kernel
theorem d_St_take_7 : decode m_St_take.2.1 7 = .ok (.putfield 28, 3) := by decide +kernel
theorem d_St_take_10 : decode m_St_take.2.1 10 = .ok (.aload_n 0, 1) := by decide +kernel
theorem d_St_take_11 : decode m_St_take.2.1 11 = .ok (.getfield 21, 3) := by decide +kernel
theorem d_St_take_14 : decode m_St_take.2.1 14 = .ok (.aload_n 0, 1) := by decide +kernel
theorem d_St_take_15 : decode m_St_take.2.1 15 = .ok (.getfield 28, 3) := by decide +kernel
theorem d_St_take_18 : decode m_St_take.2.1 18 = .ok (.iaload, 1) := by decide +kernel
theorem d_St_take_19 : decode m_St_take.2.1 19 = .ok (.ireturn, 1) := by decide +kernel
theorem d_St_kindTaken_0 : decode m_St_kindTaken.2.1 0 = .ok (.aload_n 0, 1) := by decide +kernel
theorem d_St_kindTaken_1 : decode m_St_kindTaken.2.1 1 = .ok (.getfield 18, 3) := by decide +kernel
theorem d_St_kindTaken_4 : decode m_St_kindTaken.2.1 4 = .ok (.aload_n 0, 1) := by decide +kernel
theorem d_St_kindTaken_5 : decode m_St_kindTaken.2.1 5 = .ok (.getfield 28, 3) := by decide +kernel
theorem d_St_kindTaken_8 : decode m_St_kindTaken.2.1 8 = .ok (.iaload, 1) := by decide +kernel
theorem d_St_kindTaken_9 : decode m_St_kindTaken.2.1 9 = .ok (.ireturn, 1) := by decide +kernel
theorem d_St_kindBelow_0 : decode m_St_kindBelow.2.1 0 = .ok (.aload_n 0, 1) := by decide +kernel
theorem d_St_kindBelow_1 : decode m_St_kindBelow.2.1 1 = .ok (.getfield 18, 3) := by decide +kernel
theorem d_St_kindBelow_4 : decode m_St_kindBelow.2.1 4 = .ok (.aload_n 0, 1) := by decide +kernel
theorem d_St_kindBelow_5 : decode m_St_kindBelow.2.1 5 = .ok (.getfield 28, 3) := by decide +kernel
theorem d_St_kindBelow_8 : decode m_St_kindBelow.2.1 8 = .ok (.iconst 1, 1) := by decide +kernel
theorem d_St_kindBelow_9 : decode m_St_kindBelow.2.1 9 = .ok (.isub, 1) := by decide +kernel
theorem d_St_kindBelow_10 : decode m_St_kindBelow.2.1 10 = .ok (.iload_n 1, 1) := by decide +kernel
theorem d_St_kindBelow_11 : decode m_St_kindBelow.2.1 11 = .ok (.isub, 1) := by decide +kernel
theorem d_St_kindBelow_12 : decode m_St_kindBelow.2.1 12 = .ok (.iaload, 1) := by decide +kernel
theorem d_St_kindBelow_13 : decode m_St_kindBelow.2.1 13 = .ok (.ireturn, 1) := by decide +kernel
theorem d_St_valueBelow_0 : decode m_St_valueBelow.2.1 0 = .ok (.aload_n 0, 1) := by decide +kernel
theorem d_St_valueBelow_1 : decode m_St_valueBelow.2.1 1 = .ok (.getfield 21, 3) := by decide +kernel
theorem d_St_valueBelow_4 : decode m_St_valueBelow.2.1 4 = .ok (.aload_n 0, 1) := by decide +kernel
theorem d_St_valueBelow_5 : decode m_St_valueBelow.2.1 5 = .ok (.getfield 28, 3) := by decide +kernel
theorem d_St_valueBelow_8 : decode m_St_valueBelow.2.1 8 = .ok (.iconst 1, 1) := by decide +kernel
theorem d_St_valueBelow_9 : decode m_St_valueBelow.2.1 9 = .ok (.isub, 1) := by decide +kernel
theorem d_St_valueBelow_10 : decode m_St_valueBelow.2.1 10 = .ok (.iload_n 1, 1) := by decide +kernel
theorem d_St_valueBelow_11 : decode m_St_valueBelow.2.1 11 = .ok (.isub, 1) := by decide +kernel
theorem d_St_valueBelow_12 : decode m_St_valueBelow.2.1 12 = .ok (.iaload, 1) := by decide +kernel
theorem d_St_valueBelow_13 : decode m_St_valueBelow.2.1 13 = .ok (.ireturn, 1) := by decide +kernel
theorem d_St_putAgain_0 : decode m_St_putAgain.2.1 0 = .ok (.aload_n 0, 1) := by decide +kernel
theorem d_St_putAgain_1 : decode m_St_putAgain.2.1 1 = .ok (.aload_n 0, 1) := by decide +kernel
theorem d_St_putAgain_2 : decode m_St_putAgain.2.1 2 = .ok (.iconst 0, 1) := by decide +kernel
theorem d_St_putAgain_3 : decode m_St_putAgain.2.1 3 = .ok (.invokevirtual 32, 3) := by decide +kernel
theorem d_St_putAgain_6 : decode m_St_putAgain.2.1 6 = .ok (.aload_n 0, 1) := by decide +kernel
theorem d_St_putAgain_7 : decode m_St_putAgain.2.1 7 = .ok (.iconst 0, 1) := by decide +kernel
theorem d_St_putAgain_8 : decode m_St_putAgain.2.1 8 = .ok (.invokevirtual 36, 3) := by decide +kernel
theorem d_St_putAgain_11 : decode m_St_putAgain.2.1 11 = .ok (.invokevirtual 39, 3) := by decide +kernel
theorem d_St_putAgain_14 : decode m_St_putAgain.2.1 14 = .ok (.return_, 1) := by decide +kernel
theorem d_St_exchange_0 : decode m_St_exchange.2.1 0 = .ok (.aload_n 0, 1) := by decide +kernel
theorem d_St_exchange_1 : decode m_St_exchange.2.1 1 = .ok (.invokevirtual 43, 3) := by decide +kernel
theorem d_St_exchange_4 : decode m_St_exchange.2.1 4 = .ok (.istore_n 1, 1) := by decide +kernel
theorem d_St_exchange_5 : decode m_St_exchange.2.1 5 = .ok (.aload_n 0, 1) := by decide +kernel
theorem d_St_exchange_6 : decode m_St_exchange.2.1 6 = .ok (.invokevirtual 47, 3) := by decide +kernel
theorem d_St_exchange_9 : decode m_St_exchange.2.1 9 = .ok (.istore_n 2, 1) := by decide +kernel
theorem d_St_exchange_10 : decode m_St_exchange.2.1 10 = .ok (.aload_n 0, 1) := by decide +kernel
theorem d_St_exchange_11 : decode m_St_exchange.2.1 11 = .ok (.invokevirtual 43, 3) := by decide +kernel
theorem d_St_exchange_14 : decode m_St_exchange.2.1 14 = .ok (.istore_n 3, 1) := by decide +kernel
theorem d_St_exchange_15 : decode m_St_exchange.2.1 15 = .ok (.aload_n 0, 1) := by decide +kernel
theorem d_St_exchange_16 : decode m_St_exchange.2.1 16 = .ok (.invokevirtual 47, 3) := by decide +kernel
theorem d_St_exchange_19 : decode m_St_exchange.2.1 19 = .ok (.istore 4, 2) := by decide +kernel
theorem d_St_exchange_21 : decode m_St_exchange.2.1 21 = .ok (.aload_n 0, 1) := by decide +kernel
theorem d_St_exchange_22 : decode m_St_exchange.2.1 22 = .ok (.iload_n 2, 1) := by decide +kernel
theorem d_St_exchange_23 : decode m_St_exchange.2.1 23 = .ok (.iload_n 1, 1) := by decide +kernel
theorem d_St_exchange_24 : decode m_St_exchange.2.1 24 = .ok (.invokevirtual 39, 3) := by decide +kernel
theorem d_St_exchange_27 : decode m_St_exchange.2.1 27 = .ok (.aload_n 0, 1) := by decide +kernel
theorem d_St_exchange_28 : decode m_St_exchange.2.1 28 = .ok (.iload 4, 2) := by decide +kernel
theorem d_St_exchange_30 : decode m_St_exchange.2.1 30 = .ok (.iload_n 3, 1) := by decide +kernel
theorem d_St_exchange_31 : decode m_St_exchange.2.1 31 = .ok (.invokevirtual 39, 3) := by decide +kernel
theorem d_St_exchange_34 : decode m_St_exchange.2.1 34 = .ok (.return_, 1) := by decide +kernel
theorem d_St_moveToPlace_0 : decode m_St_moveToPlace.2.1 0 = .ok (.aload_n 0, 1) := by decide +kernel
theorem d_St_moveToPlace_1 : decode m_St_moveToPlace.2.1 1 = .ok (.invokevirtual 43, 3) := by decide +kernel
theorem d_St_moveToPlace_4 : decode m_St_moveToPlace.2.1 4 = .ok (.istore_n 2, 1) := by decide +kernel
theorem d_St_moveToPlace_5 : decode m_St_moveToPlace.2.1 5 = .ok (.aload_n 0, 1) := by decide +kernel
theorem d_St_moveToPlace_6 : decode m_St_moveToPlace.2.1 6 = .ok (.iload_n 1, 1) := by decide +kernel
theorem d_St_moveToPlace_7 : decode m_St_moveToPlace.2.1 7 = .ok (.aload_n 0, 1) := by decide +kernel
theorem d_St_moveToPlace_8 : decode m_St_moveToPlace.2.1 8 = .ok (.invokevirtual 47, 3) := by decide +kernel
theorem d_St_moveToPlace_11 : decode m_St_moveToPlace.2.1 11 = .ok (.iload_n 2, 1) := by decide +kernel
end
section
theorem d_St_moveToPlace_12 : decode m_St_moveToPlace.2.1 12 = .ok (.invokevirtual 24, 3) := by decide +kernel
theorem d_St_moveToPlace_15 : decode m_St_moveToPlace.2.1 15 = .ok (.return_, 1) := by decide +kernel
theorem d_St_putPlace_0 : decode m_St_putPlace.2.1 0 = .ok (.aload_n 0, 1) := by decide +kernel
theorem d_St_putPlace_1 : decode m_St_putPlace.2.1 1 = .ok (.aload_n 0, 1) := by decide +kernel
theorem d_St_putPlace_2 : decode m_St_putPlace.2.1 2 = .ok (.getfield 9, 3) := by decide +kernel
theorem d_St_putPlace_5 : decode m_St_putPlace.2.1 5 = .ok (.iload_n 1, 1) := by decide +kernel
theorem d_St_putPlace_6 : decode m_St_putPlace.2.1 6 = .ok (.iaload, 1) := by decide +kernel
theorem d_St_putPlace_7 : decode m_St_putPlace.2.1 7 = .ok (.aload_n 0, 1) := by decide +kernel
theorem d_St_putPlace_8 : decode m_St_putPlace.2.1 8 = .ok (.getfield 15, 3) := by decide +kernel
theorem d_St_putPlace_11 : decode m_St_putPlace.2.1 11 = .ok (.iload_n 1, 1) := by decide +kernel
theorem d_St_putPlace_12 : decode m_St_putPlace.2.1 12 = .ok (.iaload, 1) := by decide +kernel
theorem d_St_putPlace_13 : decode m_St_putPlace.2.1 13 = .ok (.invokevirtual 39, 3) := by decide +kernel
theorem d_St_putPlace_16 : decode m_St_putPlace.2.1 16 = .ok (.return_, 1) := by decide +kernel
theorem d_St_allows_0 : decode m_St_allows.2.1 0 = .ok (.aload_n 1, 1) := by decide +kernel
theorem d_St_allows_1 : decode m_St_allows.2.1 1 = .ok (.aload_n 2, 1) := by decide +kernel
theorem d_St_allows_2 : decode m_St_allows.2.1 2 = .ok (.iload_n 3, 1) := by decide +kernel
theorem d_St_allows_3 : decode m_St_allows.2.1 3 = .ok (.invokevirtual 50, 3) := by decide +kernel
theorem d_St_allows_6 : decode m_St_allows.2.1 6 = .ok (.istore 4, 2) := by decide +kernel
theorem d_St_allows_8 : decode m_St_allows.2.1 8 = .ok (.aload_n 1, 1) := by decide +kernel
theorem d_St_allows_9 : decode m_St_allows.2.1 9 = .ok (.aload_n 2, 1) := by decide +kernel
theorem d_St_allows_10 : decode m_St_allows.2.1 10 = .ok (.iload_n 3, 1) := by decide +kernel
theorem d_St_allows_11 : decode m_St_allows.2.1 11 = .ok (.invokevirtual 56, 3) := by decide +kernel
theorem d_St_allows_14 : decode m_St_allows.2.1 14 = .ok (.istore 5, 2) := by decide +kernel
theorem d_St_allows_16 : decode m_St_allows.2.1 16 = .ok (.aload_n 0, 1) := by decide +kernel
theorem d_St_allows_17 : decode m_St_allows.2.1 17 = .ok (.getfield 28, 3) := by decide +kernel
theorem d_St_allows_20 : decode m_St_allows.2.1 20 = .ok (.iload 5, 2) := by decide +kernel
theorem d_St_allows_22 : decode m_St_allows.2.1 22 = .ok (.if_icmp .lt 70, 3) := by decide +kernel
theorem d_St_allows_25 : decode m_St_allows.2.1 25 = .ok (.aload_n 0, 1) := by decide +kernel
theorem d_St_allows_26 : decode m_St_allows.2.1 26 = .ok (.aload_n 1, 1) := by decide +kernel
theorem d_St_allows_27 : decode m_St_allows.2.1 27 = .ok (.aload_n 2, 1) := by decide +kernel
theorem d_St_allows_28 : decode m_St_allows.2.1 28 = .ok (.iload_n 3, 1) := by decide +kernel
theorem d_St_allows_29 : decode m_St_allows.2.1 29 = .ok (.iload 5, 2) := by decide +kernel
theorem d_St_allows_31 : decode m_St_allows.2.1 31 = .ok (.invokevirtual 59, 3) := by decide +kernel
theorem d_St_allows_34 : decode m_St_allows.2.1 34 = .ok (.ifCond .eq 58, 3) := by decide +kernel
theorem d_St_allows_37 : decode m_St_allows.2.1 37 = .ok (.aload_n 0, 1) := by decide +kernel
theorem d_St_allows_38 : decode m_St_allows.2.1 38 = .ok (.aload_n 1, 1) := by decide +kernel
theorem d_St_allows_39 : decode m_St_allows.2.1 39 = .ok (.aload_n 2, 1) := by decide +kernel
theorem d_St_allows_40 : decode m_St_allows.2.1 40 = .ok (.iload_n 3, 1) := by decide +kernel
theorem d_St_allows_41 : decode m_St_allows.2.1 41 = .ok (.invokevirtual 63, 3) := by decide +kernel
theorem d_St_allows_44 : decode m_St_allows.2.1 44 = .ok (.ifCond .eq 48, 3) := by decide +kernel
theorem d_St_allows_47 : decode m_St_allows.2.1 47 = .ok (.iload 4, 2) := by decide +kernel
theorem d_St_allows_49 : decode m_St_allows.2.1 49 = .ok (.invokestatic 67, 3) := by decide +kernel
theorem d_St_allows_52 : decode m_St_allows.2.1 52 = .ok (.ifCond .eq 15, 3) := by decide +kernel
theorem d_St_allows_55 : decode m_St_allows.2.1 55 = .ok (.aload_n 2, 1) := by decide +kernel
theorem d_St_allows_56 : decode m_St_allows.2.1 56 = .ok (.getfield 73, 3) := by decide +kernel
theorem d_St_allows_59 : decode m_St_allows.2.1 59 = .ok (.iload 4, 2) := by decide +kernel
theorem d_St_allows_61 : decode m_St_allows.2.1 61 = .ok (.invokestatic 78, 3) := by decide +kernel
theorem d_St_allows_64 : decode m_St_allows.2.1 64 = .ok (.if_icmp .ne 28, 3) := by decide +kernel
theorem d_St_allows_67 : decode m_St_allows.2.1 67 = .ok (.aload_n 0, 1) := by decide +kernel
theorem d_St_allows_68 : decode m_St_allows.2.1 68 = .ok (.getfield 28, 3) := by decide +kernel
theorem d_St_allows_71 : decode m_St_allows.2.1 71 = .ok (.iload 5, 2) := by decide +kernel
theorem d_St_allows_73 : decode m_St_allows.2.1 73 = .ok (.isub, 1) := by decide +kernel
theorem d_St_allows_74 : decode m_St_allows.2.1 74 = .ok (.aload_n 1, 1) := by decide +kernel
theorem d_St_allows_75 : decode m_St_allows.2.1 75 = .ok (.aload_n 2, 1) := by decide +kernel
theorem d_St_allows_76 : decode m_St_allows.2.1 76 = .ok (.iload_n 3, 1) := by decide +kernel
theorem d_St_allows_77 : decode m_St_allows.2.1 77 = .ok (.invokevirtual 81, 3) := by decide +kernel
theorem d_St_allows_80 : decode m_St_allows.2.1 80 = .ok (.iadd, 1) := by decide +kernel
theorem d_St_allows_81 : decode m_St_allows.2.1 81 = .ok (.aload_n 2, 1) := by decide +kernel
theorem d_St_allows_82 : decode m_St_allows.2.1 82 = .ok (.getfield 84, 3) := by decide +kernel
theorem d_St_allows_85 : decode m_St_allows.2.1 85 = .ok (.if_icmp .gt 7, 3) := by decide +kernel
theorem d_St_allows_88 : decode m_St_allows.2.1 88 = .ok (.iconst 1, 1) := by decide +kernel
theorem d_St_allows_89 : decode m_St_allows.2.1 89 = .ok (.goto 4, 3) := by decide +kernel
theorem d_St_allows_92 : decode m_St_allows.2.1 92 = .ok (.iconst 0, 1) := by decide +kernel
theorem d_St_allows_93 : decode m_St_allows.2.1 93 = .ok (.ireturn, 1) := by decide +kernel
theorem d_St_hasTaken_0 : decode m_St_hasTaken.2.1 0 = .ok (.iconst 0, 1) := by decide +kernel
theorem d_St_hasTaken_1 : decode m_St_hasTaken.2.1 1 = .ok (.istore 5, 2) := by decide +kernel
theorem d_St_hasTaken_3 : decode m_St_hasTaken.2.1 3 = .ok (.iload 5, 2) := by decide +kernel
theorem d_St_hasTaken_5 : decode m_St_hasTaken.2.1 5 = .ok (.iload 4, 2) := by decide +kernel
theorem d_St_hasTaken_7 : decode m_St_hasTaken.2.1 7 = .ok (.if_icmp .ge 40, 3) := by decide +kernel
theorem d_St_hasTaken_10 : decode m_St_hasTaken.2.1 10 = .ok (.aload_n 0, 1) := by decide +kernel
theorem d_St_hasTaken_11 : decode m_St_hasTaken.2.1 11 = .ok (.getfield 18, 3) := by decide +kernel
theorem d_St_hasTaken_14 : decode m_St_hasTaken.2.1 14 = .ok (.aload_n 0, 1) := by decide +kernel
theorem d_St_hasTaken_15 : decode m_St_hasTaken.2.1 15 = .ok (.getfield 28, 3) := by decide +kernel
theorem d_St_hasTaken_18 : decode m_St_hasTaken.2.1 18 = .ok (.iload 4, 2) := by decide +kernel
theorem d_St_hasTaken_20 : decode m_St_hasTaken.2.1 20 = .ok (.isub, 1) := by decide +kernel
theorem d_St_hasTaken_21 : decode m_St_hasTaken.2.1 21 = .ok (.iload 5, 2) := by decide +kernel
theorem d_St_hasTaken_23 : decode m_St_hasTaken.2.1 23 = .ok (.iadd, 1) := by decide +kernel
theorem d_St_hasTaken_24 : decode m_St_hasTaken.2.1 24 = .ok (.iaload, 1) := by decide +kernel
theorem d_St_hasTaken_25 : decode m_St_hasTaken.2.1 25 = .ok (.aload_n 1, 1) := by decide +kernel
theorem d_St_hasTaken_26 : decode m_St_hasTaken.2.1 26 = .ok (.aload_n 2, 1) := by decide +kernel
theorem d_St_hasTaken_27 : decode m_St_hasTaken.2.1 27 = .ok (.iload_n 3, 1) := by decide +kernel
theorem d_St_hasTaken_28 : decode m_St_hasTaken.2.1 28 = .ok (.iload 5, 2) := by decide +kernel
theorem d_St_hasTaken_30 : decode m_St_hasTaken.2.1 30 = .ok (.invokevirtual 87, 3) := by decide +kernel
theorem d_St_hasTaken_33 : decode m_St_hasTaken.2.1 33 = .ok (.invokestatic 91, 3) := by decide +kernel
theorem d_St_hasTaken_36 : decode m_St_hasTaken.2.1 36 = .ok (.ifCond .ne 5, 3) := by decide +kernel
theorem d_St_hasTaken_39 : decode m_St_hasTaken.2.1 39 = .ok (.iconst 0, 1) := by decide +kernel
theorem d_St_hasTaken_40 : decode m_St_hasTaken.2.1 40 = .ok (.ireturn, 1) := by decide +kernel
theorem d_St_hasTaken_41 : decode m_St_hasTaken.2.1 41 = .ok (.iinc 5 1, 3) := by decide +kernel
theorem d_St_hasTaken_44 : decode m_St_hasTaken.2.1 44 = .ok (.goto (-41), 3) := by decide +kernel
theorem d_St_hasTaken_47 : decode m_St_hasTaken.2.1 47 = .ok (.iconst 1, 1) := by decide +kernel
theorem d_St_hasTaken_48 : decode m_St_hasTaken.2.1 48 = .ok (.ireturn, 1) := by decide +kernel
theorem d_St_hasPlace_0 : decode m_St_hasPlace.2.1 0 = .ok (.aload_n 1, 1) := by decide +kernel
theorem d_St_hasPlace_1 : decode m_St_hasPlace.2.1 1 = .ok (.aload_n 2, 1) := by decide +kernel
theorem d_St_hasPlace_2 : decode m_St_hasPlace.2.1 2 = .ok (.iload_n 3, 1) := by decide +kernel
theorem d_St_hasPlace_3 : decode m_St_hasPlace.2.1 3 = .ok (.invokevirtual 50, 3) := by decide +kernel
theorem d_St_hasPlace_6 : decode m_St_hasPlace.2.1 6 = .ok (.istore 4, 2) := by decide +kernel
theorem d_St_hasPlace_8 : decode m_St_hasPlace.2.1 8 = .ok (.iload 4, 2) := by decide +kernel
theorem d_St_hasPlace_10 : decode m_St_hasPlace.2.1 10 = .ok (.invokestatic 95, 3) := by decide +kernel
theorem d_St_hasPlace_13 : decode m_St_hasPlace.2.1 13 = .ok (.ifCond .eq 25, 3) := by decide +kernel
theorem d_St_hasPlace_16 : decode m_St_hasPlace.2.1 16 = .ok (.aload_n 0, 1) := by decide +kernel
theorem d_St_hasPlace_17 : decode m_St_hasPlace.2.1 17 = .ok (.getfield 9, 3) := by decide +kernel
theorem d_St_hasPlace_20 : decode m_St_hasPlace.2.1 20 = .ok (.aload_n 1, 1) := by decide +kernel
theorem d_St_hasPlace_21 : decode m_St_hasPlace.2.1 21 = .ok (.aload_n 2, 1) := by decide +kernel
theorem d_St_hasPlace_22 : decode m_St_hasPlace.2.1 22 = .ok (.iload_n 3, 1) := by decide +kernel
theorem d_St_hasPlace_23 : decode m_St_hasPlace.2.1 23 = .ok (.invokevirtual 97, 3) := by decide +kernel
theorem d_St_hasPlace_26 : decode m_St_hasPlace.2.1 26 = .ok (.iaload, 1) := by decide +kernel
theorem d_St_hasPlace_27 : decode m_St_hasPlace.2.1 27 = .ok (.iload 4, 2) := by decide +kernel
theorem d_St_hasPlace_29 : decode m_St_hasPlace.2.1 29 = .ok (.invokestatic 100, 3) := by decide +kernel
theorem d_St_hasPlace_32 : decode m_St_hasPlace.2.1 32 = .ok (.invokestatic 91, 3) := by decide +kernel
theorem d_St_hasPlace_35 : decode m_St_hasPlace.2.1 35 = .ok (.ifCond .eq 7, 3) := by decide +kernel
theorem d_St_hasPlace_38 : decode m_St_hasPlace.2.1 38 = .ok (.iconst 1, 1) := by decide +kernel
theorem d_St_hasPlace_39 : decode m_St_hasPlace.2.1 39 = .ok (.goto 4, 3) := by decide +kernel
theorem d_St_hasPlace_42 : decode m_St_hasPlace.2.1 42 = .ok (.iconst 0, 1) := by decide +kernel
theorem d_St_hasPlace_43 : decode m_St_hasPlace.2.1 43 = .ok (.ireturn, 1) := by decide +kernel
theorem d_VC_type_0 : decode m_VC_type.2.1 0 = .ok (.iload_n 3, 1) := by decide +kernel
theorem d_VC_type_1 : decode m_VC_type.2.1 1 = .ok (.iconst 1, 1) := by decide +kernel
theorem d_VC_type_2 : decode m_VC_type.2.1 2 = .ok (.if_icmp .lt 9, 3) := by decide +kernel
theorem d_VC_type_5 : decode m_VC_type.2.1 5 = .ok (.iload_n 3, 1) := by decide +kernel
theorem d_VC_type_6 : decode m_VC_type.2.1 6 = .ok (.bipush 8, 2) := by decide +kernel
theorem d_VC_type_8 : decode m_VC_type.2.1 8 = .ok (.if_icmp .le 13, 3) := by decide +kernel
theorem d_VC_type_21 : decode m_VC_type.2.1 21 = .ok (.aload_n 0, 1) := by decide +kernel
theorem d_VC_type_22 : decode m_VC_type.2.1 22 = .ok (.getfield 51, 3) := by decide +kernel
theorem d_VC_type_25 : decode m_VC_type.2.1 25 = .ok (.iload_n 3, 1) := by decide +kernel
theorem d_VC_type_26 : decode m_VC_type.2.1 26 = .ok (.iadd, 1) := by decide +kernel
theorem d_VC_type_27 : decode m_VC_type.2.1 27 = .ok (.sipush 240, 3) := by decide +kernel
theorem d_VC_type_30 : decode m_VC_type.2.1 30 = .ok (.if_icmp .le 13, 3) := by decide +kernel
theorem d_VC_type_43 : decode m_VC_type.2.1 43 = .ok (.iload_n 3, 1) := by decide +kernel
theorem d_VC_type_44 : decode m_VC_type.2.1 44 = .ok (.iconst 1, 1) := by decide +kernel
theorem d_VC_type_45 : decode m_VC_type.2.1 45 = .ok (.isub, 1) := by decide +kernel
theorem d_VC_type_46 : decode m_VC_type.2.1 46 = .ok (.istore 4, 2) := by decide +kernel
theorem d_VC_type_48 : decode m_VC_type.2.1 48 = .ok (.iload 4, 2) := by decide +kernel
theorem d_VC_type_50 : decode m_VC_type.2.1 50 = .ok (.ifCond .lt 40, 3) := by decide +kernel
theorem d_VC_type_53 : decode m_VC_type.2.1 53 = .ok (.aload_n 0, 1) := by decide +kernel
theorem d_VC_type_54 : decode m_VC_type.2.1 54 = .ok (.getfield 9, 3) := by decide +kernel
theorem d_VC_type_57 : decode m_VC_type.2.1 57 = .ok (.aload_n 0, 1) := by decide +kernel
theorem d_VC_type_58 : decode m_VC_type.2.1 58 = .ok (.getfield 51, 3) := by decide +kernel
theorem d_VC_type_61 : decode m_VC_type.2.1 61 = .ok (.lload_n 1, 1) := by decide +kernel
theorem d_VC_type_62 : decode m_VC_type.2.1 62 = .ok (.bipush 8, 2) := by decide +kernel
theorem d_VC_type_64 : decode m_VC_type.2.1 64 = .ok (.iload 4, 2) := by decide +kernel
theorem d_VC_type_66 : decode m_VC_type.2.1 66 = .ok (.imul, 1) := by decide +kernel
theorem d_VC_type_67 : decode m_VC_type.2.1 67 = .ok (.lshr, 1) := by decide +kernel
theorem d_VC_type_68 : decode m_VC_type.2.1 68 = .ok (.l2i, 1) := by decide +kernel
theorem d_VC_type_69 : decode m_VC_type.2.1 69 = .ok (.sipush 255, 3) := by decide +kernel
theorem d_VC_type_72 : decode m_VC_type.2.1 72 = .ok (.iand, 1) := by decide +kernel
theorem d_VC_type_73 : decode m_VC_type.2.1 73 = .ok (.iastore, 1) := by decide +kernel
theorem d_VC_type_74 : decode m_VC_type.2.1 74 = .ok (.aload_n 0, 1) := by decide +kernel
theorem d_VC_type_75 : decode m_VC_type.2.1 75 = .ok (.dup, 1) := by decide +kernel
theorem d_VC_type_76 : decode m_VC_type.2.1 76 = .ok (.getfield 51, 3) := by decide +kernel
theorem d_VC_type_79 : decode m_VC_type.2.1 79 = .ok (.iconst 1, 1) := by decide +kernel
theorem d_VC_type_80 : decode m_VC_type.2.1 80 = .ok (.iadd, 1) := by decide +kernel
theorem d_VC_type_81 : decode m_VC_type.2.1 81 = .ok (.putfield 51, 3) := by decide +kernel
theorem d_VC_type_84 : decode m_VC_type.2.1 84 = .ok (.iinc 4 (-1), 3) := by decide +kernel
theorem d_VC_type_87 : decode m_VC_type.2.1 87 = .ok (.goto (-39), 3) := by decide +kernel
theorem d_VC_type_90 : decode m_VC_type.2.1 90 = .ok (.aload_n 0, 1) := by decide +kernel
theorem d_VC_type_91 : decode m_VC_type.2.1 91 = .ok (.getfield 51, 3) := by decide +kernel
theorem d_VC_type_94 : decode m_VC_type.2.1 94 = .ok (.ireturn, 1) := by decide +kernel
theorem d_VC_poke_0 : decode m_VC_poke.2.1 0 = .ok (.iload_n 1, 1) := by decide +kernel
theorem d_VC_poke_1 : decode m_VC_poke.2.1 1 = .ok (.ifCond .lt 11, 3) := by decide +kernel
theorem d_VC_poke_4 : decode m_VC_poke.2.1 4 = .ok (.iload_n 1, 1) := by decide +kernel
theorem d_VC_poke_5 : decode m_VC_poke.2.1 5 = .ok (.aload_n 0, 1) := by decide +kernel
theorem d_VC_poke_6 : decode m_VC_poke.2.1 6 = .ok (.getfield 51, 3) := by decide +kernel
theorem d_VC_poke_9 : decode m_VC_poke.2.1 9 = .ok (.if_icmp .lt 13, 3) := by decide +kernel
theorem d_VC_poke_22 : decode m_VC_poke.2.1 22 = .ok (.iload_n 2, 1) := by decide +kernel
theorem d_VC_poke_23 : decode m_VC_poke.2.1 23 = .ok (.ifCond .lt 10, 3) := by decide +kernel
theorem d_VC_poke_26 : decode m_VC_poke.2.1 26 = .ok (.iload_n 2, 1) := by decide +kernel
theorem d_VC_poke_27 : decode m_VC_poke.2.1 27 = .ok (.sipush 255, 3) := by decide +kernel
theorem d_VC_poke_30 : decode m_VC_poke.2.1 30 = .ok (.if_icmp .le 13, 3) := by decide +kernel
theorem d_VC_poke_43 : decode m_VC_poke.2.1 43 = .ok (.aload_n 0, 1) := by decide +kernel
theorem d_VC_poke_44 : decode m_VC_poke.2.1 44 = .ok (.getfield 9, 3) := by decide +kernel
theorem d_VC_poke_47 : decode m_VC_poke.2.1 47 = .ok (.iload_n 1, 1) := by decide +kernel
theorem d_VC_poke_48 : decode m_VC_poke.2.1 48 = .ok (.iload_n 2, 1) := by decide +kernel
theorem d_VC_poke_49 : decode m_VC_poke.2.1 49 = .ok (.iastore, 1) := by decide +kernel
theorem d_VC_poke_50 : decode m_VC_poke.2.1 50 = .ok (.return_, 1) := by decide +kernel
theorem d_VC_size_0 : decode m_VC_size.2.1 0 = .ok (.aload_n 0, 1) := by decide +kernel
theorem d_VC_size_1 : decode m_VC_size.2.1 1 = .ok (.getfield 51, 3) := by decide +kernel
theorem d_VC_size_4 : decode m_VC_size.2.1 4 = .ok (.ireturn, 1) := by decide +kernel
theorem d_VC_byteAt_0 : decode m_VC_byteAt.2.1 0 = .ok (.iload_n 1, 1) := by decide +kernel
theorem d_VC_byteAt_1 : decode m_VC_byteAt.2.1 1 = .ok (.ifCond .lt 11, 3) := by decide +kernel
theorem d_VC_byteAt_4 : decode m_VC_byteAt.2.1 4 = .ok (.iload_n 1, 1) := by decide +kernel
theorem d_VC_byteAt_5 : decode m_VC_byteAt.2.1 5 = .ok (.aload_n 0, 1) := by decide +kernel
theorem d_VC_byteAt_6 : decode m_VC_byteAt.2.1 6 = .ok (.getfield 51, 3) := by decide +kernel
theorem d_VC_byteAt_9 : decode m_VC_byteAt.2.1 9 = .ok (.if_icmp .lt 13, 3) := by decide +kernel
theorem d_VC_byteAt_22 : decode m_VC_byteAt.2.1 22 = .ok (.aload_n 0, 1) := by decide +kernel
theorem d_VC_byteAt_23 : decode m_VC_byteAt.2.1 23 = .ok (.getfield 9, 3) := by decide +kernel
theorem d_VC_byteAt_26 : decode m_VC_byteAt.2.1 26 = .ok (.iload_n 1, 1) := by decide +kernel
theorem d_VC_byteAt_27 : decode m_VC_byteAt.2.1 27 = .ok (.iaload, 1) := by decide +kernel
theorem d_VC_byteAt_28 : decode m_VC_byteAt.2.1 28 = .ok (.ireturn, 1) := by decide +kernel
theorem d_VC_clear_0 : decode m_VC_clear.2.1 0 = .ok (.aload_n 0, 1) := by decide +kernel
theorem d_VC_clear_1 : decode m_VC_clear.2.1 1 = .ok (.iconst 0, 1) := by decide +kernel
theorem d_VC_clear_2 : decode m_VC_clear.2.1 2 = .ok (.putfield 51, 3) := by decide +kernel
theorem d_VC_clear_5 : decode m_VC_clear.2.1 5 = .ok (.return_, 1) := by decide +kernel
theorem d_VC_read_0 : decode m_VC_read.2.1 0 = .ok (.aload_n 0, 1) := by decide +kernel
theorem d_VC_read_1 : decode m_VC_read.2.1 1 = .ok (.getfield 20, 3) := by decide +kernel
theorem d_VC_read_4 : decode m_VC_read.2.1 4 = .ok (.aload_n 0, 1) := by decide +kernel
theorem d_VC_read_5 : decode m_VC_read.2.1 5 = .ok (.getfield 9, 3) := by decide +kernel
theorem d_VC_read_8 : decode m_VC_read.2.1 8 = .ok (.aload_n 0, 1) := by decide +kernel
theorem d_VC_read_9 : decode m_VC_read.2.1 9 = .ok (.getfield 51, 3) := by decide +kernel
theorem d_VC_read_12 : decode m_VC_read.2.1 12 = .ok (.invokevirtual 67, 3) := by decide +kernel
theorem d_VC_read_15 : decode m_VC_read.2.1 15 = .ok (.aload_n 0, 1) := by decide +kernel
theorem d_VC_read_16 : decode m_VC_read.2.1 16 = .ok (.getfield 26, 3) := by decide +kernel
theorem d_VC_read_19 : decode m_VC_read.2.1 19 = .ok (.aload_n 0, 1) := by decide +kernel
theorem d_VC_read_20 : decode m_VC_read.2.1 20 = .ok (.getfield 20, 3) := by decide +kernel
theorem d_VC_read_23 : decode m_VC_read.2.1 23 = .ok (.invokevirtual 71, 3) := by decide +kernel
theorem d_VC_read_26 : decode m_VC_read.2.1 26 = .ok (.ifCond .ne 11, 3) := by decide +kernel
theorem d_VC_read_29 : decode m_VC_read.2.1 29 = .ok (.aload_n 0, 1) := by decide +kernel
theorem d_VC_read_30 : decode m_VC_read.2.1 30 = .ok (.getfield 26, 3) := by decide +kernel
theorem d_VC_read_33 : decode m_VC_read.2.1 33 = .ok (.getfield 75, 3) := by decide +kernel
theorem d_VC_read_36 : decode m_VC_read.2.1 36 = .ok (.ireturn, 1) := by decide +kernel
theorem d_VC_read_37 : decode m_VC_read.2.1 37 = .ok (.aload_n 0, 1) := by decide +kernel
theorem d_VC_read_38 : decode m_VC_read.2.1 38 = .ok (.getfield 16, 3) := by decide +kernel
theorem d_VC_read_41 : decode m_VC_read.2.1 41 = .ok (.astore_n 1, 1) := by decide +kernel
theorem d_VC_read_42 : decode m_VC_read.2.1 42 = .ok (.aload_n 0, 1) := by decide +kernel
theorem d_VC_read_43 : decode m_VC_read.2.1 43 = .ok (.aload_n 0, 1) := by decide +kernel
theorem d_VC_read_44 : decode m_VC_read.2.1 44 = .ok (.getfield 20, 3) := by decide +kernel
theorem d_VC_read_47 : decode m_VC_read.2.1 47 = .ok (.putfield 16, 3) := by decide +kernel
theorem d_VC_read_50 : decode m_VC_read.2.1 50 = .ok (.aload_n 0, 1) := by decide +kernel
theorem d_VC_read_51 : decode m_VC_read.2.1 51 = .ok (.aload_n 1, 1) := by decide +kernel
theorem d_VC_read_52 : decode m_VC_read.2.1 52 = .ok (.putfield 20, 3) := by decide +kernel
theorem d_VC_read_55 : decode m_VC_read.2.1 55 = .ok (.iconst (-1), 1) := by decide +kernel
theorem d_VC_read_56 : decode m_VC_read.2.1 56 = .ok (.ireturn, 1) := by decide +kernel
theorem d_VC_write_0 : decode m_VC_write.2.1 0 = .ok (.aload_n 0, 1) := by decide +kernel
theorem d_VC_write_1 : decode m_VC_write.2.1 1 = .ok (.getfield 16, 3) := by decide +kernel
theorem d_VC_write_4 : decode m_VC_write.2.1 4 = .ok (.getfield 78, 3) := by decide +kernel
theorem d_VC_write_7 : decode m_VC_write.2.1 7 = .ok (.ifCond .ne 13, 3) := by decide +kernel
theorem d_VC_write_20 : decode m_VC_write.2.1 20 = .ok (.aload_n 0, 1) := by decide +kernel
theorem d_VC_write_21 : decode m_VC_write.2.1 21 = .ok (.getfield 16, 3) := by decide +kernel
theorem d_VC_write_24 : decode m_VC_write.2.1 24 = .ok (.getfield 83, 3) := by decide +kernel
theorem d_VC_write_27 : decode m_VC_write.2.1 27 = .ok (.iconst 0, 1) := by decide +kernel
theorem d_VC_write_28 : decode m_VC_write.2.1 28 = .ok (.aload_n 0, 1) := by decide +kernel
theorem d_VC_write_29 : decode m_VC_write.2.1 29 = .ok (.getfield 9, 3) := by decide +kernel
theorem d_VC_write_32 : decode m_VC_write.2.1 32 = .ok (.iconst 0, 1) := by decide +kernel
theorem d_VC_write_33 : decode m_VC_write.2.1 33 = .ok (.aload_n 0, 1) := by decide +kernel
theorem d_VC_write_34 : decode m_VC_write.2.1 34 = .ok (.getfield 16, 3) := by decide +kernel
theorem d_VC_write_37 : decode m_VC_write.2.1 37 = .ok (.getfield 86, 3) := by decide +kernel
theorem d_VC_write_40 : decode m_VC_write.2.1 40 = .ok (.invokestatic 89, 3) := by decide +kernel
theorem d_VC_write_43 : decode m_VC_write.2.1 43 = .ok (.aload_n 0, 1) := by decide +kernel
theorem d_VC_write_44 : decode m_VC_write.2.1 44 = .ok (.aload_n 0, 1) := by decide +kernel
theorem d_VC_write_45 : decode m_VC_write.2.1 45 = .ok (.getfield 16, 3) := by decide +kernel
theorem d_VC_write_48 : decode m_VC_write.2.1 48 = .ok (.getfield 86, 3) := by decide +kernel
theorem d_VC_write_51 : decode m_VC_write.2.1 51 = .ok (.putfield 51, 3) := by decide +kernel
theorem d_VC_write_54 : decode m_VC_write.2.1 54 = .ok (.aload_n 0, 1) := by decide +kernel
theorem d_VC_write_55 : decode m_VC_write.2.1 55 = .ok (.getfield 51, 3) := by decide +kernel
theorem d_VC_write_58 : decode m_VC_write.2.1 58 = .ok (.ireturn, 1) := by decide +kernel
theorem d_VC_methods_0 : decode m_VC_methods.2.1 0 = .ok (.aload_n 0, 1) := by decide +kernel
theorem d_VC_methods_1 : decode m_VC_methods.2.1 1 = .ok (.getfield 16, 3) := by decide +kernel
theorem d_VC_methods_4 : decode m_VC_methods.2.1 4 = .ok (.getfield 78, 3) := by decide +kernel
theorem d_VC_methods_7 : decode m_VC_methods.2.1 7 = .ok (.ireturn, 1) := by decide +kernel
theorem d_VC_check_0 : decode m_VC_check.2.1 0 = .ok (.aload_n 0, 1) := by decide +kernel
theorem d_VC_check_1 : decode m_VC_check.2.1 1 = .ok (.getfield 16, 3) := by decide +kernel
theorem d_VC_check_4 : decode m_VC_check.2.1 4 = .ok (.getfield 78, 3) := by decide +kernel
theorem d_VC_check_7 : decode m_VC_check.2.1 7 = .ok (.ifCond .ne 13, 3) := by decide +kernel
theorem d_VC_check_20 : decode m_VC_check.2.1 20 = .ok (.iload_n 1, 1) := by decide +kernel
theorem d_VC_check_21 : decode m_VC_check.2.1 21 = .ok (.ifCond .lt 14, 3) := by decide +kernel
theorem d_VC_check_24 : decode m_VC_check.2.1 24 = .ok (.iload_n 1, 1) := by decide +kernel
theorem d_VC_check_25 : decode m_VC_check.2.1 25 = .ok (.aload_n 0, 1) := by decide +kernel
theorem d_VC_check_26 : decode m_VC_check.2.1 26 = .ok (.getfield 16, 3) := by decide +kernel
theorem d_VC_check_29 : decode m_VC_check.2.1 29 = .ok (.getfield 78, 3) := by decide +kernel
theorem d_VC_check_32 : decode m_VC_check.2.1 32 = .ok (.if_icmp .lt 13, 3) := by decide +kernel
theorem d_VC_check_45 : decode m_VC_check.2.1 45 = .ok (.aload_n 0, 1) := by decide +kernel
theorem d_VC_check_46 : decode m_VC_check.2.1 46 = .ok (.getfield 33, 3) := by decide +kernel
theorem d_VC_check_49 : decode m_VC_check.2.1 49 = .ok (.aload_n 0, 1) := by decide +kernel
theorem d_VC_check_50 : decode m_VC_check.2.1 50 = .ok (.getfield 16, 3) := by decide +kernel
theorem d_VC_check_53 : decode m_VC_check.2.1 53 = .ok (.aload_n 0, 1) := by decide +kernel
theorem d_VC_check_54 : decode m_VC_check.2.1 54 = .ok (.getfield 16, 3) := by decide +kernel
theorem d_VC_check_57 : decode m_VC_check.2.1 57 = .ok (.getfield 97, 3) := by decide +kernel
theorem d_VC_check_60 : decode m_VC_check.2.1 60 = .ok (.iload_n 1, 1) := by decide +kernel
theorem d_VC_check_61 : decode m_VC_check.2.1 61 = .ok (.aaload, 1) := by decide +kernel
theorem d_VC_check_62 : decode m_VC_check.2.1 62 = .ok (.invokevirtual 101, 3) := by decide +kernel
theorem d_VC_check_65 : decode m_VC_check.2.1 65 = .ok (.ireturn, 1) := by decide +kernel
theorem d_VC_run_0 : decode m_VC_run.2.1 0 = .ok (.aload_n 0, 1) := by decide +kernel
theorem d_VC_run_1 : decode m_VC_run.2.1 1 = .ok (.getfield 16, 3) := by decide +kernel
theorem d_VC_run_4 : decode m_VC_run.2.1 4 = .ok (.getfield 78, 3) := by decide +kernel
theorem d_VC_run_7 : decode m_VC_run.2.1 7 = .ok (.ifCond .ne 13, 3) := by decide +kernel
theorem d_VC_run_20 : decode m_VC_run.2.1 20 = .ok (.iload_n 1, 1) := by decide +kernel
theorem d_VC_run_21 : decode m_VC_run.2.1 21 = .ok (.ifCond .lt 14, 3) := by decide +kernel
theorem d_VC_run_24 : decode m_VC_run.2.1 24 = .ok (.iload_n 1, 1) := by decide +kernel
theorem d_VC_run_25 : decode m_VC_run.2.1 25 = .ok (.aload_n 0, 1) := by decide +kernel
theorem d_VC_run_26 : decode m_VC_run.2.1 26 = .ok (.getfield 16, 3) := by decide +kernel
theorem d_VC_run_29 : decode m_VC_run.2.1 29 = .ok (.getfield 78, 3) := by decide +kernel
theorem d_VC_run_32 : decode m_VC_run.2.1 32 = .ok (.if_icmp .lt 13, 3) := by decide +kernel
theorem d_VC_run_45 : decode m_VC_run.2.1 45 = .ok (.aload_n 0, 1) := by decide +kernel
theorem d_VC_run_46 : decode m_VC_run.2.1 46 = .ok (.getfield 40, 3) := by decide +kernel
theorem d_VC_run_49 : decode m_VC_run.2.1 49 = .ok (.aload_n 0, 1) := by decide +kernel
theorem d_VC_run_50 : decode m_VC_run.2.1 50 = .ok (.getfield 16, 3) := by decide +kernel
theorem d_VC_run_53 : decode m_VC_run.2.1 53 = .ok (.iload_n 1, 1) := by decide +kernel
theorem d_VC_run_54 : decode m_VC_run.2.1 54 = .ok (.iload_n 2, 1) := by decide +kernel
theorem d_VC_run_55 : decode m_VC_run.2.1 55 = .ok (.iload_n 3, 1) := by decide +kernel
theorem d_VC_run_56 : decode m_VC_run.2.1 56 = .ok (.iload 4, 2) := by decide +kernel
theorem d_VC_run_58 : decode m_VC_run.2.1 58 = .ok (.invokevirtual 105, 3) := by decide +kernel
theorem d_VC_run_61 : decode m_VC_run.2.1 61 = .ok (.aload_n 0, 1) := by decide +kernel
theorem d_VC_run_62 : decode m_VC_run.2.1 62 = .ok (.getfield 40, 3) := by decide +kernel
theorem d_VC_run_65 : decode m_VC_run.2.1 65 = .ok (.aload_n 0, 1) := by decide +kernel
theorem d_VC_run_66 : decode m_VC_run.2.1 66 = .ok (.getfield 16, 3) := by decide +kernel
theorem d_VC_run_69 : decode m_VC_run.2.1 69 = .ok (.invokevirtual 109, 3) := by decide +kernel
theorem d_VC_run_72 : decode m_VC_run.2.1 72 = .ok (.ireturn, 1) := by decide +kernel
theorem d_VC_result_0 : decode m_VC_result.2.1 0 = .ok (.aload_n 0, 1) := by decide +kernel
theorem d_VC_result_1 : decode m_VC_result.2.1 1 = .ok (.getfield 40, 3) := by decide +kernel
theorem d_VC_result_4 : decode m_VC_result.2.1 4 = .ok (.getfield 113, 3) := by decide +kernel
theorem d_VC_result_7 : decode m_VC_result.2.1 7 = .ok (.ireturn, 1) := by decide +kernel
theorem d_VC_steps_0 : decode m_VC_steps.2.1 0 = .ok (.aload_n 0, 1) := by decide +kernel
theorem d_VC_steps_1 : decode m_VC_steps.2.1 1 = .ok (.getfield 40, 3) := by decide +kernel
theorem d_VC_steps_4 : decode m_VC_steps.2.1 4 = .ok (.getfield 116, 3) := by decide +kernel
theorem d_VC_steps_7 : decode m_VC_steps.2.1 7 = .ok (.ireturn, 1) := by decide +kernel
theorem d_VC_isGoodFor_0 : decode m_VC_isGoodFor.2.1 0 = .ok (.iload_n 1, 1) := by decide +kernel
theorem d_VC_isGoodFor_1 : decode m_VC_isGoodFor.2.1 1 = .ok (.ifCond .eq 18, 3) := by decide +kernel
theorem d_VC_isGoodFor_4 : decode m_VC_isGoodFor.2.1 4 = .ok (.iload_n 0, 1) := by decide +kernel
theorem d_VC_isGoodFor_5 : decode m_VC_isGoodFor.2.1 5 = .ok (.iload_n 1, 1) := by decide +kernel
theorem d_VC_isGoodFor_6 : decode m_VC_isGoodFor.2.1 6 = .ok (.if_icmp .eq 13, 3) := by decide +kernel
theorem d_VC_isGoodFor_9 : decode m_VC_isGoodFor.2.1 9 = .ok (.iload_n 0, 1) := by decide +kernel
theorem d_VC_isGoodFor_10 : decode m_VC_isGoodFor.2.1 10 = .ok (.iconst 3, 1) := by decide +kernel
theorem d_VC_isGoodFor_11 : decode m_VC_isGoodFor.2.1 11 = .ok (.if_icmp .ne 12, 3) := by decide +kernel
theorem d_VC_isGoodFor_14 : decode m_VC_isGoodFor.2.1 14 = .ok (.iload_n 1, 1) := by decide +kernel
theorem d_VC_isGoodFor_15 : decode m_VC_isGoodFor.2.1 15 = .ok (.iconst 2, 1) := by decide +kernel
theorem d_VC_isGoodFor_16 : decode m_VC_isGoodFor.2.1 16 = .ok (.if_icmp .ne 7, 3) := by decide +kernel
theorem d_VC_isGoodFor_19 : decode m_VC_isGoodFor.2.1 19 = .ok (.iconst 1, 1) := by decide +kernel
theorem d_VC_isGoodFor_20 : decode m_VC_isGoodFor.2.1 20 = .ok (.goto 4, 3) := by decide +kernel
theorem d_VC_isGoodFor_23 : decode m_VC_isGoodFor.2.1 23 = .ok (.iconst 0, 1) := by decide +kernel
theorem d_VC_isGoodFor_24 : decode m_VC_isGoodFor.2.1 24 = .ok (.ireturn, 1) := by decide +kernel
theorem d_Mo_thrown_0 : decode m_Mo_thrown.2.1 0 = .ok (.aload_n 0, 1) := by decide +kernel
theorem d_Mo_thrown_1 : decode m_Mo_thrown.2.1 1 = .ok (.getfield 43, 3) := by decide +kernel
theorem d_Mo_thrown_4 : decode m_Mo_thrown.2.1 4 = .ok (.ireturn, 1) := by decide +kernel
theorem d_Mo_within_0 : decode m_Mo_within.2.1 0 = .ok (.iload_n 0, 1) := by decide +kernel
theorem d_Mo_within_1 : decode m_Mo_within.2.1 1 = .ok (.iload_n 1, 1) := by decide +kernel
theorem d_Mo_within_2 : decode m_Mo_within.2.1 2 = .ok (.if_icmp .lt 12, 3) := by decide +kernel
theorem d_Mo_within_5 : decode m_Mo_within.2.1 5 = .ok (.iload_n 0, 1) := by decide +kernel
theorem d_Mo_within_6 : decode m_Mo_within.2.1 6 = .ok (.iload_n 2, 1) := by decide +kernel
theorem d_Mo_within_7 : decode m_Mo_within.2.1 7 = .ok (.if_icmp .gt 7, 3) := by decide +kernel
theorem d_Mo_within_10 : decode m_Mo_within.2.1 10 = .ok (.iconst 1, 1) := by decide +kernel
theorem d_Mo_within_11 : decode m_Mo_within.2.1 11 = .ok (.goto 4, 3) := by decide +kernel
theorem d_Mo_within_14 : decode m_Mo_within.2.1 14 = .ok (.iconst 0, 1) := by decide +kernel
theorem d_Mo_within_15 : decode m_Mo_within.2.1 15 = .ok (.ireturn, 1) := by decide +kernel
theorem d_Mo_jumps_0 : decode m_Mo_jumps.2.1 0 = .ok (.iload_n 0, 1) := by decide +kernel
theorem d_Mo_jumps_1 : decode m_Mo_jumps.2.1 1 = .ok (.sipush 153, 3) := by decide +kernel
theorem d_Mo_jumps_4 : decode m_Mo_jumps.2.1 4 = .ok (.sipush 164, 3) := by decide +kernel
theorem d_Mo_jumps_7 : decode m_Mo_jumps.2.1 7 = .ok (.invokestatic 47, 3) := by decide +kernel
theorem d_Mo_jumps_10 : decode m_Mo_jumps.2.1 10 = .ok (.ifCond .ne 24, 3) := by decide +kernel
theorem d_Mo_jumps_13 : decode m_Mo_jumps.2.1 13 = .ok (.iload_n 0, 1) := by decide +kernel
theorem d_Mo_jumps_14 : decode m_Mo_jumps.2.1 14 = .ok (.sipush 167, 3) := by decide +kernel
theorem d_Mo_jumps_17 : decode m_Mo_jumps.2.1 17 = .ok (.if_icmp .eq 17, 3) := by decide +kernel
theorem d_Mo_jumps_20 : decode m_Mo_jumps.2.1 20 = .ok (.iload_n 0, 1) := by decide +kernel
theorem d_Mo_jumps_21 : decode m_Mo_jumps.2.1 21 = .ok (.sipush 198, 3) := by decide +kernel
theorem d_Mo_jumps_24 : decode m_Mo_jumps.2.1 24 = .ok (.if_icmp .eq 10, 3) := by decide +kernel
theorem d_Mo_jumps_27 : decode m_Mo_jumps.2.1 27 = .ok (.iload_n 0, 1) := by decide +kernel
theorem d_Mo_jumps_28 : decode m_Mo_jumps.2.1 28 = .ok (.sipush 199, 3) := by decide +kernel
theorem d_Mo_jumps_31 : decode m_Mo_jumps.2.1 31 = .ok (.if_icmp .ne 7, 3) := by decide +kernel
theorem d_Mo_jumps_34 : decode m_Mo_jumps.2.1 34 = .ok (.iconst 1, 1) := by decide +kernel
theorem d_Mo_jumps_35 : decode m_Mo_jumps.2.1 35 = .ok (.goto 4, 3) := by decide +kernel
theorem d_Mo_jumps_38 : decode m_Mo_jumps.2.1 38 = .ok (.iconst 0, 1) := by decide +kernel
theorem d_Mo_jumps_39 : decode m_Mo_jumps.2.1 39 = .ok (.ireturn, 1) := by decide +kernel
theorem d_Mo_names_0 : decode m_Mo_names.2.1 0 = .ok (.iload_n 0, 1) := by decide +kernel
theorem d_Mo_names_1 : decode m_Mo_names.2.1 1 = .ok (.bipush 21, 2) := by decide +kernel
theorem d_Mo_names_3 : decode m_Mo_names.2.1 3 = .ok (.if_icmp .eq 28, 3) := by decide +kernel
theorem d_Mo_names_6 : decode m_Mo_names.2.1 6 = .ok (.iload_n 0, 1) := by decide +kernel
theorem d_Mo_names_7 : decode m_Mo_names.2.1 7 = .ok (.bipush 25, 2) := by decide +kernel
theorem d_Mo_names_9 : decode m_Mo_names.2.1 9 = .ok (.if_icmp .eq 22, 3) := by decide +kernel
theorem d_Mo_names_12 : decode m_Mo_names.2.1 12 = .ok (.iload_n 0, 1) := by decide +kernel
theorem d_Mo_names_13 : decode m_Mo_names.2.1 13 = .ok (.bipush 54, 2) := by decide +kernel
theorem d_Mo_names_15 : decode m_Mo_names.2.1 15 = .ok (.if_icmp .eq 16, 3) := by decide +kernel
theorem d_Mo_names_18 : decode m_Mo_names.2.1 18 = .ok (.iload_n 0, 1) := by decide +kernel
theorem d_Mo_names_19 : decode m_Mo_names.2.1 19 = .ok (.bipush 58, 2) := by decide +kernel
theorem d_Mo_names_21 : decode m_Mo_names.2.1 21 = .ok (.if_icmp .eq 10, 3) := by decide +kernel
theorem d_Mo_names_24 : decode m_Mo_names.2.1 24 = .ok (.iload_n 0, 1) := by decide +kernel
theorem d_Mo_names_25 : decode m_Mo_names.2.1 25 = .ok (.sipush 132, 3) := by decide +kernel
theorem d_Mo_names_28 : decode m_Mo_names.2.1 28 = .ok (.if_icmp .ne 7, 3) := by decide +kernel
theorem d_Mo_names_31 : decode m_Mo_names.2.1 31 = .ok (.iconst 1, 1) := by decide +kernel
theorem d_Mo_names_32 : decode m_Mo_names.2.1 32 = .ok (.goto 4, 3) := by decide +kernel
theorem d_Mo_names_35 : decode m_Mo_names.2.1 35 = .ok (.iconst 0, 1) := by decide +kernel
theorem d_Mo_names_36 : decode m_Mo_names.2.1 36 = .ok (.ireturn, 1) := by decide +kernel
theorem d_Mo_returns_0 : decode m_Mo_returns.2.1 0 = .ok (.iload_n 0, 1) := by decide +kernel
theorem d_Mo_returns_1 : decode m_Mo_returns.2.1 1 = .ok (.sipush 172, 3) := by decide +kernel
theorem d_Mo_returns_4 : decode m_Mo_returns.2.1 4 = .ok (.if_icmp .eq 17, 3) := by decide +kernel
theorem d_Mo_returns_7 : decode m_Mo_returns.2.1 7 = .ok (.iload_n 0, 1) := by decide +kernel
theorem d_Mo_returns_8 : decode m_Mo_returns.2.1 8 = .ok (.sipush 176, 3) := by decide +kernel
theorem d_Mo_returns_11 : decode m_Mo_returns.2.1 11 = .ok (.if_icmp .eq 10, 3) := by decide +kernel
theorem d_Mo_returns_14 : decode m_Mo_returns.2.1 14 = .ok (.iload_n 0, 1) := by decide +kernel
theorem d_Mo_returns_15 : decode m_Mo_returns.2.1 15 = .ok (.sipush 177, 3) := by decide +kernel
theorem d_Mo_returns_18 : decode m_Mo_returns.2.1 18 = .ok (.if_icmp .ne 7, 3) := by decide +kernel
theorem d_Mo_returns_21 : decode m_Mo_returns.2.1 21 = .ok (.iconst 1, 1) := by decide +kernel
theorem d_Mo_returns_22 : decode m_Mo_returns.2.1 22 = .ok (.goto 4, 3) := by decide +kernel
theorem d_Mo_returns_25 : decode m_Mo_returns.2.1 25 = .ok (.iconst 0, 1) := by decide +kernel
theorem d_Mo_returns_26 : decode m_Mo_returns.2.1 26 = .ok (.ireturn, 1) := by decide +kernel
theorem d_Mo_bytes_0 : decode m_Mo_bytes.2.1 0 = .ok (.iload_n 0, 1) := by decide +kernel
theorem d_Mo_bytes_1 : decode m_Mo_bytes.2.1 1 = .ok (.invokestatic 51, 3) := by decide +kernel
theorem d_Mo_bytes_4 : decode m_Mo_bytes.2.1 4 = .ok (.ifCond .ne 10, 3) := by decide +kernel
theorem d_Mo_bytes_7 : decode m_Mo_bytes.2.1 7 = .ok (.iload_n 0, 1) := by decide +kernel
theorem d_Mo_bytes_8 : decode m_Mo_bytes.2.1 8 = .ok (.sipush 132, 3) := by decide +kernel
theorem d_Mo_bytes_11 : decode m_Mo_bytes.2.1 11 = .ok (.if_icmp .ne 5, 3) := by decide +kernel
theorem d_Mo_bytes_14 : decode m_Mo_bytes.2.1 14 = .ok (.iconst 3, 1) := by decide +kernel
theorem d_Mo_bytes_15 : decode m_Mo_bytes.2.1 15 = .ok (.ireturn, 1) := by decide +kernel
theorem d_Mo_bytes_16 : decode m_Mo_bytes.2.1 16 = .ok (.iload_n 0, 1) := by decide +kernel
theorem d_Mo_bytes_17 : decode m_Mo_bytes.2.1 17 = .ok (.invokestatic 55, 3) := by decide +kernel
theorem d_Mo_bytes_20 : decode m_Mo_bytes.2.1 20 = .ok (.ifCond .ne 22, 3) := by decide +kernel
theorem d_Mo_bytes_23 : decode m_Mo_bytes.2.1 23 = .ok (.iload_n 0, 1) := by decide +kernel
theorem d_Mo_bytes_24 : decode m_Mo_bytes.2.1 24 = .ok (.bipush 16, 2) := by decide +kernel
theorem d_Mo_bytes_26 : decode m_Mo_bytes.2.1 26 = .ok (.if_icmp .eq 16, 3) := by decide +kernel
theorem d_Mo_bytes_29 : decode m_Mo_bytes.2.1 29 = .ok (.iload_n 0, 1) := by decide +kernel
theorem d_Mo_bytes_30 : decode m_Mo_bytes.2.1 30 = .ok (.bipush 18, 2) := by decide +kernel
theorem d_Mo_bytes_32 : decode m_Mo_bytes.2.1 32 = .ok (.if_icmp .eq 10, 3) := by decide +kernel
theorem d_Mo_bytes_35 : decode m_Mo_bytes.2.1 35 = .ok (.iload_n 0, 1) := by decide +kernel
theorem d_Mo_bytes_36 : decode m_Mo_bytes.2.1 36 = .ok (.sipush 184, 3) := by decide +kernel
theorem d_Mo_bytes_39 : decode m_Mo_bytes.2.1 39 = .ok (.if_icmp .ne 5, 3) := by decide +kernel
theorem d_Mo_bytes_42 : decode m_Mo_bytes.2.1 42 = .ok (.iconst 2, 1) := by decide +kernel
theorem d_Mo_bytes_43 : decode m_Mo_bytes.2.1 43 = .ok (.ireturn, 1) := by decide +kernel
theorem d_Mo_bytes_44 : decode m_Mo_bytes.2.1 44 = .ok (.iload_n 0, 1) := by decide +kernel
theorem d_Mo_bytes_45 : decode m_Mo_bytes.2.1 45 = .ok (.iconst 1, 1) := by decide +kernel
theorem d_Mo_bytes_46 : decode m_Mo_bytes.2.1 46 = .ok (.if_icmp .eq 63, 3) := by decide +kernel
theorem d_Mo_bytes_49 : decode m_Mo_bytes.2.1 49 = .ok (.iload_n 0, 1) := by decide +kernel
theorem d_Mo_bytes_50 : decode m_Mo_bytes.2.1 50 = .ok (.bipush 46, 2) := by decide +kernel
theorem d_Mo_bytes_52 : decode m_Mo_bytes.2.1 52 = .ok (.if_icmp .eq 57, 3) := by decide +kernel
theorem d_Mo_bytes_55 : decode m_Mo_bytes.2.1 55 = .ok (.iload_n 0, 1) := by decide +kernel
theorem d_Mo_bytes_56 : decode m_Mo_bytes.2.1 56 = .ok (.bipush 79, 2) := by decide +kernel
theorem d_Mo_bytes_58 : decode m_Mo_bytes.2.1 58 = .ok (.if_icmp .eq 51, 3) := by decide +kernel
theorem d_Mo_bytes_61 : decode m_Mo_bytes.2.1 61 = .ok (.iload_n 0, 1) := by decide +kernel
theorem d_Mo_bytes_62 : decode m_Mo_bytes.2.1 62 = .ok (.bipush 87, 2) := by decide +kernel
theorem d_Mo_bytes_64 : decode m_Mo_bytes.2.1 64 = .ok (.if_icmp .eq 45, 3) := by decide +kernel
theorem d_Mo_bytes_67 : decode m_Mo_bytes.2.1 67 = .ok (.iload_n 0, 1) := by decide +kernel
theorem d_Mo_bytes_68 : decode m_Mo_bytes.2.1 68 = .ok (.bipush 89, 2) := by decide +kernel
theorem d_Mo_bytes_70 : decode m_Mo_bytes.2.1 70 = .ok (.if_icmp .eq 39, 3) := by decide +kernel
theorem d_Mo_bytes_73 : decode m_Mo_bytes.2.1 73 = .ok (.iload_n 0, 1) := by decide +kernel
theorem d_Mo_bytes_74 : decode m_Mo_bytes.2.1 74 = .ok (.bipush 95, 2) := by decide +kernel
theorem d_Mo_bytes_76 : decode m_Mo_bytes.2.1 76 = .ok (.if_icmp .eq 33, 3) := by decide +kernel
theorem d_Mo_bytes_79 : decode m_Mo_bytes.2.1 79 = .ok (.iload_n 0, 1) := by decide +kernel
theorem d_Mo_bytes_80 : decode m_Mo_bytes.2.1 80 = .ok (.bipush 96, 2) := by decide +kernel
theorem d_Mo_bytes_82 : decode m_Mo_bytes.2.1 82 = .ok (.if_icmp .eq 27, 3) := by decide +kernel
theorem d_Mo_bytes_85 : decode m_Mo_bytes.2.1 85 = .ok (.iload_n 0, 1) := by decide +kernel
theorem d_Mo_bytes_86 : decode m_Mo_bytes.2.1 86 = .ok (.bipush 100, 2) := by decide +kernel
theorem d_Mo_bytes_88 : decode m_Mo_bytes.2.1 88 = .ok (.if_icmp .eq 21, 3) := by decide +kernel
theorem d_Mo_bytes_91 : decode m_Mo_bytes.2.1 91 = .ok (.iload_n 0, 1) := by decide +kernel
theorem d_Mo_bytes_92 : decode m_Mo_bytes.2.1 92 = .ok (.bipush 104, 2) := by decide +kernel
theorem d_Mo_bytes_94 : decode m_Mo_bytes.2.1 94 = .ok (.if_icmp .eq 15, 3) := by decide +kernel
theorem d_Mo_bytes_97 : decode m_Mo_bytes.2.1 97 = .ok (.iload_n 0, 1) := by decide +kernel
theorem d_Mo_bytes_98 : decode m_Mo_bytes.2.1 98 = .ok (.bipush 108, 2) := by decide +kernel
theorem d_Mo_bytes_100 : decode m_Mo_bytes.2.1 100 = .ok (.if_icmp .eq 9, 3) := by decide +kernel
theorem d_Mo_bytes_103 : decode m_Mo_bytes.2.1 103 = .ok (.iload_n 0, 1) := by decide +kernel
theorem d_Mo_bytes_104 : decode m_Mo_bytes.2.1 104 = .ok (.bipush 116, 2) := by decide +kernel
theorem d_Mo_bytes_106 : decode m_Mo_bytes.2.1 106 = .ok (.if_icmp .ne 7, 3) := by decide +kernel
theorem d_Mo_bytes_109 : decode m_Mo_bytes.2.1 109 = .ok (.iconst 1, 1) := by decide +kernel
theorem d_Mo_bytes_110 : decode m_Mo_bytes.2.1 110 = .ok (.goto 4, 3) := by decide +kernel
theorem d_Mo_bytes_113 : decode m_Mo_bytes.2.1 113 = .ok (.iconst 0, 1) := by decide +kernel
theorem d_Mo_bytes_114 : decode m_Mo_bytes.2.1 114 = .ok (.istore_n 1, 1) := by decide +kernel
theorem d_Mo_bytes_115 : decode m_Mo_bytes.2.1 115 = .ok (.iload_n 1, 1) := by decide +kernel
theorem d_Mo_bytes_116 : decode m_Mo_bytes.2.1 116 = .ok (.ifCond .ne 24, 3) := by decide +kernel
theorem d_Mo_bytes_119 : decode m_Mo_bytes.2.1 119 = .ok (.iload_n 0, 1) := by decide +kernel
theorem d_Mo_bytes_120 : decode m_Mo_bytes.2.1 120 = .ok (.invokestatic 58, 3) := by decide +kernel
theorem d_Mo_bytes_123 : decode m_Mo_bytes.2.1 123 = .ok (.ifCond .ne 17, 3) := by decide +kernel
theorem d_Mo_bytes_126 : decode m_Mo_bytes.2.1 126 = .ok (.iload_n 0, 1) := by decide +kernel
theorem d_Mo_bytes_127 : decode m_Mo_bytes.2.1 127 = .ok (.sipush 188, 3) := by decide +kernel
theorem d_Mo_bytes_130 : decode m_Mo_bytes.2.1 130 = .ok (.if_icmp .eq 10, 3) := by decide +kernel
theorem d_Mo_bytes_133 : decode m_Mo_bytes.2.1 133 = .ok (.iload_n 0, 1) := by decide +kernel
theorem d_Mo_bytes_134 : decode m_Mo_bytes.2.1 134 = .ok (.sipush 190, 3) := by decide +kernel
theorem d_Mo_bytes_137 : decode m_Mo_bytes.2.1 137 = .ok (.if_icmp .ne 7, 3) := by decide +kernel
theorem d_Mo_bytes_140 : decode m_Mo_bytes.2.1 140 = .ok (.iconst 1, 1) := by decide +kernel
theorem d_Mo_bytes_141 : decode m_Mo_bytes.2.1 141 = .ok (.goto 4, 3) := by decide +kernel
theorem d_Mo_bytes_144 : decode m_Mo_bytes.2.1 144 = .ok (.iconst 0, 1) := by decide +kernel
theorem d_Mo_bytes_145 : decode m_Mo_bytes.2.1 145 = .ok (.ireturn, 1) := by decide +kernel
theorem d_Mo_need_0 : decode m_Mo_need.2.1 0 = .ok (.iload_n 0, 1) := by decide +kernel
theorem d_Mo_need_1 : decode m_Mo_need.2.1 1 = .ok (.bipush 96, 2) := by decide +kernel
theorem d_Mo_need_3 : decode m_Mo_need.2.1 3 = .ok (.if_icmp .eq 34, 3) := by decide +kernel
theorem d_Mo_need_6 : decode m_Mo_need.2.1 6 = .ok (.iload_n 0, 1) := by decide +kernel
theorem d_Mo_need_7 : decode m_Mo_need.2.1 7 = .ok (.bipush 100, 2) := by decide +kernel
theorem d_Mo_need_9 : decode m_Mo_need.2.1 9 = .ok (.if_icmp .eq 28, 3) := by decide +kernel
theorem d_Mo_need_12 : decode m_Mo_need.2.1 12 = .ok (.iload_n 0, 1) := by decide +kernel
theorem d_Mo_need_13 : decode m_Mo_need.2.1 13 = .ok (.bipush 104, 2) := by decide +kernel
theorem d_Mo_need_15 : decode m_Mo_need.2.1 15 = .ok (.if_icmp .eq 22, 3) := by decide +kernel
theorem d_Mo_need_18 : decode m_Mo_need.2.1 18 = .ok (.iload_n 0, 1) := by decide +kernel
theorem d_Mo_need_19 : decode m_Mo_need.2.1 19 = .ok (.bipush 108, 2) := by decide +kernel
theorem d_Mo_need_21 : decode m_Mo_need.2.1 21 = .ok (.if_icmp .eq 16, 3) := by decide +kernel
theorem d_Mo_need_24 : decode m_Mo_need.2.1 24 = .ok (.iload_n 0, 1) := by decide +kernel
theorem d_Mo_need_25 : decode m_Mo_need.2.1 25 = .ok (.sipush 159, 3) := by decide +kernel
theorem d_Mo_need_28 : decode m_Mo_need.2.1 28 = .ok (.sipush 164, 3) := by decide +kernel
theorem d_Mo_need_31 : decode m_Mo_need.2.1 31 = .ok (.invokestatic 47, 3) := by decide +kernel
theorem d_Mo_need_34 : decode m_Mo_need.2.1 34 = .ok (.ifCond .eq 7, 3) := by decide +kernel
theorem d_Mo_need_37 : decode m_Mo_need.2.1 37 = .ok (.iconst 1, 1) := by decide +kernel
theorem d_Mo_need_38 : decode m_Mo_need.2.1 38 = .ok (.goto 4, 3) := by decide +kernel
theorem d_Mo_need_41 : decode m_Mo_need.2.1 41 = .ok (.iconst 0, 1) := by decide +kernel
theorem d_Mo_need_42 : decode m_Mo_need.2.1 42 = .ok (.istore_n 2, 1) := by decide +kernel
theorem d_Mo_need_43 : decode m_Mo_need.2.1 43 = .ok (.iload_n 2, 1) := by decide +kernel
theorem d_Mo_need_44 : decode m_Mo_need.2.1 44 = .ok (.ifCond .ne 42, 3) := by decide +kernel
theorem d_Mo_need_47 : decode m_Mo_need.2.1 47 = .ok (.iload_n 0, 1) := by decide +kernel
theorem d_Mo_need_48 : decode m_Mo_need.2.1 48 = .ok (.bipush 54, 2) := by decide +kernel
theorem d_Mo_need_50 : decode m_Mo_need.2.1 50 = .ok (.if_icmp .eq 36, 3) := by decide +kernel
theorem d_Mo_need_53 : decode m_Mo_need.2.1 53 = .ok (.iload_n 0, 1) := by decide +kernel
theorem d_Mo_need_54 : decode m_Mo_need.2.1 54 = .ok (.bipush 116, 2) := by decide +kernel
theorem d_Mo_need_56 : decode m_Mo_need.2.1 56 = .ok (.if_icmp .eq 30, 3) := by decide +kernel
theorem d_Mo_need_59 : decode m_Mo_need.2.1 59 = .ok (.iload_n 0, 1) := by decide +kernel
theorem d_Mo_need_60 : decode m_Mo_need.2.1 60 = .ok (.sipush 172, 3) := by decide +kernel
theorem d_Mo_need_63 : decode m_Mo_need.2.1 63 = .ok (.if_icmp .eq 23, 3) := by decide +kernel
theorem d_Mo_need_66 : decode m_Mo_need.2.1 66 = .ok (.iload_n 0, 1) := by decide +kernel
theorem d_Mo_need_67 : decode m_Mo_need.2.1 67 = .ok (.sipush 188, 3) := by decide +kernel
theorem d_Mo_need_70 : decode m_Mo_need.2.1 70 = .ok (.if_icmp .eq 16, 3) := by decide +kernel
theorem d_Mo_need_73 : decode m_Mo_need.2.1 73 = .ok (.iload_n 0, 1) := by decide +kernel
theorem d_Mo_need_74 : decode m_Mo_need.2.1 74 = .ok (.sipush 153, 3) := by decide +kernel
theorem d_Mo_need_77 : decode m_Mo_need.2.1 77 = .ok (.sipush 158, 3) := by decide +kernel
theorem d_Mo_need_80 : decode m_Mo_need.2.1 80 = .ok (.invokestatic 47, 3) := by decide +kernel
theorem d_Mo_need_83 : decode m_Mo_need.2.1 83 = .ok (.ifCond .eq 22, 3) := by decide +kernel
theorem d_Mo_need_86 : decode m_Mo_need.2.1 86 = .ok (.iload_n 1, 1) := by decide +kernel
theorem d_Mo_need_87 : decode m_Mo_need.2.1 87 = .ok (.ifCond .eq 12, 3) := by decide +kernel
theorem d_Mo_need_90 : decode m_Mo_need.2.1 90 = .ok (.iload_n 2, 1) := by decide +kernel
theorem d_Mo_need_91 : decode m_Mo_need.2.1 91 = .ok (.ifCond .eq 12, 3) := by decide +kernel
theorem d_Mo_need_94 : decode m_Mo_need.2.1 94 = .ok (.iload_n 1, 1) := by decide +kernel
theorem d_Mo_need_95 : decode m_Mo_need.2.1 95 = .ok (.iconst 1, 1) := by decide +kernel
theorem d_Mo_need_96 : decode m_Mo_need.2.1 96 = .ok (.if_icmp .ne 7, 3) := by decide +kernel
theorem d_Mo_need_99 : decode m_Mo_need.2.1 99 = .ok (.iconst 1, 1) := by decide +kernel
theorem d_Mo_need_100 : decode m_Mo_need.2.1 100 = .ok (.goto 4, 3) := by decide +kernel
theorem d_Mo_need_103 : decode m_Mo_need.2.1 103 = .ok (.iconst 0, 1) := by decide +kernel
theorem d_Mo_need_104 : decode m_Mo_need.2.1 104 = .ok (.ireturn, 1) := by decide +kernel
theorem d_Mo_need_105 : decode m_Mo_need.2.1 105 = .ok (.iload_n 0, 1) := by decide +kernel
theorem d_Mo_need_106 : decode m_Mo_need.2.1 106 = .ok (.bipush 58, 2) := by decide +kernel
theorem d_Mo_need_108 : decode m_Mo_need.2.1 108 = .ok (.if_icmp .eq 31, 3) := by decide +kernel
theorem d_Mo_need_111 : decode m_Mo_need.2.1 111 = .ok (.iload_n 0, 1) := by decide +kernel
theorem d_Mo_need_112 : decode m_Mo_need.2.1 112 = .ok (.sipush 176, 3) := by decide +kernel
theorem d_Mo_need_115 : decode m_Mo_need.2.1 115 = .ok (.if_icmp .eq 24, 3) := by decide +kernel
theorem d_Mo_need_118 : decode m_Mo_need.2.1 118 = .ok (.iload_n 0, 1) := by decide +kernel
theorem d_Mo_need_119 : decode m_Mo_need.2.1 119 = .ok (.sipush 190, 3) := by decide +kernel
theorem d_Mo_need_122 : decode m_Mo_need.2.1 122 = .ok (.if_icmp .eq 17, 3) := by decide +kernel
theorem d_Mo_need_125 : decode m_Mo_need.2.1 125 = .ok (.iload_n 0, 1) := by decide +kernel
theorem d_Mo_need_126 : decode m_Mo_need.2.1 126 = .ok (.sipush 198, 3) := by decide +kernel
theorem d_Mo_need_129 : decode m_Mo_need.2.1 129 = .ok (.if_icmp .eq 10, 3) := by decide +kernel
theorem d_Mo_need_132 : decode m_Mo_need.2.1 132 = .ok (.iload_n 0, 1) := by decide +kernel
theorem d_Mo_need_133 : decode m_Mo_need.2.1 133 = .ok (.sipush 199, 3) := by decide +kernel
theorem d_Mo_need_136 : decode m_Mo_need.2.1 136 = .ok (.if_icmp .ne 13, 3) := by decide +kernel
theorem d_Mo_need_139 : decode m_Mo_need.2.1 139 = .ok (.iload_n 1, 1) := by decide +kernel
theorem d_Mo_need_140 : decode m_Mo_need.2.1 140 = .ok (.ifCond .ne 7, 3) := by decide +kernel
theorem d_Mo_need_143 : decode m_Mo_need.2.1 143 = .ok (.iconst 2, 1) := by decide +kernel
theorem d_Mo_need_144 : decode m_Mo_need.2.1 144 = .ok (.goto 4, 3) := by decide +kernel
theorem d_Mo_need_147 : decode m_Mo_need.2.1 147 = .ok (.iconst 0, 1) := by decide +kernel
theorem d_Mo_need_148 : decode m_Mo_need.2.1 148 = .ok (.ireturn, 1) := by decide +kernel
theorem d_Mo_need_149 : decode m_Mo_need.2.1 149 = .ok (.iload_n 0, 1) := by decide +kernel
theorem d_Mo_need_150 : decode m_Mo_need.2.1 150 = .ok (.bipush 87, 2) := by decide +kernel
theorem d_Mo_need_152 : decode m_Mo_need.2.1 152 = .ok (.if_icmp .eq 15, 3) := by decide +kernel
theorem d_Mo_need_155 : decode m_Mo_need.2.1 155 = .ok (.iload_n 0, 1) := by decide +kernel
theorem d_Mo_need_156 : decode m_Mo_need.2.1 156 = .ok (.bipush 89, 2) := by decide +kernel
theorem d_Mo_need_158 : decode m_Mo_need.2.1 158 = .ok (.if_icmp .eq 9, 3) := by decide +kernel
theorem d_Mo_need_161 : decode m_Mo_need.2.1 161 = .ok (.iload_n 0, 1) := by decide +kernel
theorem d_Mo_need_162 : decode m_Mo_need.2.1 162 = .ok (.bipush 95, 2) := by decide +kernel
theorem d_Mo_need_164 : decode m_Mo_need.2.1 164 = .ok (.if_icmp .ne 24, 3) := by decide +kernel
theorem d_Mo_need_167 : decode m_Mo_need.2.1 167 = .ok (.iload_n 1, 1) := by decide +kernel
theorem d_Mo_need_168 : decode m_Mo_need.2.1 168 = .ok (.ifCond .eq 14, 3) := by decide +kernel
theorem d_Mo_need_171 : decode m_Mo_need.2.1 171 = .ok (.iload_n 0, 1) := by decide +kernel
theorem d_Mo_need_172 : decode m_Mo_need.2.1 172 = .ok (.bipush 95, 2) := by decide +kernel
theorem d_Mo_need_174 : decode m_Mo_need.2.1 174 = .ok (.if_icmp .ne 12, 3) := by decide +kernel
theorem d_Mo_need_177 : decode m_Mo_need.2.1 177 = .ok (.iload_n 1, 1) := by decide +kernel
theorem d_Mo_need_178 : decode m_Mo_need.2.1 178 = .ok (.iconst 1, 1) := by decide +kernel
theorem d_Mo_need_179 : decode m_Mo_need.2.1 179 = .ok (.if_icmp .ne 7, 3) := by decide +kernel
theorem d_Mo_need_182 : decode m_Mo_need.2.1 182 = .ok (.iconst 3, 1) := by decide +kernel
theorem d_Mo_need_183 : decode m_Mo_need.2.1 183 = .ok (.goto 4, 3) := by decide +kernel
theorem d_Mo_need_186 : decode m_Mo_need.2.1 186 = .ok (.iconst 0, 1) := by decide +kernel
theorem d_Mo_need_187 : decode m_Mo_need.2.1 187 = .ok (.ireturn, 1) := by decide +kernel
theorem d_Mo_need_188 : decode m_Mo_need.2.1 188 = .ok (.iload_n 0, 1) := by decide +kernel
theorem d_Mo_need_189 : decode m_Mo_need.2.1 189 = .ok (.bipush 46, 2) := by decide +kernel
theorem d_Mo_need_191 : decode m_Mo_need.2.1 191 = .ok (.if_icmp .ne 22, 3) := by decide +kernel
theorem d_Mo_need_194 : decode m_Mo_need.2.1 194 = .ok (.iload_n 1, 1) := by decide +kernel
theorem d_Mo_need_195 : decode m_Mo_need.2.1 195 = .ok (.ifCond .ne 7, 3) := by decide +kernel
theorem d_Mo_need_198 : decode m_Mo_need.2.1 198 = .ok (.iconst 1, 1) := by decide +kernel
theorem d_Mo_need_199 : decode m_Mo_need.2.1 199 = .ok (.goto 13, 3) := by decide +kernel
theorem d_Mo_need_202 : decode m_Mo_need.2.1 202 = .ok (.iload_n 1, 1) := by decide +kernel
theorem d_Mo_need_203 : decode m_Mo_need.2.1 203 = .ok (.iconst 1, 1) := by decide +kernel
theorem d_Mo_need_204 : decode m_Mo_need.2.1 204 = .ok (.if_icmp .ne 7, 3) := by decide +kernel
theorem d_Mo_need_207 : decode m_Mo_need.2.1 207 = .ok (.iconst 2, 1) := by decide +kernel
theorem d_Mo_need_208 : decode m_Mo_need.2.1 208 = .ok (.goto 4, 3) := by decide +kernel
theorem d_Mo_need_211 : decode m_Mo_need.2.1 211 = .ok (.iconst 0, 1) := by decide +kernel
theorem d_Mo_need_212 : decode m_Mo_need.2.1 212 = .ok (.ireturn, 1) := by decide +kernel
theorem d_Mo_need_213 : decode m_Mo_need.2.1 213 = .ok (.iload_n 0, 1) := by decide +kernel
theorem d_Mo_need_214 : decode m_Mo_need.2.1 214 = .ok (.bipush 79, 2) := by decide +kernel
theorem d_Mo_need_216 : decode m_Mo_need.2.1 216 = .ok (.if_icmp .ne 8, 3) := by decide +kernel
theorem d_Mo_need_219 : decode m_Mo_need.2.1 219 = .ok (.iload_n 1, 1) := by decide +kernel
theorem d_Mo_need_220 : decode m_Mo_need.2.1 220 = .ok (.iconst 2, 1) := by decide +kernel
theorem d_Mo_need_221 : decode m_Mo_need.2.1 221 = .ok (.if_icmp .le 7, 3) := by decide +kernel
theorem d_Mo_need_224 : decode m_Mo_need.2.1 224 = .ok (.iconst 0, 1) := by decide +kernel
theorem d_Mo_need_225 : decode m_Mo_need.2.1 225 = .ok (.goto 13, 3) := by decide +kernel
theorem d_Mo_need_228 : decode m_Mo_need.2.1 228 = .ok (.iload_n 1, 1) := by decide +kernel
theorem d_Mo_need_229 : decode m_Mo_need.2.1 229 = .ok (.iconst 2, 1) := by decide +kernel
theorem d_Mo_need_230 : decode m_Mo_need.2.1 230 = .ok (.if_icmp .ne 7, 3) := by decide +kernel
theorem d_Mo_need_233 : decode m_Mo_need.2.1 233 = .ok (.iconst 2, 1) := by decide +kernel
theorem d_Mo_need_234 : decode m_Mo_need.2.1 234 = .ok (.goto 4, 3) := by decide +kernel
theorem d_Mo_need_237 : decode m_Mo_need.2.1 237 = .ok (.iconst 1, 1) := by decide +kernel
theorem d_Mo_need_238 : decode m_Mo_need.2.1 238 = .ok (.ireturn, 1) := by decide +kernel
theorem d_Mo_puts_0 : decode m_Mo_puts.2.1 0 = .ok (.iload_n 0, 1) := by decide +kernel
theorem d_Mo_puts_1 : decode m_Mo_puts.2.1 1 = .ok (.iconst 1, 1) := by decide +kernel
theorem d_Mo_puts_2 : decode m_Mo_puts.2.1 2 = .ok (.if_icmp .ne 5, 3) := by decide +kernel
theorem d_Mo_puts_5 : decode m_Mo_puts.2.1 5 = .ok (.iconst 3, 1) := by decide +kernel
theorem d_Mo_puts_6 : decode m_Mo_puts.2.1 6 = .ok (.ireturn, 1) := by decide +kernel
theorem d_Mo_puts_7 : decode m_Mo_puts.2.1 7 = .ok (.iload_n 0, 1) := by decide +kernel
theorem d_Mo_puts_8 : decode m_Mo_puts.2.1 8 = .ok (.sipush 188, 3) := by decide +kernel
theorem d_Mo_puts_11 : decode m_Mo_puts.2.1 11 = .ok (.if_icmp .ne 5, 3) := by decide +kernel
theorem d_Mo_puts_14 : decode m_Mo_puts.2.1 14 = .ok (.iconst 2, 1) := by decide +kernel
theorem d_Mo_puts_15 : decode m_Mo_puts.2.1 15 = .ok (.ireturn, 1) := by decide +kernel
theorem d_Mo_puts_16 : decode m_Mo_puts.2.1 16 = .ok (.iload_n 0, 1) := by decide +kernel
theorem d_Mo_puts_17 : decode m_Mo_puts.2.1 17 = .ok (.bipush 16, 2) := by decide +kernel
theorem d_Mo_puts_19 : decode m_Mo_puts.2.1 19 = .ok (.if_icmp .eq 58, 3) := by decide +kernel
theorem d_Mo_puts_22 : decode m_Mo_puts.2.1 22 = .ok (.iload_n 0, 1) := by decide +kernel
theorem d_Mo_puts_23 : decode m_Mo_puts.2.1 23 = .ok (.bipush 18, 2) := by decide +kernel
theorem d_Mo_puts_25 : decode m_Mo_puts.2.1 25 = .ok (.if_icmp .eq 52, 3) := by decide +kernel
theorem d_Mo_puts_28 : decode m_Mo_puts.2.1 28 = .ok (.iload_n 0, 1) := by decide +kernel
theorem d_Mo_puts_29 : decode m_Mo_puts.2.1 29 = .ok (.bipush 21, 2) := by decide +kernel
theorem d_Mo_puts_31 : decode m_Mo_puts.2.1 31 = .ok (.if_icmp .eq 46, 3) := by decide +kernel
theorem d_Mo_puts_34 : decode m_Mo_puts.2.1 34 = .ok (.iload_n 0, 1) := by decide +kernel
theorem d_Mo_puts_35 : decode m_Mo_puts.2.1 35 = .ok (.bipush 46, 2) := by decide +kernel
theorem d_Mo_puts_37 : decode m_Mo_puts.2.1 37 = .ok (.if_icmp .eq 40, 3) := by decide +kernel
theorem d_Mo_puts_40 : decode m_Mo_puts.2.1 40 = .ok (.iload_n 0, 1) := by decide +kernel
theorem d_Mo_puts_41 : decode m_Mo_puts.2.1 41 = .ok (.bipush 96, 2) := by decide +kernel
theorem d_Mo_puts_43 : decode m_Mo_puts.2.1 43 = .ok (.if_icmp .eq 34, 3) := by decide +kernel
theorem d_Mo_puts_46 : decode m_Mo_puts.2.1 46 = .ok (.iload_n 0, 1) := by decide +kernel
theorem d_Mo_puts_47 : decode m_Mo_puts.2.1 47 = .ok (.bipush 100, 2) := by decide +kernel
theorem d_Mo_puts_49 : decode m_Mo_puts.2.1 49 = .ok (.if_icmp .eq 28, 3) := by decide +kernel
theorem d_Mo_puts_52 : decode m_Mo_puts.2.1 52 = .ok (.iload_n 0, 1) := by decide +kernel
theorem d_Mo_puts_53 : decode m_Mo_puts.2.1 53 = .ok (.bipush 104, 2) := by decide +kernel
theorem d_Mo_puts_55 : decode m_Mo_puts.2.1 55 = .ok (.if_icmp .eq 22, 3) := by decide +kernel
theorem d_Mo_puts_58 : decode m_Mo_puts.2.1 58 = .ok (.iload_n 0, 1) := by decide +kernel
theorem d_Mo_puts_59 : decode m_Mo_puts.2.1 59 = .ok (.bipush 108, 2) := by decide +kernel
theorem d_Mo_puts_61 : decode m_Mo_puts.2.1 61 = .ok (.if_icmp .eq 16, 3) := by decide +kernel
theorem d_Mo_puts_64 : decode m_Mo_puts.2.1 64 = .ok (.iload_n 0, 1) := by decide +kernel
theorem d_Mo_puts_65 : decode m_Mo_puts.2.1 65 = .ok (.bipush 116, 2) := by decide +kernel
theorem d_Mo_puts_67 : decode m_Mo_puts.2.1 67 = .ok (.if_icmp .eq 10, 3) := by decide +kernel
theorem d_Mo_puts_70 : decode m_Mo_puts.2.1 70 = .ok (.iload_n 0, 1) := by decide +kernel
theorem d_Mo_puts_71 : decode m_Mo_puts.2.1 71 = .ok (.sipush 190, 3) := by decide +kernel
theorem d_Mo_puts_74 : decode m_Mo_puts.2.1 74 = .ok (.if_icmp .ne 7, 3) := by decide +kernel
theorem d_Mo_puts_77 : decode m_Mo_puts.2.1 77 = .ok (.iconst 1, 1) := by decide +kernel
theorem d_Mo_puts_78 : decode m_Mo_puts.2.1 78 = .ok (.goto 4, 3) := by decide +kernel
theorem d_Mo_puts_81 : decode m_Mo_puts.2.1 81 = .ok (.iconst 0, 1) := by decide +kernel
theorem d_Mo_puts_82 : decode m_Mo_puts.2.1 82 = .ok (.istore_n 1, 1) := by decide +kernel
theorem d_Mo_puts_83 : decode m_Mo_puts.2.1 83 = .ok (.iload_n 1, 1) := by decide +kernel
theorem d_Mo_puts_84 : decode m_Mo_puts.2.1 84 = .ok (.ifCond .eq 7, 3) := by decide +kernel
theorem d_Mo_puts_87 : decode m_Mo_puts.2.1 87 = .ok (.iconst 1, 1) := by decide +kernel
theorem d_Mo_puts_88 : decode m_Mo_puts.2.1 88 = .ok (.goto 4, 3) := by decide +kernel
theorem d_Mo_puts_91 : decode m_Mo_puts.2.1 91 = .ok (.iconst 0, 1) := by decide +kernel
theorem d_Mo_puts_92 : decode m_Mo_puts.2.1 92 = .ok (.ireturn, 1) := by decide +kernel
theorem d_Mo_type_0 : decode m_Mo_type.2.1 0 = .ok (.aload_n 0, 1) := by decide +kernel
theorem d_Mo_type_1 : decode m_Mo_type.2.1 1 = .ok (.iload_n 3, 1) := by decide +kernel
theorem d_Mo_type_2 : decode m_Mo_type.2.1 2 = .ok (.iconst 1, 1) := by decide +kernel
theorem d_Mo_type_3 : decode m_Mo_type.2.1 3 = .ok (.bipush 8, 2) := by decide +kernel
theorem d_Mo_type_5 : decode m_Mo_type.2.1 5 = .ok (.invokestatic 47, 3) := by decide +kernel
theorem d_Mo_type_8 : decode m_Mo_type.2.1 8 = .ok (.ifCond .ne 7, 3) := by decide +kernel
theorem d_Mo_type_11 : decode m_Mo_type.2.1 11 = .ok (.iconst 1, 1) := by decide +kernel
theorem d_Mo_type_12 : decode m_Mo_type.2.1 12 = .ok (.goto 20, 3) := by decide +kernel
theorem d_Mo_type_15 : decode m_Mo_type.2.1 15 = .ok (.aload_n 0, 1) := by decide +kernel
theorem d_Mo_type_16 : decode m_Mo_type.2.1 16 = .ok (.getfield 61, 3) := by decide +kernel
theorem d_Mo_type_19 : decode m_Mo_type.2.1 19 = .ok (.iload_n 3, 1) := by decide +kernel
theorem d_Mo_type_20 : decode m_Mo_type.2.1 20 = .ok (.iadd, 1) := by decide +kernel
theorem d_Mo_type_21 : decode m_Mo_type.2.1 21 = .ok (.sipush 240, 3) := by decide +kernel
theorem d_Mo_type_24 : decode m_Mo_type.2.1 24 = .ok (.if_icmp .le 7, 3) := by decide +kernel
theorem d_Mo_type_27 : decode m_Mo_type.2.1 27 = .ok (.iconst 2, 1) := by decide +kernel
theorem d_Mo_type_28 : decode m_Mo_type.2.1 28 = .ok (.goto 4, 3) := by decide +kernel
theorem d_Mo_type_31 : decode m_Mo_type.2.1 31 = .ok (.iconst 0, 1) := by decide +kernel
theorem d_Mo_type_32 : decode m_Mo_type.2.1 32 = .ok (.putfield 43, 3) := by decide +kernel
theorem d_Mo_type_35 : decode m_Mo_type.2.1 35 = .ok (.aload_n 0, 1) := by decide +kernel
theorem d_Mo_type_36 : decode m_Mo_type.2.1 36 = .ok (.getfield 43, 3) := by decide +kernel
theorem d_Mo_type_39 : decode m_Mo_type.2.1 39 = .ok (.ifCond .le 5, 3) := by decide +kernel
theorem d_Mo_type_42 : decode m_Mo_type.2.1 42 = .ok (.iconst 0, 1) := by decide +kernel
theorem d_Mo_type_43 : decode m_Mo_type.2.1 43 = .ok (.ireturn, 1) := by decide +kernel
theorem d_Mo_type_44 : decode m_Mo_type.2.1 44 = .ok (.iload_n 3, 1) := by decide +kernel
theorem d_Mo_type_45 : decode m_Mo_type.2.1 45 = .ok (.iconst 1, 1) := by decide +kernel
theorem d_Mo_type_46 : decode m_Mo_type.2.1 46 = .ok (.isub, 1) := by decide +kernel
theorem d_Mo_type_47 : decode m_Mo_type.2.1 47 = .ok (.istore 4, 2) := by decide +kernel
theorem d_Mo_type_49 : decode m_Mo_type.2.1 49 = .ok (.iload 4, 2) := by decide +kernel
theorem d_Mo_type_51 : decode m_Mo_type.2.1 51 = .ok (.ifCond .lt 40, 3) := by decide +kernel
theorem d_Mo_type_54 : decode m_Mo_type.2.1 54 = .ok (.aload_n 0, 1) := by decide +kernel
theorem d_Mo_type_55 : decode m_Mo_type.2.1 55 = .ok (.getfield 7, 3) := by decide +kernel
theorem d_Mo_type_58 : decode m_Mo_type.2.1 58 = .ok (.aload_n 0, 1) := by decide +kernel
theorem d_Mo_type_59 : decode m_Mo_type.2.1 59 = .ok (.getfield 61, 3) := by decide +kernel
theorem d_Mo_type_62 : decode m_Mo_type.2.1 62 = .ok (.lload_n 1, 1) := by decide +kernel
theorem d_Mo_type_63 : decode m_Mo_type.2.1 63 = .ok (.bipush 8, 2) := by decide +kernel
theorem d_Mo_type_65 : decode m_Mo_type.2.1 65 = .ok (.iload 4, 2) := by decide +kernel
theorem d_Mo_type_67 : decode m_Mo_type.2.1 67 = .ok (.imul, 1) := by decide +kernel
theorem d_Mo_type_68 : decode m_Mo_type.2.1 68 = .ok (.lshr, 1) := by decide +kernel
theorem d_Mo_type_69 : decode m_Mo_type.2.1 69 = .ok (.l2i, 1) := by decide +kernel
theorem d_Mo_type_70 : decode m_Mo_type.2.1 70 = .ok (.sipush 255, 3) := by decide +kernel
theorem d_Mo_type_73 : decode m_Mo_type.2.1 73 = .ok (.iand, 1) := by decide +kernel
theorem d_Mo_type_74 : decode m_Mo_type.2.1 74 = .ok (.iastore, 1) := by decide +kernel
theorem d_Mo_type_75 : decode m_Mo_type.2.1 75 = .ok (.aload_n 0, 1) := by decide +kernel
theorem d_Mo_type_76 : decode m_Mo_type.2.1 76 = .ok (.dup, 1) := by decide +kernel
theorem d_Mo_type_77 : decode m_Mo_type.2.1 77 = .ok (.getfield 61, 3) := by decide +kernel
theorem d_Mo_type_80 : decode m_Mo_type.2.1 80 = .ok (.iconst 1, 1) := by decide +kernel
theorem d_Mo_type_81 : decode m_Mo_type.2.1 81 = .ok (.iadd, 1) := by decide +kernel
theorem d_Mo_type_82 : decode m_Mo_type.2.1 82 = .ok (.putfield 61, 3) := by decide +kernel
theorem d_Mo_type_85 : decode m_Mo_type.2.1 85 = .ok (.iinc 4 (-1), 3) := by decide +kernel
theorem d_Mo_type_88 : decode m_Mo_type.2.1 88 = .ok (.goto (-39), 3) := by decide +kernel
theorem d_Mo_type_91 : decode m_Mo_type.2.1 91 = .ok (.aload_n 0, 1) := by decide +kernel
theorem d_Mo_type_92 : decode m_Mo_type.2.1 92 = .ok (.getfield 61, 3) := by decide +kernel
theorem d_Mo_type_95 : decode m_Mo_type.2.1 95 = .ok (.ireturn, 1) := by decide +kernel
theorem d_Mo_poke_0 : decode m_Mo_poke.2.1 0 = .ok (.aload_n 0, 1) := by decide +kernel
theorem d_Mo_poke_1 : decode m_Mo_poke.2.1 1 = .ok (.iload_n 1, 1) := by decide +kernel
theorem d_Mo_poke_2 : decode m_Mo_poke.2.1 2 = .ok (.iconst 0, 1) := by decide +kernel
theorem d_Mo_poke_3 : decode m_Mo_poke.2.1 3 = .ok (.aload_n 0, 1) := by decide +kernel
theorem d_Mo_poke_4 : decode m_Mo_poke.2.1 4 = .ok (.getfield 61, 3) := by decide +kernel
theorem d_Mo_poke_7 : decode m_Mo_poke.2.1 7 = .ok (.iconst 1, 1) := by decide +kernel
theorem d_Mo_poke_8 : decode m_Mo_poke.2.1 8 = .ok (.isub, 1) := by decide +kernel
theorem d_Mo_poke_9 : decode m_Mo_poke.2.1 9 = .ok (.invokestatic 47, 3) := by decide +kernel
theorem d_Mo_poke_12 : decode m_Mo_poke.2.1 12 = .ok (.ifCond .ne 7, 3) := by decide +kernel
theorem d_Mo_poke_15 : decode m_Mo_poke.2.1 15 = .ok (.iconst 1, 1) := by decide +kernel
theorem d_Mo_poke_16 : decode m_Mo_poke.2.1 16 = .ok (.goto 19, 3) := by decide +kernel
theorem d_Mo_poke_19 : decode m_Mo_poke.2.1 19 = .ok (.iload_n 2, 1) := by decide +kernel
theorem d_Mo_poke_20 : decode m_Mo_poke.2.1 20 = .ok (.iconst 0, 1) := by decide +kernel
theorem d_Mo_poke_21 : decode m_Mo_poke.2.1 21 = .ok (.sipush 255, 3) := by decide +kernel
theorem d_Mo_poke_24 : decode m_Mo_poke.2.1 24 = .ok (.invokestatic 47, 3) := by decide +kernel
theorem d_Mo_poke_27 : decode m_Mo_poke.2.1 27 = .ok (.ifCond .eq 7, 3) := by decide +kernel
theorem d_Mo_poke_30 : decode m_Mo_poke.2.1 30 = .ok (.iconst 0, 1) := by decide +kernel
theorem d_Mo_poke_31 : decode m_Mo_poke.2.1 31 = .ok (.goto 4, 3) := by decide +kernel
theorem d_Mo_poke_34 : decode m_Mo_poke.2.1 34 = .ok (.iconst 2, 1) := by decide +kernel
theorem d_Mo_poke_35 : decode m_Mo_poke.2.1 35 = .ok (.putfield 43, 3) := by decide +kernel
end
section
theorem d_Mo_poke_38 : decode m_Mo_poke.2.1 38 = .ok (.aload_n 0, 1) := by decide +kernel
theorem d_Mo_poke_39 : decode m_Mo_poke.2.1 39 = .ok (.getfield 43, 3) := by decide +kernel
theorem d_Mo_poke_42 : decode m_Mo_poke.2.1 42 = .ok (.ifCond .ne 10, 3) := by decide +kernel
theorem d_Mo_poke_45 : decode m_Mo_poke.2.1 45 = .ok (.aload_n 0, 1) := by decide +kernel
theorem d_Mo_poke_46 : decode m_Mo_poke.2.1 46 = .ok (.getfield 7, 3) := by decide +kernel
theorem d_Mo_poke_49 : decode m_Mo_poke.2.1 49 = .ok (.iload_n 1, 1) := by decide +kernel
theorem d_Mo_poke_50 : decode m_Mo_poke.2.1 50 = .ok (.iload_n 2, 1) := by decide +kernel
theorem d_Mo_poke_51 : decode m_Mo_poke.2.1 51 = .ok (.iastore, 1) := by decide +kernel
theorem d_Mo_poke_52 : decode m_Mo_poke.2.1 52 = .ok (.return_, 1) := by decide +kernel
theorem d_Mo_size_0 : decode m_Mo_size.2.1 0 = .ok (.aload_n 0, 1) := by decide +kernel
theorem d_Mo_size_1 : decode m_Mo_size.2.1 1 = .ok (.iconst 0, 1) := by decide +kernel
theorem d_Mo_size_2 : decode m_Mo_size.2.1 2 = .ok (.putfield 43, 3) := by decide +kernel
theorem d_Mo_size_5 : decode m_Mo_size.2.1 5 = .ok (.aload_n 0, 1) := by decide +kernel
theorem d_Mo_size_6 : decode m_Mo_size.2.1 6 = .ok (.getfield 61, 3) := by decide +kernel
theorem d_Mo_size_9 : decode m_Mo_size.2.1 9 = .ok (.ireturn, 1) := by decide +kernel
theorem d_Mo_byteAt_0 : decode m_Mo_byteAt.2.1 0 = .ok (.aload_n 0, 1) := by decide +kernel
theorem d_Mo_byteAt_1 : decode m_Mo_byteAt.2.1 1 = .ok (.iload_n 1, 1) := by decide +kernel
theorem d_Mo_byteAt_2 : decode m_Mo_byteAt.2.1 2 = .ok (.iconst 0, 1) := by decide +kernel
theorem d_Mo_byteAt_3 : decode m_Mo_byteAt.2.1 3 = .ok (.aload_n 0, 1) := by decide +kernel
theorem d_Mo_byteAt_4 : decode m_Mo_byteAt.2.1 4 = .ok (.getfield 61, 3) := by decide +kernel
theorem d_Mo_byteAt_7 : decode m_Mo_byteAt.2.1 7 = .ok (.iconst 1, 1) := by decide +kernel
theorem d_Mo_byteAt_8 : decode m_Mo_byteAt.2.1 8 = .ok (.isub, 1) := by decide +kernel
theorem d_Mo_byteAt_9 : decode m_Mo_byteAt.2.1 9 = .ok (.invokestatic 47, 3) := by decide +kernel
theorem d_Mo_byteAt_12 : decode m_Mo_byteAt.2.1 12 = .ok (.ifCond .eq 7, 3) := by decide +kernel
theorem d_Mo_byteAt_15 : decode m_Mo_byteAt.2.1 15 = .ok (.iconst 0, 1) := by decide +kernel
theorem d_Mo_byteAt_16 : decode m_Mo_byteAt.2.1 16 = .ok (.goto 4, 3) := by decide +kernel
theorem d_Mo_byteAt_19 : decode m_Mo_byteAt.2.1 19 = .ok (.iconst 1, 1) := by decide +kernel
theorem d_Mo_byteAt_20 : decode m_Mo_byteAt.2.1 20 = .ok (.putfield 43, 3) := by decide +kernel
theorem d_Mo_byteAt_23 : decode m_Mo_byteAt.2.1 23 = .ok (.aload_n 0, 1) := by decide +kernel
theorem d_Mo_byteAt_24 : decode m_Mo_byteAt.2.1 24 = .ok (.getfield 43, 3) := by decide +kernel
theorem d_Mo_byteAt_27 : decode m_Mo_byteAt.2.1 27 = .ok (.ifCond .le 7, 3) := by decide +kernel
theorem d_Mo_byteAt_30 : decode m_Mo_byteAt.2.1 30 = .ok (.iconst 0, 1) := by decide +kernel
theorem d_Mo_byteAt_31 : decode m_Mo_byteAt.2.1 31 = .ok (.goto 9, 3) := by decide +kernel
theorem d_Mo_byteAt_34 : decode m_Mo_byteAt.2.1 34 = .ok (.aload_n 0, 1) := by decide +kernel
theorem d_Mo_byteAt_35 : decode m_Mo_byteAt.2.1 35 = .ok (.getfield 7, 3) := by decide +kernel
theorem d_Mo_byteAt_38 : decode m_Mo_byteAt.2.1 38 = .ok (.iload_n 1, 1) := by decide +kernel
theorem d_Mo_byteAt_39 : decode m_Mo_byteAt.2.1 39 = .ok (.iaload, 1) := by decide +kernel
theorem d_Mo_byteAt_40 : decode m_Mo_byteAt.2.1 40 = .ok (.ireturn, 1) := by decide +kernel
theorem d_Mo_clear_0 : decode m_Mo_clear.2.1 0 = .ok (.aload_n 0, 1) := by decide +kernel
theorem d_Mo_clear_1 : decode m_Mo_clear.2.1 1 = .ok (.iconst 0, 1) := by decide +kernel
theorem d_Mo_clear_2 : decode m_Mo_clear.2.1 2 = .ok (.putfield 43, 3) := by decide +kernel
theorem d_Mo_clear_5 : decode m_Mo_clear.2.1 5 = .ok (.aload_n 0, 1) := by decide +kernel
theorem d_Mo_clear_6 : decode m_Mo_clear.2.1 6 = .ok (.iconst 0, 1) := by decide +kernel
theorem d_Mo_clear_7 : decode m_Mo_clear.2.1 7 = .ok (.putfield 61, 3) := by decide +kernel
theorem d_Mo_clear_10 : decode m_Mo_clear.2.1 10 = .ok (.return_, 1) := by decide +kernel
theorem d_Mo_next_0 : decode m_Mo_next.2.1 0 = .ok (.aload_n 0, 1) := by decide +kernel
theorem d_Mo_next_1 : decode m_Mo_next.2.1 1 = .ok (.getfield 64, 3) := by decide +kernel
theorem d_Mo_next_4 : decode m_Mo_next.2.1 4 = .ok (.ifCond .ne 31, 3) := by decide +kernel
theorem d_Mo_next_7 : decode m_Mo_next.2.1 7 = .ok (.aload_n 0, 1) := by decide +kernel
theorem d_Mo_next_8 : decode m_Mo_next.2.1 8 = .ok (.getfield 68, 3) := by decide +kernel
theorem d_Mo_next_11 : decode m_Mo_next.2.1 11 = .ok (.aload_n 0, 1) := by decide +kernel
theorem d_Mo_next_12 : decode m_Mo_next.2.1 12 = .ok (.getfield 61, 3) := by decide +kernel
theorem d_Mo_next_15 : decode m_Mo_next.2.1 15 = .ok (.if_icmp .ge 20, 3) := by decide +kernel
theorem d_Mo_next_18 : decode m_Mo_next.2.1 18 = .ok (.aload_n 0, 1) := by decide +kernel
theorem d_Mo_next_19 : decode m_Mo_next.2.1 19 = .ok (.getfield 7, 3) := by decide +kernel
theorem d_Mo_next_22 : decode m_Mo_next.2.1 22 = .ok (.aload_n 0, 1) := by decide +kernel
theorem d_Mo_next_23 : decode m_Mo_next.2.1 23 = .ok (.getfield 68, 3) := by decide +kernel
theorem d_Mo_next_26 : decode m_Mo_next.2.1 26 = .ok (.iaload, 1) := by decide +kernel
theorem d_Mo_next_27 : decode m_Mo_next.2.1 27 = .ok (.iload_n 1, 1) := by decide +kernel
theorem d_Mo_next_28 : decode m_Mo_next.2.1 28 = .ok (.iload_n 2, 1) := by decide +kernel
theorem d_Mo_next_29 : decode m_Mo_next.2.1 29 = .ok (.invokestatic 47, 3) := by decide +kernel
theorem d_Mo_next_32 : decode m_Mo_next.2.1 32 = .ok (.ifCond .ne 10, 3) := by decide +kernel
theorem d_Mo_next_35 : decode m_Mo_next.2.1 35 = .ok (.aload_n 0, 1) := by decide +kernel
theorem d_Mo_next_36 : decode m_Mo_next.2.1 36 = .ok (.iconst 1, 1) := by decide +kernel
theorem d_Mo_next_37 : decode m_Mo_next.2.1 37 = .ok (.putfield 64, 3) := by decide +kernel
theorem d_Mo_next_40 : decode m_Mo_next.2.1 40 = .ok (.iconst 0, 1) := by decide +kernel
theorem d_Mo_next_41 : decode m_Mo_next.2.1 41 = .ok (.ireturn, 1) := by decide +kernel
theorem d_Mo_next_42 : decode m_Mo_next.2.1 42 = .ok (.aload_n 0, 1) := by decide +kernel
theorem d_Mo_next_43 : decode m_Mo_next.2.1 43 = .ok (.dup, 1) := by decide +kernel
theorem d_Mo_next_44 : decode m_Mo_next.2.1 44 = .ok (.getfield 68, 3) := by decide +kernel
theorem d_Mo_next_47 : decode m_Mo_next.2.1 47 = .ok (.iconst 1, 1) := by decide +kernel
theorem d_Mo_next_48 : decode m_Mo_next.2.1 48 = .ok (.iadd, 1) := by decide +kernel
theorem d_Mo_next_49 : decode m_Mo_next.2.1 49 = .ok (.putfield 68, 3) := by decide +kernel
theorem d_Mo_next_52 : decode m_Mo_next.2.1 52 = .ok (.aload_n 0, 1) := by decide +kernel
theorem d_Mo_next_53 : decode m_Mo_next.2.1 53 = .ok (.getfield 7, 3) := by decide +kernel
theorem d_Mo_next_56 : decode m_Mo_next.2.1 56 = .ok (.aload_n 0, 1) := by decide +kernel
theorem d_Mo_next_57 : decode m_Mo_next.2.1 57 = .ok (.getfield 68, 3) := by decide +kernel
theorem d_Mo_next_60 : decode m_Mo_next.2.1 60 = .ok (.iconst 1, 1) := by decide +kernel
theorem d_Mo_next_61 : decode m_Mo_next.2.1 61 = .ok (.isub, 1) := by decide +kernel
theorem d_Mo_next_62 : decode m_Mo_next.2.1 62 = .ok (.iaload, 1) := by decide +kernel
theorem d_Mo_next_63 : decode m_Mo_next.2.1 63 = .ok (.ireturn, 1) := by decide +kernel
theorem d_Mo_skip_0 : decode m_Mo_skip.2.1 0 = .ok (.iconst 0, 1) := by decide +kernel
theorem d_Mo_skip_1 : decode m_Mo_skip.2.1 1 = .ok (.istore 4, 2) := by decide +kernel
theorem d_Mo_skip_3 : decode m_Mo_skip.2.1 3 = .ok (.iload 4, 2) := by decide +kernel
theorem d_Mo_skip_5 : decode m_Mo_skip.2.1 5 = .ok (.iload_n 1, 1) := by decide +kernel
theorem d_Mo_skip_6 : decode m_Mo_skip.2.1 6 = .ok (.if_icmp .ge 38, 3) := by decide +kernel
theorem d_Mo_skip_9 : decode m_Mo_skip.2.1 9 = .ok (.aload_n 0, 1) := by decide +kernel
theorem d_Mo_skip_10 : decode m_Mo_skip.2.1 10 = .ok (.iload_n 2, 1) := by decide +kernel
theorem d_Mo_skip_11 : decode m_Mo_skip.2.1 11 = .ok (.iload_n 3, 1) := by decide +kernel
theorem d_Mo_skip_12 : decode m_Mo_skip.2.1 12 = .ok (.invokevirtual 71, 3) := by decide +kernel
theorem d_Mo_skip_15 : decode m_Mo_skip.2.1 15 = .ok (.istore 5, 2) := by decide +kernel
theorem d_Mo_skip_17 : decode m_Mo_skip.2.1 17 = .ok (.aload_n 0, 1) := by decide +kernel
theorem d_Mo_skip_18 : decode m_Mo_skip.2.1 18 = .ok (.aload_n 0, 1) := by decide +kernel
theorem d_Mo_skip_19 : decode m_Mo_skip.2.1 19 = .ok (.getfield 64, 3) := by decide +kernel
theorem d_Mo_skip_22 : decode m_Mo_skip.2.1 22 = .ok (.ifCond .ne 8, 3) := by decide +kernel
theorem d_Mo_skip_25 : decode m_Mo_skip.2.1 25 = .ok (.iload 5, 2) := by decide +kernel
theorem d_Mo_skip_27 : decode m_Mo_skip.2.1 27 = .ok (.ifCond .ge 7, 3) := by decide +kernel
theorem d_Mo_skip_30 : decode m_Mo_skip.2.1 30 = .ok (.iconst 1, 1) := by decide +kernel
theorem d_Mo_skip_31 : decode m_Mo_skip.2.1 31 = .ok (.goto 4, 3) := by decide +kernel
theorem d_Mo_skip_34 : decode m_Mo_skip.2.1 34 = .ok (.iconst 0, 1) := by decide +kernel
theorem d_Mo_skip_35 : decode m_Mo_skip.2.1 35 = .ok (.putfield 64, 3) := by decide +kernel
theorem d_Mo_skip_38 : decode m_Mo_skip.2.1 38 = .ok (.iinc 4 1, 3) := by decide +kernel
theorem d_Mo_skip_41 : decode m_Mo_skip.2.1 41 = .ok (.goto (-38), 3) := by decide +kernel
theorem d_Mo_skip_44 : decode m_Mo_skip.2.1 44 = .ok (.return_, 1) := by decide +kernel
theorem d_Mo_readInstruction_0 : decode m_Mo_readInstruction.2.1 0 = .ok (.aload_n 0, 1) := by decide +kernel
theorem d_Mo_readInstruction_1 : decode m_Mo_readInstruction.2.1 1 = .ok (.iconst 0, 1) := by decide +kernel
theorem d_Mo_readInstruction_2 : decode m_Mo_readInstruction.2.1 2 = .ok (.sipush 255, 3) := by decide +kernel
theorem d_Mo_readInstruction_5 : decode m_Mo_readInstruction.2.1 5 = .ok (.invokevirtual 71, 3) := by decide +kernel
theorem d_Mo_readInstruction_8 : decode m_Mo_readInstruction.2.1 8 = .ok (.istore 5, 2) := by decide +kernel
theorem d_Mo_readInstruction_10 : decode m_Mo_readInstruction.2.1 10 = .ok (.aload_n 0, 1) := by decide +kernel
theorem d_Mo_readInstruction_11 : decode m_Mo_readInstruction.2.1 11 = .ok (.getfield 64, 3) := by decide +kernel
theorem d_Mo_readInstruction_14 : decode m_Mo_readInstruction.2.1 14 = .ok (.ifCond .eq 7, 3) := by decide +kernel
theorem d_Mo_readInstruction_17 : decode m_Mo_readInstruction.2.1 17 = .ok (.iconst 0, 1) := by decide +kernel
theorem d_Mo_readInstruction_18 : decode m_Mo_readInstruction.2.1 18 = .ok (.goto 8, 3) := by decide +kernel
theorem d_Mo_readInstruction_21 : decode m_Mo_readInstruction.2.1 21 = .ok (.iload 5, 2) := by decide +kernel
theorem d_Mo_readInstruction_23 : decode m_Mo_readInstruction.2.1 23 = .ok (.invokestatic 75, 3) := by decide +kernel
theorem d_Mo_readInstruction_26 : decode m_Mo_readInstruction.2.1 26 = .ok (.istore 6, 2) := by decide +kernel
theorem d_Mo_readInstruction_28 : decode m_Mo_readInstruction.2.1 28 = .ok (.aload_n 0, 1) := by decide +kernel
theorem d_Mo_readInstruction_29 : decode m_Mo_readInstruction.2.1 29 = .ok (.getfield 64, 3) := by decide +kernel
theorem d_Mo_readInstruction_32 : decode m_Mo_readInstruction.2.1 32 = .ok (.ifCond .ne 23, 3) := by decide +kernel
theorem d_Mo_readInstruction_35 : decode m_Mo_readInstruction.2.1 35 = .ok (.iload 6, 2) := by decide +kernel
theorem d_Mo_readInstruction_37 : decode m_Mo_readInstruction.2.1 37 = .ok (.ifCond .ne 18, 3) := by decide +kernel
theorem d_Mo_readInstruction_40 : decode m_Mo_readInstruction.2.1 40 = .ok (.aload_n 0, 1) := by decide +kernel
theorem d_Mo_readInstruction_41 : decode m_Mo_readInstruction.2.1 41 = .ok (.dup, 1) := by decide +kernel
theorem d_Mo_readInstruction_42 : decode m_Mo_readInstruction.2.1 42 = .ok (.getfield 68, 3) := by decide +kernel
theorem d_Mo_readInstruction_45 : decode m_Mo_readInstruction.2.1 45 = .ok (.iconst 1, 1) := by decide +kernel
theorem d_Mo_readInstruction_46 : decode m_Mo_readInstruction.2.1 46 = .ok (.isub, 1) := by decide +kernel
theorem d_Mo_readInstruction_47 : decode m_Mo_readInstruction.2.1 47 = .ok (.putfield 68, 3) := by decide +kernel
theorem d_Mo_readInstruction_50 : decode m_Mo_readInstruction.2.1 50 = .ok (.aload_n 0, 1) := by decide +kernel
theorem d_Mo_readInstruction_51 : decode m_Mo_readInstruction.2.1 51 = .ok (.iconst 1, 1) := by decide +kernel
theorem d_Mo_readInstruction_52 : decode m_Mo_readInstruction.2.1 52 = .ok (.putfield 64, 3) := by decide +kernel
theorem d_Mo_readInstruction_55 : decode m_Mo_readInstruction.2.1 55 = .ok (.iconst 1, 1) := by decide +kernel
theorem d_Mo_readInstruction_56 : decode m_Mo_readInstruction.2.1 56 = .ok (.istore 7, 2) := by decide +kernel
theorem d_Mo_readInstruction_58 : decode m_Mo_readInstruction.2.1 58 = .ok (.iload 7, 2) := by decide +kernel
theorem d_Mo_readInstruction_60 : decode m_Mo_readInstruction.2.1 60 = .ok (.iload 6, 2) := by decide +kernel
theorem d_Mo_readInstruction_62 : decode m_Mo_readInstruction.2.1 62 = .ok (.if_icmp .ge 111, 3) := by decide +kernel
theorem d_Mo_readInstruction_65 : decode m_Mo_readInstruction.2.1 65 = .ok (.aload_n 0, 1) := by decide +kernel
theorem d_Mo_readInstruction_66 : decode m_Mo_readInstruction.2.1 66 = .ok (.getfield 64, 3) := by decide +kernel
theorem d_Mo_readInstruction_69 : decode m_Mo_readInstruction.2.1 69 = .ok (.ifCond .ne 104, 3) := by decide +kernel
theorem d_Mo_readInstruction_72 : decode m_Mo_readInstruction.2.1 72 = .ok (.iload 7, 2) := by decide +kernel
theorem d_Mo_readInstruction_74 : decode m_Mo_readInstruction.2.1 74 = .ok (.iconst 1, 1) := by decide +kernel
theorem d_Mo_readInstruction_75 : decode m_Mo_readInstruction.2.1 75 = .ok (.if_icmp .le 9, 3) := by decide +kernel
theorem d_Mo_readInstruction_78 : decode m_Mo_readInstruction.2.1 78 = .ok (.sipush 255, 3) := by decide +kernel
theorem d_Mo_readInstruction_81 : decode m_Mo_readInstruction.2.1 81 = .ok (.goto 48, 3) := by decide +kernel
theorem d_Mo_readInstruction_84 : decode m_Mo_readInstruction.2.1 84 = .ok (.iload 5, 2) := by decide +kernel
theorem d_Mo_readInstruction_86 : decode m_Mo_readInstruction.2.1 86 = .ok (.bipush 18, 2) := by decide +kernel
theorem d_Mo_readInstruction_88 : decode m_Mo_readInstruction.2.1 88 = .ok (.if_icmp .ne 9, 3) := by decide +kernel
theorem d_Mo_readInstruction_91 : decode m_Mo_readInstruction.2.1 91 = .ok (.iload_n 2, 1) := by decide +kernel
theorem d_Mo_readInstruction_92 : decode m_Mo_readInstruction.2.1 92 = .ok (.iconst 1, 1) := by decide +kernel
theorem d_Mo_readInstruction_93 : decode m_Mo_readInstruction.2.1 93 = .ok (.isub, 1) := by decide +kernel
theorem d_Mo_readInstruction_94 : decode m_Mo_readInstruction.2.1 94 = .ok (.goto 35, 3) := by decide +kernel
theorem d_Mo_readInstruction_97 : decode m_Mo_readInstruction.2.1 97 = .ok (.iload 5, 2) := by decide +kernel
theorem d_Mo_readInstruction_99 : decode m_Mo_readInstruction.2.1 99 = .ok (.sipush 184, 3) := by decide +kernel
theorem d_Mo_readInstruction_102 : decode m_Mo_readInstruction.2.1 102 = .ok (.if_icmp .ne 9, 3) := by decide +kernel
theorem d_Mo_readInstruction_105 : decode m_Mo_readInstruction.2.1 105 = .ok (.iload_n 3, 1) := by decide +kernel
theorem d_Mo_readInstruction_106 : decode m_Mo_readInstruction.2.1 106 = .ok (.iconst 1, 1) := by decide +kernel
theorem d_Mo_readInstruction_107 : decode m_Mo_readInstruction.2.1 107 = .ok (.isub, 1) := by decide +kernel
theorem d_Mo_readInstruction_108 : decode m_Mo_readInstruction.2.1 108 = .ok (.goto 21, 3) := by decide +kernel
theorem d_Mo_readInstruction_111 : decode m_Mo_readInstruction.2.1 111 = .ok (.iload 5, 2) := by decide +kernel
theorem d_Mo_readInstruction_113 : decode m_Mo_readInstruction.2.1 113 = .ok (.invokestatic 55, 3) := by decide +kernel
theorem d_Mo_readInstruction_116 : decode m_Mo_readInstruction.2.1 116 = .ok (.ifCond .eq 10, 3) := by decide +kernel
theorem d_Mo_readInstruction_119 : decode m_Mo_readInstruction.2.1 119 = .ok (.iload 4, 2) := by decide +kernel
theorem d_Mo_readInstruction_121 : decode m_Mo_readInstruction.2.1 121 = .ok (.iconst 1, 1) := by decide +kernel
theorem d_Mo_readInstruction_122 : decode m_Mo_readInstruction.2.1 122 = .ok (.isub, 1) := by decide +kernel
theorem d_Mo_readInstruction_123 : decode m_Mo_readInstruction.2.1 123 = .ok (.goto 6, 3) := by decide +kernel
theorem d_Mo_readInstruction_126 : decode m_Mo_readInstruction.2.1 126 = .ok (.sipush 255, 3) := by decide +kernel
theorem d_Mo_readInstruction_129 : decode m_Mo_readInstruction.2.1 129 = .ok (.istore 8, 2) := by decide +kernel
theorem d_Mo_readInstruction_131 : decode m_Mo_readInstruction.2.1 131 = .ok (.aload_n 0, 1) := by decide +kernel
theorem d_Mo_readInstruction_132 : decode m_Mo_readInstruction.2.1 132 = .ok (.aload_n 0, 1) := by decide +kernel
theorem d_Mo_readInstruction_133 : decode m_Mo_readInstruction.2.1 133 = .ok (.getfield 68, 3) := by decide +kernel
theorem d_Mo_readInstruction_136 : decode m_Mo_readInstruction.2.1 136 = .ok (.iload_n 1, 1) := by decide +kernel
theorem d_Mo_readInstruction_137 : decode m_Mo_readInstruction.2.1 137 = .ok (.if_icmp .ne 7, 3) := by decide +kernel
theorem d_Mo_readInstruction_140 : decode m_Mo_readInstruction.2.1 140 = .ok (.iconst 1, 1) := by decide +kernel
theorem d_Mo_readInstruction_141 : decode m_Mo_readInstruction.2.1 141 = .ok (.goto 4, 3) := by decide +kernel
theorem d_Mo_readInstruction_144 : decode m_Mo_readInstruction.2.1 144 = .ok (.iconst 0, 1) := by decide +kernel
theorem d_Mo_readInstruction_145 : decode m_Mo_readInstruction.2.1 145 = .ok (.putfield 64, 3) := by decide +kernel
theorem d_Mo_readInstruction_148 : decode m_Mo_readInstruction.2.1 148 = .ok (.aload_n 0, 1) := by decide +kernel
theorem d_Mo_readInstruction_149 : decode m_Mo_readInstruction.2.1 149 = .ok (.aload_n 0, 1) := by decide +kernel
theorem d_Mo_readInstruction_150 : decode m_Mo_readInstruction.2.1 150 = .ok (.getfield 64, 3) := by decide +kernel
theorem d_Mo_readInstruction_153 : decode m_Mo_readInstruction.2.1 153 = .ok (.ifCond .eq 7, 3) := by decide +kernel
theorem d_Mo_readInstruction_156 : decode m_Mo_readInstruction.2.1 156 = .ok (.iconst 0, 1) := by decide +kernel
theorem d_Mo_readInstruction_157 : decode m_Mo_readInstruction.2.1 157 = .ok (.goto 4, 3) := by decide +kernel
theorem d_Mo_readInstruction_160 : decode m_Mo_readInstruction.2.1 160 = .ok (.iconst 1, 1) := by decide +kernel
theorem d_Mo_readInstruction_161 : decode m_Mo_readInstruction.2.1 161 = .ok (.iconst 0, 1) := by decide +kernel
theorem d_Mo_readInstruction_162 : decode m_Mo_readInstruction.2.1 162 = .ok (.iload 8, 2) := by decide +kernel
theorem d_Mo_readInstruction_164 : decode m_Mo_readInstruction.2.1 164 = .ok (.invokevirtual 79, 3) := by decide +kernel
theorem d_Mo_readInstruction_167 : decode m_Mo_readInstruction.2.1 167 = .ok (.iinc 7 1, 3) := by decide +kernel
theorem d_Mo_readInstruction_170 : decode m_Mo_readInstruction.2.1 170 = .ok (.goto (-112), 3) := by decide +kernel
theorem d_Mo_readInstruction_173 : decode m_Mo_readInstruction.2.1 173 = .ok (.return_, 1) := by decide +kernel
theorem d_Mo_begins_0 : decode m_Mo_begins.2.1 0 = .ok (.iconst 0, 1) := by decide +kernel
theorem d_Mo_begins_1 : decode m_Mo_begins.2.1 1 = .ok (.istore 4, 2) := by decide +kernel
theorem d_Mo_begins_3 : decode m_Mo_begins.2.1 3 = .ok (.iload 4, 2) := by decide +kernel
theorem d_Mo_begins_5 : decode m_Mo_begins.2.1 5 = .ok (.iload_n 2, 1) := by decide +kernel
theorem d_Mo_begins_6 : decode m_Mo_begins.2.1 6 = .ok (.if_icmp .ge 29, 3) := by decide +kernel
theorem d_Mo_begins_9 : decode m_Mo_begins.2.1 9 = .ok (.iload 4, 2) := by decide +kernel
theorem d_Mo_begins_11 : decode m_Mo_begins.2.1 11 = .ok (.iload_n 3, 1) := by decide +kernel
theorem d_Mo_begins_12 : decode m_Mo_begins.2.1 12 = .ok (.if_icmp .ge 23, 3) := by decide +kernel
theorem d_Mo_begins_15 : decode m_Mo_begins.2.1 15 = .ok (.iload 4, 2) := by decide +kernel
theorem d_Mo_begins_17 : decode m_Mo_begins.2.1 17 = .ok (.aload_n 0, 1) := by decide +kernel
theorem d_Mo_begins_18 : decode m_Mo_begins.2.1 18 = .ok (.getfield 7, 3) := by decide +kernel
theorem d_Mo_begins_21 : decode m_Mo_begins.2.1 21 = .ok (.iload_n 1, 1) := by decide +kernel
theorem d_Mo_begins_22 : decode m_Mo_begins.2.1 22 = .ok (.iload 4, 2) := by decide +kernel
theorem d_Mo_begins_24 : decode m_Mo_begins.2.1 24 = .ok (.iadd, 1) := by decide +kernel
theorem d_Mo_begins_25 : decode m_Mo_begins.2.1 25 = .ok (.iaload, 1) := by decide +kernel
theorem d_Mo_begins_26 : decode m_Mo_begins.2.1 26 = .ok (.invokestatic 75, 3) := by decide +kernel
theorem d_Mo_begins_29 : decode m_Mo_begins.2.1 29 = .ok (.iadd, 1) := by decide +kernel
theorem d_Mo_begins_30 : decode m_Mo_begins.2.1 30 = .ok (.istore 4, 2) := by decide +kernel
theorem d_Mo_begins_32 : decode m_Mo_begins.2.1 32 = .ok (.goto (-29), 3) := by decide +kernel
theorem d_Mo_begins_35 : decode m_Mo_begins.2.1 35 = .ok (.iload 4, 2) := by decide +kernel
theorem d_Mo_begins_37 : decode m_Mo_begins.2.1 37 = .ok (.iload_n 3, 1) := by decide +kernel
theorem d_Mo_begins_38 : decode m_Mo_begins.2.1 38 = .ok (.if_icmp .ne 13, 3) := by decide +kernel
theorem d_Mo_begins_41 : decode m_Mo_begins.2.1 41 = .ok (.iload 4, 2) := by decide +kernel
theorem d_Mo_begins_43 : decode m_Mo_begins.2.1 43 = .ok (.iload_n 2, 1) := by decide +kernel
theorem d_Mo_begins_44 : decode m_Mo_begins.2.1 44 = .ok (.if_icmp .ge 7, 3) := by decide +kernel
theorem d_Mo_begins_47 : decode m_Mo_begins.2.1 47 = .ok (.iconst 1, 1) := by decide +kernel
theorem d_Mo_begins_48 : decode m_Mo_begins.2.1 48 = .ok (.goto 4, 3) := by decide +kernel
theorem d_Mo_begins_51 : decode m_Mo_begins.2.1 51 = .ok (.iconst 0, 1) := by decide +kernel
theorem d_Mo_begins_52 : decode m_Mo_begins.2.1 52 = .ok (.ireturn, 1) := by decide +kernel
theorem d_Mo_jump_0 : decode m_Mo_jump.2.1 0 = .ok (.sipush 256, 3) := by decide +kernel
theorem d_Mo_jump_3 : decode m_Mo_jump.2.1 3 = .ok (.iload_n 0, 1) := by decide +kernel
theorem d_Mo_jump_4 : decode m_Mo_jump.2.1 4 = .ok (.imul, 1) := by decide +kernel
theorem d_Mo_jump_5 : decode m_Mo_jump.2.1 5 = .ok (.iload_n 1, 1) := by decide +kernel
theorem d_Mo_jump_6 : decode m_Mo_jump.2.1 6 = .ok (.iadd, 1) := by decide +kernel
theorem d_Mo_jump_7 : decode m_Mo_jump.2.1 7 = .ok (.istore_n 2, 1) := by decide +kernel
theorem d_Mo_jump_8 : decode m_Mo_jump.2.1 8 = .ok (.iload_n 2, 1) := by decide +kernel
theorem d_Mo_jump_9 : decode m_Mo_jump.2.1 9 = .ok (.sipush 32767, 3) := by decide +kernel
theorem d_Mo_jump_12 : decode m_Mo_jump.2.1 12 = .ok (.if_icmp .le 10, 3) := by decide +kernel
theorem d_Mo_jump_15 : decode m_Mo_jump.2.1 15 = .ok (.iload_n 2, 1) := by decide +kernel
theorem d_Mo_jump_16 : decode m_Mo_jump.2.1 16 = .ok (.ldc 83, 2) := by decide +kernel
theorem d_Mo_jump_18 : decode m_Mo_jump.2.1 18 = .ok (.isub, 1) := by decide +kernel
theorem d_Mo_jump_19 : decode m_Mo_jump.2.1 19 = .ok (.goto 4, 3) := by decide +kernel
theorem d_Mo_jump_22 : decode m_Mo_jump.2.1 22 = .ok (.iload_n 2, 1) := by decide +kernel
theorem d_Mo_jump_23 : decode m_Mo_jump.2.1 23 = .ok (.ireturn, 1) := by decide +kernel
theorem d_Mo_targetsFit_0 : decode m_Mo_targetsFit.2.1 0 = .ok (.iconst 1, 1) := by decide +kernel
theorem d_Mo_targetsFit_1 : decode m_Mo_targetsFit.2.1 1 = .ok (.istore_n 3, 1) := by decide +kernel
theorem d_Mo_targetsFit_2 : decode m_Mo_targetsFit.2.1 2 = .ok (.iconst 0, 1) := by decide +kernel
theorem d_Mo_targetsFit_3 : decode m_Mo_targetsFit.2.1 3 = .ok (.istore 4, 2) := by decide +kernel
theorem d_Mo_targetsFit_5 : decode m_Mo_targetsFit.2.1 5 = .ok (.iload 4, 2) := by decide +kernel
theorem d_Mo_targetsFit_7 : decode m_Mo_targetsFit.2.1 7 = .ok (.iload_n 2, 1) := by decide +kernel
theorem d_Mo_targetsFit_8 : decode m_Mo_targetsFit.2.1 8 = .ok (.if_icmp .ge 85, 3) := by decide +kernel
theorem d_Mo_targetsFit_11 : decode m_Mo_targetsFit.2.1 11 = .ok (.iload_n 1, 1) := by decide +kernel
theorem d_Mo_targetsFit_12 : decode m_Mo_targetsFit.2.1 12 = .ok (.iload 4, 2) := by decide +kernel
theorem d_Mo_targetsFit_14 : decode m_Mo_targetsFit.2.1 14 = .ok (.iadd, 1) := by decide +kernel
theorem d_Mo_targetsFit_15 : decode m_Mo_targetsFit.2.1 15 = .ok (.istore 5, 2) := by decide +kernel
theorem d_Mo_targetsFit_17 : decode m_Mo_targetsFit.2.1 17 = .ok (.iload_n 3, 1) := by decide +kernel
theorem d_Mo_targetsFit_18 : decode m_Mo_targetsFit.2.1 18 = .ok (.ifCond .eq 53, 3) := by decide +kernel
theorem d_Mo_targetsFit_21 : decode m_Mo_targetsFit.2.1 21 = .ok (.aload_n 0, 1) := by decide +kernel
theorem d_Mo_targetsFit_22 : decode m_Mo_targetsFit.2.1 22 = .ok (.getfield 7, 3) := by decide +kernel
theorem d_Mo_targetsFit_25 : decode m_Mo_targetsFit.2.1 25 = .ok (.iload 5, 2) := by decide +kernel
theorem d_Mo_targetsFit_27 : decode m_Mo_targetsFit.2.1 27 = .ok (.iaload, 1) := by decide +kernel
theorem d_Mo_targetsFit_28 : decode m_Mo_targetsFit.2.1 28 = .ok (.invokestatic 51, 3) := by decide +kernel
theorem d_Mo_targetsFit_31 : decode m_Mo_targetsFit.2.1 31 = .ok (.ifCond .eq 36, 3) := by decide +kernel
theorem d_Mo_targetsFit_34 : decode m_Mo_targetsFit.2.1 34 = .ok (.aload_n 0, 1) := by decide +kernel
theorem d_Mo_targetsFit_35 : decode m_Mo_targetsFit.2.1 35 = .ok (.iload_n 1, 1) := by decide +kernel
theorem d_Mo_targetsFit_36 : decode m_Mo_targetsFit.2.1 36 = .ok (.iload_n 2, 1) := by decide +kernel
theorem d_Mo_targetsFit_37 : decode m_Mo_targetsFit.2.1 37 = .ok (.iload 4, 2) := by decide +kernel
theorem d_Mo_targetsFit_39 : decode m_Mo_targetsFit.2.1 39 = .ok (.aload_n 0, 1) := by decide +kernel
theorem d_Mo_targetsFit_40 : decode m_Mo_targetsFit.2.1 40 = .ok (.getfield 7, 3) := by decide +kernel
theorem d_Mo_targetsFit_43 : decode m_Mo_targetsFit.2.1 43 = .ok (.iload 5, 2) := by decide +kernel
theorem d_Mo_targetsFit_45 : decode m_Mo_targetsFit.2.1 45 = .ok (.iconst 1, 1) := by decide +kernel
theorem d_Mo_targetsFit_46 : decode m_Mo_targetsFit.2.1 46 = .ok (.iadd, 1) := by decide +kernel
theorem d_Mo_targetsFit_47 : decode m_Mo_targetsFit.2.1 47 = .ok (.iaload, 1) := by decide +kernel
theorem d_Mo_targetsFit_48 : decode m_Mo_targetsFit.2.1 48 = .ok (.aload_n 0, 1) := by decide +kernel
theorem d_Mo_targetsFit_49 : decode m_Mo_targetsFit.2.1 49 = .ok (.getfield 7, 3) := by decide +kernel
theorem d_Mo_targetsFit_52 : decode m_Mo_targetsFit.2.1 52 = .ok (.iload 5, 2) := by decide +kernel
theorem d_Mo_targetsFit_54 : decode m_Mo_targetsFit.2.1 54 = .ok (.iconst 2, 1) := by decide +kernel
theorem d_Mo_targetsFit_55 : decode m_Mo_targetsFit.2.1 55 = .ok (.iadd, 1) := by decide +kernel
theorem d_Mo_targetsFit_56 : decode m_Mo_targetsFit.2.1 56 = .ok (.iaload, 1) := by decide +kernel
theorem d_Mo_targetsFit_57 : decode m_Mo_targetsFit.2.1 57 = .ok (.invokestatic 84, 3) := by decide +kernel
theorem d_Mo_targetsFit_60 : decode m_Mo_targetsFit.2.1 60 = .ok (.iadd, 1) := by decide +kernel
theorem d_Mo_targetsFit_61 : decode m_Mo_targetsFit.2.1 61 = .ok (.invokevirtual 87, 3) := by decide +kernel
theorem d_Mo_targetsFit_64 : decode m_Mo_targetsFit.2.1 64 = .ok (.ifCond .eq 7, 3) := by decide +kernel
theorem d_Mo_targetsFit_67 : decode m_Mo_targetsFit.2.1 67 = .ok (.iconst 1, 1) := by decide +kernel
theorem d_Mo_targetsFit_68 : decode m_Mo_targetsFit.2.1 68 = .ok (.goto 4, 3) := by decide +kernel
theorem d_Mo_targetsFit_71 : decode m_Mo_targetsFit.2.1 71 = .ok (.iconst 0, 1) := by decide +kernel
theorem d_Mo_targetsFit_72 : decode m_Mo_targetsFit.2.1 72 = .ok (.istore_n 3, 1) := by decide +kernel
theorem d_Mo_targetsFit_73 : decode m_Mo_targetsFit.2.1 73 = .ok (.iload 4, 2) := by decide +kernel
theorem d_Mo_targetsFit_75 : decode m_Mo_targetsFit.2.1 75 = .ok (.aload_n 0, 1) := by decide +kernel
theorem d_Mo_targetsFit_76 : decode m_Mo_targetsFit.2.1 76 = .ok (.getfield 7, 3) := by decide +kernel
theorem d_Mo_targetsFit_79 : decode m_Mo_targetsFit.2.1 79 = .ok (.iload_n 1, 1) := by decide +kernel
theorem d_Mo_targetsFit_80 : decode m_Mo_targetsFit.2.1 80 = .ok (.iload 4, 2) := by decide +kernel
theorem d_Mo_targetsFit_82 : decode m_Mo_targetsFit.2.1 82 = .ok (.iadd, 1) := by decide +kernel
theorem d_Mo_targetsFit_83 : decode m_Mo_targetsFit.2.1 83 = .ok (.iaload, 1) := by decide +kernel
theorem d_Mo_targetsFit_84 : decode m_Mo_targetsFit.2.1 84 = .ok (.invokestatic 75, 3) := by decide +kernel
theorem d_Mo_targetsFit_87 : decode m_Mo_targetsFit.2.1 87 = .ok (.iadd, 1) := by decide +kernel
theorem d_Mo_targetsFit_88 : decode m_Mo_targetsFit.2.1 88 = .ok (.istore 4, 2) := by decide +kernel
theorem d_Mo_targetsFit_90 : decode m_Mo_targetsFit.2.1 90 = .ok (.goto (-85), 3) := by decide +kernel
theorem d_Mo_targetsFit_93 : decode m_Mo_targetsFit.2.1 93 = .ok (.iload_n 3, 1) := by decide +kernel
theorem d_Mo_targetsFit_94 : decode m_Mo_targetsFit.2.1 94 = .ok (.ireturn, 1) := by decide +kernel
theorem d_Mo_readMethod_0 : decode m_Mo_readMethod.2.1 0 = .ok (.aload_n 0, 1) := by decide +kernel
theorem d_Mo_readMethod_1 : decode m_Mo_readMethod.2.1 1 = .ok (.iconst 0, 1) := by decide +kernel
theorem d_Mo_readMethod_2 : decode m_Mo_readMethod.2.1 2 = .ok (.iconst 3, 1) := by decide +kernel
theorem d_Mo_readMethod_3 : decode m_Mo_readMethod.2.1 3 = .ok (.invokevirtual 71, 3) := by decide +kernel
theorem d_Mo_readMethod_6 : decode m_Mo_readMethod.2.1 6 = .ok (.istore_n 3, 1) := by decide +kernel
theorem d_Mo_readMethod_7 : decode m_Mo_readMethod.2.1 7 = .ok (.aload_n 0, 1) := by decide +kernel
theorem d_Mo_readMethod_8 : decode m_Mo_readMethod.2.1 8 = .ok (.iload_n 3, 1) := by decide +kernel
theorem d_Mo_readMethod_9 : decode m_Mo_readMethod.2.1 9 = .ok (.iconst 1, 1) := by decide +kernel
theorem d_Mo_readMethod_10 : decode m_Mo_readMethod.2.1 10 = .ok (.iconst 2, 1) := by decide +kernel
theorem d_Mo_readMethod_11 : decode m_Mo_readMethod.2.1 11 = .ok (.invokevirtual 79, 3) := by decide +kernel
theorem d_Mo_readMethod_14 : decode m_Mo_readMethod.2.1 14 = .ok (.aload_n 0, 1) := by decide +kernel
theorem d_Mo_readMethod_15 : decode m_Mo_readMethod.2.1 15 = .ok (.iconst 0, 1) := by decide +kernel
theorem d_Mo_readMethod_16 : decode m_Mo_readMethod.2.1 16 = .ok (.iconst 2, 1) := by decide +kernel
theorem d_Mo_readMethod_17 : decode m_Mo_readMethod.2.1 17 = .ok (.invokevirtual 71, 3) := by decide +kernel
theorem d_Mo_readMethod_20 : decode m_Mo_readMethod.2.1 20 = .ok (.istore 4, 2) := by decide +kernel
theorem d_Mo_readMethod_22 : decode m_Mo_readMethod.2.1 22 = .ok (.aload_n 0, 1) := by decide +kernel
theorem d_Mo_readMethod_23 : decode m_Mo_readMethod.2.1 23 = .ok (.iconst 0, 1) := by decide +kernel
theorem d_Mo_readMethod_24 : decode m_Mo_readMethod.2.1 24 = .ok (.bipush 6, 2) := by decide +kernel
theorem d_Mo_readMethod_26 : decode m_Mo_readMethod.2.1 26 = .ok (.invokevirtual 71, 3) := by decide +kernel
theorem d_Mo_readMethod_29 : decode m_Mo_readMethod.2.1 29 = .ok (.istore 5, 2) := by decide +kernel
theorem d_Mo_readMethod_31 : decode m_Mo_readMethod.2.1 31 = .ok (.aload_n 0, 1) := by decide +kernel
theorem d_Mo_readMethod_32 : decode m_Mo_readMethod.2.1 32 = .ok (.iload_n 3, 1) := by decide +kernel
theorem d_Mo_readMethod_33 : decode m_Mo_readMethod.2.1 33 = .ok (.bipush 6, 2) := by decide +kernel
theorem d_Mo_readMethod_35 : decode m_Mo_readMethod.2.1 35 = .ok (.invokevirtual 71, 3) := by decide +kernel
theorem d_Mo_readMethod_38 : decode m_Mo_readMethod.2.1 38 = .ok (.istore 6, 2) := by decide +kernel
theorem d_Mo_readMethod_40 : decode m_Mo_readMethod.2.1 40 = .ok (.aload_n 0, 1) := by decide +kernel
theorem d_Mo_readMethod_41 : decode m_Mo_readMethod.2.1 41 = .ok (.iconst 1, 1) := by decide +kernel
theorem d_Mo_readMethod_42 : decode m_Mo_readMethod.2.1 42 = .ok (.bipush 60, 2) := by decide +kernel
theorem d_Mo_readMethod_44 : decode m_Mo_readMethod.2.1 44 = .ok (.invokevirtual 71, 3) := by decide +kernel
theorem d_Mo_readMethod_47 : decode m_Mo_readMethod.2.1 47 = .ok (.istore 7, 2) := by decide +kernel
theorem d_Mo_readMethod_49 : decode m_Mo_readMethod.2.1 49 = .ok (.aload_n 0, 1) := by decide +kernel
theorem d_Mo_readMethod_50 : decode m_Mo_readMethod.2.1 50 = .ok (.getfield 68, 3) := by decide +kernel
theorem d_Mo_readMethod_53 : decode m_Mo_readMethod.2.1 53 = .ok (.istore 8, 2) := by decide +kernel
theorem d_Mo_readMethod_55 : decode m_Mo_readMethod.2.1 55 = .ok (.aload_n 0, 1) := by decide +kernel
theorem d_Mo_readMethod_56 : decode m_Mo_readMethod.2.1 56 = .ok (.getfield 64, 3) := by decide +kernel
theorem d_Mo_readMethod_59 : decode m_Mo_readMethod.2.1 59 = .ok (.ifCond .ne 36, 3) := by decide +kernel
theorem d_Mo_readMethod_62 : decode m_Mo_readMethod.2.1 62 = .ok (.iload 4, 2) := by decide +kernel
theorem d_Mo_readMethod_64 : decode m_Mo_readMethod.2.1 64 = .ok (.ifCond .lt 31, 3) := by decide +kernel
theorem d_Mo_readMethod_67 : decode m_Mo_readMethod.2.1 67 = .ok (.aload_n 0, 1) := by decide +kernel
theorem d_Mo_readMethod_68 : decode m_Mo_readMethod.2.1 68 = .ok (.getfield 68, 3) := by decide +kernel
theorem d_Mo_readMethod_71 : decode m_Mo_readMethod.2.1 71 = .ok (.iload 8, 2) := by decide +kernel
theorem d_Mo_readMethod_73 : decode m_Mo_readMethod.2.1 73 = .ok (.iload 7, 2) := by decide +kernel
theorem d_Mo_readMethod_75 : decode m_Mo_readMethod.2.1 75 = .ok (.iadd, 1) := by decide +kernel
theorem d_Mo_readMethod_76 : decode m_Mo_readMethod.2.1 76 = .ok (.if_icmp .ge 19, 3) := by decide +kernel
theorem d_Mo_readMethod_79 : decode m_Mo_readMethod.2.1 79 = .ok (.aload_n 0, 1) := by decide +kernel
theorem d_Mo_readMethod_80 : decode m_Mo_readMethod.2.1 80 = .ok (.iload 8, 2) := by decide +kernel
theorem d_Mo_readMethod_82 : decode m_Mo_readMethod.2.1 82 = .ok (.iload 7, 2) := by decide +kernel
theorem d_Mo_readMethod_84 : decode m_Mo_readMethod.2.1 84 = .ok (.iadd, 1) := by decide +kernel
theorem d_Mo_readMethod_85 : decode m_Mo_readMethod.2.1 85 = .ok (.iload_n 1, 1) := by decide +kernel
theorem d_Mo_readMethod_86 : decode m_Mo_readMethod.2.1 86 = .ok (.iload_n 2, 1) := by decide +kernel
theorem d_Mo_readMethod_87 : decode m_Mo_readMethod.2.1 87 = .ok (.iload 6, 2) := by decide +kernel
theorem d_Mo_readMethod_89 : decode m_Mo_readMethod.2.1 89 = .ok (.invokevirtual 90, 3) := by decide +kernel
theorem d_Mo_readMethod_92 : decode m_Mo_readMethod.2.1 92 = .ok (.goto (-37), 3) := by decide +kernel
theorem d_Mo_readMethod_95 : decode m_Mo_readMethod.2.1 95 = .ok (.aload_n 0, 1) := by decide +kernel
theorem d_Mo_readMethod_96 : decode m_Mo_readMethod.2.1 96 = .ok (.iconst 0, 1) := by decide +kernel
theorem d_Mo_readMethod_97 : decode m_Mo_readMethod.2.1 97 = .ok (.bipush 8, 2) := by decide +kernel
theorem d_Mo_readMethod_99 : decode m_Mo_readMethod.2.1 99 = .ok (.invokevirtual 71, 3) := by decide +kernel
theorem d_Mo_readMethod_102 : decode m_Mo_readMethod.2.1 102 = .ok (.istore 9, 2) := by decide +kernel
theorem d_Mo_readMethod_104 : decode m_Mo_readMethod.2.1 104 = .ok (.iconst (-1), 1) := by decide +kernel
theorem d_Mo_readMethod_105 : decode m_Mo_readMethod.2.1 105 = .ok (.istore 10, 2) := by decide +kernel
theorem d_Mo_readMethod_107 : decode m_Mo_readMethod.2.1 107 = .ok (.iconst 1, 1) := by decide +kernel
theorem d_Mo_readMethod_108 : decode m_Mo_readMethod.2.1 108 = .ok (.istore 11, 2) := by decide +kernel
theorem d_Mo_readMethod_110 : decode m_Mo_readMethod.2.1 110 = .ok (.iconst 0, 1) := by decide +kernel
theorem d_Mo_readMethod_111 : decode m_Mo_readMethod.2.1 111 = .ok (.istore 12, 2) := by decide +kernel
theorem d_Mo_readMethod_113 : decode m_Mo_readMethod.2.1 113 = .ok (.iload 12, 2) := by decide +kernel
theorem d_Mo_readMethod_115 : decode m_Mo_readMethod.2.1 115 = .ok (.iload 9, 2) := by decide +kernel
theorem d_Mo_readMethod_117 : decode m_Mo_readMethod.2.1 117 = .ok (.if_icmp .ge 87, 3) := by decide +kernel
theorem d_Mo_readMethod_120 : decode m_Mo_readMethod.2.1 120 = .ok (.aload_n 0, 1) := by decide +kernel
theorem d_Mo_readMethod_121 : decode m_Mo_readMethod.2.1 121 = .ok (.getfield 64, 3) := by decide +kernel
theorem d_Mo_readMethod_124 : decode m_Mo_readMethod.2.1 124 = .ok (.ifCond .ne 80, 3) := by decide +kernel
theorem d_Mo_readMethod_127 : decode m_Mo_readMethod.2.1 127 = .ok (.aload_n 0, 1) := by decide +kernel
theorem d_Mo_readMethod_128 : decode m_Mo_readMethod.2.1 128 = .ok (.iload 10, 2) := by decide +kernel
theorem d_Mo_readMethod_130 : decode m_Mo_readMethod.2.1 130 = .ok (.iconst 1, 1) := by decide +kernel
theorem d_Mo_readMethod_131 : decode m_Mo_readMethod.2.1 131 = .ok (.iadd, 1) := by decide +kernel
theorem d_Mo_readMethod_132 : decode m_Mo_readMethod.2.1 132 = .ok (.iload 7, 2) := by decide +kernel
theorem d_Mo_readMethod_134 : decode m_Mo_readMethod.2.1 134 = .ok (.iconst 1, 1) := by decide +kernel
theorem d_Mo_readMethod_135 : decode m_Mo_readMethod.2.1 135 = .ok (.isub, 1) := by decide +kernel
theorem d_Mo_readMethod_136 : decode m_Mo_readMethod.2.1 136 = .ok (.invokevirtual 71, 3) := by decide +kernel
theorem d_Mo_readMethod_139 : decode m_Mo_readMethod.2.1 139 = .ok (.istore 10, 2) := by decide +kernel
theorem d_Mo_readMethod_141 : decode m_Mo_readMethod.2.1 141 = .ok (.iload 11, 2) := by decide +kernel
theorem d_Mo_readMethod_143 : decode m_Mo_readMethod.2.1 143 = .ok (.ifCond .eq 27, 3) := by decide +kernel
theorem d_Mo_readMethod_146 : decode m_Mo_readMethod.2.1 146 = .ok (.aload_n 0, 1) := by decide +kernel
theorem d_Mo_readMethod_147 : decode m_Mo_readMethod.2.1 147 = .ok (.getfield 64, 3) := by decide +kernel
theorem d_Mo_readMethod_150 : decode m_Mo_readMethod.2.1 150 = .ok (.ifCond .ne 16, 3) := by decide +kernel
theorem d_Mo_readMethod_153 : decode m_Mo_readMethod.2.1 153 = .ok (.aload_n 0, 1) := by decide +kernel
theorem d_Mo_readMethod_154 : decode m_Mo_readMethod.2.1 154 = .ok (.iload 8, 2) := by decide +kernel
theorem d_Mo_readMethod_156 : decode m_Mo_readMethod.2.1 156 = .ok (.iload 7, 2) := by decide +kernel
theorem d_Mo_readMethod_158 : decode m_Mo_readMethod.2.1 158 = .ok (.iload 10, 2) := by decide +kernel
theorem d_Mo_readMethod_160 : decode m_Mo_readMethod.2.1 160 = .ok (.invokevirtual 87, 3) := by decide +kernel
theorem d_Mo_readMethod_163 : decode m_Mo_readMethod.2.1 163 = .ok (.ifCond .eq 7, 3) := by decide +kernel
theorem d_Mo_readMethod_166 : decode m_Mo_readMethod.2.1 166 = .ok (.iconst 1, 1) := by decide +kernel
theorem d_Mo_readMethod_167 : decode m_Mo_readMethod.2.1 167 = .ok (.goto 4, 3) := by decide +kernel
theorem d_Mo_readMethod_170 : decode m_Mo_readMethod.2.1 170 = .ok (.iconst 0, 1) := by decide +kernel
theorem d_Mo_readMethod_171 : decode m_Mo_readMethod.2.1 171 = .ok (.istore 11, 2) := by decide +kernel
theorem d_Mo_readMethod_173 : decode m_Mo_readMethod.2.1 173 = .ok (.aload_n 0, 1) := by decide +kernel
theorem d_Mo_readMethod_174 : decode m_Mo_readMethod.2.1 174 = .ok (.iload 6, 2) := by decide +kernel
theorem d_Mo_readMethod_176 : decode m_Mo_readMethod.2.1 176 = .ok (.iconst 0, 1) := by decide +kernel
theorem d_Mo_readMethod_177 : decode m_Mo_readMethod.2.1 177 = .ok (.iconst 3, 1) := by decide +kernel
theorem d_Mo_readMethod_178 : decode m_Mo_readMethod.2.1 178 = .ok (.invokevirtual 79, 3) := by decide +kernel
theorem d_Mo_readMethod_181 : decode m_Mo_readMethod.2.1 181 = .ok (.aload_n 0, 1) := by decide +kernel
theorem d_Mo_readMethod_182 : decode m_Mo_readMethod.2.1 182 = .ok (.iconst 0, 1) := by decide +kernel
theorem d_Mo_readMethod_183 : decode m_Mo_readMethod.2.1 183 = .ok (.iload 5, 2) := by decide +kernel
theorem d_Mo_readMethod_185 : decode m_Mo_readMethod.2.1 185 = .ok (.invokevirtual 71, 3) := by decide +kernel
theorem d_Mo_readMethod_188 : decode m_Mo_readMethod.2.1 188 = .ok (.istore 13, 2) := by decide +kernel
theorem d_Mo_readMethod_190 : decode m_Mo_readMethod.2.1 190 = .ok (.aload_n 0, 1) := by decide +kernel
theorem d_Mo_readMethod_191 : decode m_Mo_readMethod.2.1 191 = .ok (.iload 13, 2) := by decide +kernel
theorem d_Mo_readMethod_193 : decode m_Mo_readMethod.2.1 193 = .ok (.iconst 1, 1) := by decide +kernel
theorem d_Mo_readMethod_194 : decode m_Mo_readMethod.2.1 194 = .ok (.iconst 3, 1) := by decide +kernel
theorem d_Mo_readMethod_195 : decode m_Mo_readMethod.2.1 195 = .ok (.invokevirtual 79, 3) := by decide +kernel
theorem d_Mo_readMethod_198 : decode m_Mo_readMethod.2.1 198 = .ok (.iinc 12 1, 3) := by decide +kernel
theorem d_Mo_readMethod_201 : decode m_Mo_readMethod.2.1 201 = .ok (.goto (-88), 3) := by decide +kernel
theorem d_Mo_readMethod_204 : decode m_Mo_readMethod.2.1 204 = .ok (.aload_n 0, 1) := by decide +kernel
theorem d_Mo_readMethod_205 : decode m_Mo_readMethod.2.1 205 = .ok (.aload_n 0, 1) := by decide +kernel
theorem d_Mo_readMethod_206 : decode m_Mo_readMethod.2.1 206 = .ok (.getfield 64, 3) := by decide +kernel
theorem d_Mo_readMethod_209 : decode m_Mo_readMethod.2.1 209 = .ok (.ifCond .ne 19, 3) := by decide +kernel
theorem d_Mo_readMethod_212 : decode m_Mo_readMethod.2.1 212 = .ok (.iload 11, 2) := by decide +kernel
theorem d_Mo_readMethod_214 : decode m_Mo_readMethod.2.1 214 = .ok (.ifCond .eq 14, 3) := by decide +kernel
theorem d_Mo_readMethod_217 : decode m_Mo_readMethod.2.1 217 = .ok (.aload_n 0, 1) := by decide +kernel
theorem d_Mo_readMethod_218 : decode m_Mo_readMethod.2.1 218 = .ok (.iload 8, 2) := by decide +kernel
theorem d_Mo_readMethod_220 : decode m_Mo_readMethod.2.1 220 = .ok (.iload 7, 2) := by decide +kernel
theorem d_Mo_readMethod_222 : decode m_Mo_readMethod.2.1 222 = .ok (.invokevirtual 94, 3) := by decide +kernel
theorem d_Mo_readMethod_225 : decode m_Mo_readMethod.2.1 225 = .ok (.ifCond .ne 7, 3) := by decide +kernel
theorem d_Mo_readMethod_228 : decode m_Mo_readMethod.2.1 228 = .ok (.iconst 1, 1) := by decide +kernel
theorem d_Mo_readMethod_229 : decode m_Mo_readMethod.2.1 229 = .ok (.goto 4, 3) := by decide +kernel
theorem d_Mo_readMethod_232 : decode m_Mo_readMethod.2.1 232 = .ok (.iconst 0, 1) := by decide +kernel
theorem d_Mo_readMethod_233 : decode m_Mo_readMethod.2.1 233 = .ok (.putfield 64, 3) := by decide +kernel
theorem d_Mo_readMethod_236 : decode m_Mo_readMethod.2.1 236 = .ok (.return_, 1) := by decide +kernel
theorem d_Mo_read_0 : decode m_Mo_read.2.1 0 = .ok (.aload_n 0, 1) := by decide +kernel
theorem d_Mo_read_1 : decode m_Mo_read.2.1 1 = .ok (.iconst 0, 1) := by decide +kernel
theorem d_Mo_read_2 : decode m_Mo_read.2.1 2 = .ok (.putfield 43, 3) := by decide +kernel
theorem d_Mo_read_5 : decode m_Mo_read.2.1 5 = .ok (.aload_n 0, 1) := by decide +kernel
theorem d_Mo_read_6 : decode m_Mo_read.2.1 6 = .ok (.iconst 0, 1) := by decide +kernel
theorem d_Mo_read_7 : decode m_Mo_read.2.1 7 = .ok (.putfield 68, 3) := by decide +kernel
theorem d_Mo_read_10 : decode m_Mo_read.2.1 10 = .ok (.aload_n 0, 1) := by decide +kernel
theorem d_Mo_read_11 : decode m_Mo_read.2.1 11 = .ok (.iconst 0, 1) := by decide +kernel
theorem d_Mo_read_12 : decode m_Mo_read.2.1 12 = .ok (.putfield 64, 3) := by decide +kernel
theorem d_Mo_read_15 : decode m_Mo_read.2.1 15 = .ok (.aload_n 0, 1) := by decide +kernel
theorem d_Mo_read_16 : decode m_Mo_read.2.1 16 = .ok (.iconst 1, 1) := by decide +kernel
theorem d_Mo_read_17 : decode m_Mo_read.2.1 17 = .ok (.sipush 202, 3) := by decide +kernel
theorem d_Mo_read_20 : decode m_Mo_read.2.1 20 = .ok (.sipush 202, 3) := by decide +kernel
theorem d_Mo_read_23 : decode m_Mo_read.2.1 23 = .ok (.invokevirtual 79, 3) := by decide +kernel
theorem d_Mo_read_26 : decode m_Mo_read.2.1 26 = .ok (.aload_n 0, 1) := by decide +kernel
theorem d_Mo_read_27 : decode m_Mo_read.2.1 27 = .ok (.iconst 0, 1) := by decide +kernel
theorem d_Mo_read_28 : decode m_Mo_read.2.1 28 = .ok (.iconst 4, 1) := by decide +kernel
theorem d_Mo_read_29 : decode m_Mo_read.2.1 29 = .ok (.invokevirtual 71, 3) := by decide +kernel
theorem d_Mo_read_32 : decode m_Mo_read.2.1 32 = .ok (.istore_n 1, 1) := by decide +kernel
theorem d_Mo_read_33 : decode m_Mo_read.2.1 33 = .ok (.aload_n 0, 1) := by decide +kernel
theorem d_Mo_read_34 : decode m_Mo_read.2.1 34 = .ok (.iconst 4, 1) := by decide +kernel
theorem d_Mo_read_35 : decode m_Mo_read.2.1 35 = .ok (.iload_n 1, 1) := by decide +kernel
theorem d_Mo_read_36 : decode m_Mo_read.2.1 36 = .ok (.imul, 1) := by decide +kernel
theorem d_Mo_read_37 : decode m_Mo_read.2.1 37 = .ok (.iconst 0, 1) := by decide +kernel
theorem d_Mo_read_38 : decode m_Mo_read.2.1 38 = .ok (.sipush 255, 3) := by decide +kernel
theorem d_Mo_read_41 : decode m_Mo_read.2.1 41 = .ok (.invokevirtual 79, 3) := by decide +kernel
theorem d_Mo_read_44 : decode m_Mo_read.2.1 44 = .ok (.aload_n 0, 1) := by decide +kernel
theorem d_Mo_read_45 : decode m_Mo_read.2.1 45 = .ok (.iconst 1, 1) := by decide +kernel
theorem d_Mo_read_46 : decode m_Mo_read.2.1 46 = .ok (.iconst 4, 1) := by decide +kernel
theorem d_Mo_read_47 : decode m_Mo_read.2.1 47 = .ok (.invokevirtual 71, 3) := by decide +kernel
theorem d_Mo_read_50 : decode m_Mo_read.2.1 50 = .ok (.istore_n 2, 1) := by decide +kernel
theorem d_Mo_read_51 : decode m_Mo_read.2.1 51 = .ok (.iconst 0, 1) := by decide +kernel
theorem d_Mo_read_52 : decode m_Mo_read.2.1 52 = .ok (.istore_n 3, 1) := by decide +kernel
theorem d_Mo_read_53 : decode m_Mo_read.2.1 53 = .ok (.iload_n 3, 1) := by decide +kernel
theorem d_Mo_read_54 : decode m_Mo_read.2.1 54 = .ok (.iload_n 2, 1) := by decide +kernel
theorem d_Mo_read_55 : decode m_Mo_read.2.1 55 = .ok (.if_icmp .ge 22, 3) := by decide +kernel
theorem d_Mo_read_58 : decode m_Mo_read.2.1 58 = .ok (.aload_n 0, 1) := by decide +kernel
theorem d_Mo_read_59 : decode m_Mo_read.2.1 59 = .ok (.getfield 64, 3) := by decide +kernel
theorem d_Mo_read_62 : decode m_Mo_read.2.1 62 = .ok (.ifCond .ne 15, 3) := by decide +kernel
theorem d_Mo_read_65 : decode m_Mo_read.2.1 65 = .ok (.aload_n 0, 1) := by decide +kernel
theorem d_Mo_read_66 : decode m_Mo_read.2.1 66 = .ok (.iload_n 1, 1) := by decide +kernel
theorem d_Mo_read_67 : decode m_Mo_read.2.1 67 = .ok (.iload_n 2, 1) := by decide +kernel
theorem d_Mo_read_68 : decode m_Mo_read.2.1 68 = .ok (.invokevirtual 98, 3) := by decide +kernel
theorem d_Mo_read_71 : decode m_Mo_read.2.1 71 = .ok (.iinc 3 1, 3) := by decide +kernel
theorem d_Mo_read_74 : decode m_Mo_read.2.1 74 = .ok (.goto (-21), 3) := by decide +kernel
theorem d_Mo_read_77 : decode m_Mo_read.2.1 77 = .ok (.aload_n 0, 1) := by decide +kernel
theorem d_Mo_read_78 : decode m_Mo_read.2.1 78 = .ok (.getfield 64, 3) := by decide +kernel
theorem d_Mo_read_81 : decode m_Mo_read.2.1 81 = .ok (.ifCond .ne 14, 3) := by decide +kernel
theorem d_Mo_read_84 : decode m_Mo_read.2.1 84 = .ok (.aload_n 0, 1) := by decide +kernel
theorem d_Mo_read_85 : decode m_Mo_read.2.1 85 = .ok (.getfield 68, 3) := by decide +kernel
theorem d_Mo_read_88 : decode m_Mo_read.2.1 88 = .ok (.aload_n 0, 1) := by decide +kernel
theorem d_Mo_read_89 : decode m_Mo_read.2.1 89 = .ok (.getfield 61, 3) := by decide +kernel
theorem d_Mo_read_92 : decode m_Mo_read.2.1 92 = .ok (.if_icmp .ge 8, 3) := by decide +kernel
theorem d_Mo_read_95 : decode m_Mo_read.2.1 95 = .ok (.aload_n 0, 1) := by decide +kernel
theorem d_Mo_read_96 : decode m_Mo_read.2.1 96 = .ok (.getfield 68, 3) := by decide +kernel
theorem d_Mo_read_99 : decode m_Mo_read.2.1 99 = .ok (.ireturn, 1) := by decide +kernel
theorem d_Mo_read_100 : decode m_Mo_read.2.1 100 = .ok (.aload_n 0, 1) := by decide +kernel
theorem d_Mo_read_101 : decode m_Mo_read.2.1 101 = .ok (.iconst 1, 1) := by decide +kernel
theorem d_Mo_read_102 : decode m_Mo_read.2.1 102 = .ok (.putfield 102, 3) := by decide +kernel
theorem d_Mo_read_105 : decode m_Mo_read.2.1 105 = .ok (.aload_n 0, 1) := by decide +kernel
theorem d_Mo_read_106 : decode m_Mo_read.2.1 106 = .ok (.aload_n 0, 1) := by decide +kernel
theorem d_Mo_read_107 : decode m_Mo_read.2.1 107 = .ok (.getfield 61, 3) := by decide +kernel
theorem d_Mo_read_110 : decode m_Mo_read.2.1 110 = .ok (.putfield 105, 3) := by decide +kernel
theorem d_Mo_read_113 : decode m_Mo_read.2.1 113 = .ok (.iconst 0, 1) := by decide +kernel
theorem d_Mo_read_114 : decode m_Mo_read.2.1 114 = .ok (.istore_n 3, 1) := by decide +kernel
theorem d_Mo_read_115 : decode m_Mo_read.2.1 115 = .ok (.iload_n 3, 1) := by decide +kernel
theorem d_Mo_read_116 : decode m_Mo_read.2.1 116 = .ok (.aload_n 0, 1) := by decide +kernel
theorem d_Mo_read_117 : decode m_Mo_read.2.1 117 = .ok (.getfield 61, 3) := by decide +kernel
theorem d_Mo_read_120 : decode m_Mo_read.2.1 120 = .ok (.if_icmp .ge 21, 3) := by decide +kernel
theorem d_Mo_read_123 : decode m_Mo_read.2.1 123 = .ok (.aload_n 0, 1) := by decide +kernel
theorem d_Mo_read_124 : decode m_Mo_read.2.1 124 = .ok (.getfield 13, 3) := by decide +kernel
theorem d_Mo_read_127 : decode m_Mo_read.2.1 127 = .ok (.iload_n 3, 1) := by decide +kernel
theorem d_Mo_read_128 : decode m_Mo_read.2.1 128 = .ok (.aload_n 0, 1) := by decide +kernel
theorem d_Mo_read_129 : decode m_Mo_read.2.1 129 = .ok (.getfield 7, 3) := by decide +kernel
theorem d_Mo_read_132 : decode m_Mo_read.2.1 132 = .ok (.iload_n 3, 1) := by decide +kernel
theorem d_Mo_read_133 : decode m_Mo_read.2.1 133 = .ok (.iaload, 1) := by decide +kernel
theorem d_Mo_read_134 : decode m_Mo_read.2.1 134 = .ok (.iastore, 1) := by decide +kernel
theorem d_Mo_read_135 : decode m_Mo_read.2.1 135 = .ok (.iinc 3 1, 3) := by decide +kernel
theorem d_Mo_read_138 : decode m_Mo_read.2.1 138 = .ok (.goto (-23), 3) := by decide +kernel
theorem d_Mo_read_141 : decode m_Mo_read.2.1 141 = .ok (.iconst (-1), 1) := by decide +kernel
theorem d_Mo_read_142 : decode m_Mo_read.2.1 142 = .ok (.ireturn, 1) := by decide +kernel
theorem d_Mo_write_0 : decode m_Mo_write.2.1 0 = .ok (.aload_n 0, 1) := by decide +kernel
theorem d_Mo_write_1 : decode m_Mo_write.2.1 1 = .ok (.aload_n 0, 1) := by decide +kernel
theorem d_Mo_write_2 : decode m_Mo_write.2.1 2 = .ok (.getfield 102, 3) := by decide +kernel
theorem d_Mo_write_5 : decode m_Mo_write.2.1 5 = .ok (.ifCond .eq 7, 3) := by decide +kernel
theorem d_Mo_write_8 : decode m_Mo_write.2.1 8 = .ok (.iconst 0, 1) := by decide +kernel
theorem d_Mo_write_9 : decode m_Mo_write.2.1 9 = .ok (.goto 4, 3) := by decide +kernel
theorem d_Mo_write_12 : decode m_Mo_write.2.1 12 = .ok (.iconst 1, 1) := by decide +kernel
theorem d_Mo_write_13 : decode m_Mo_write.2.1 13 = .ok (.putfield 43, 3) := by decide +kernel
theorem d_Mo_write_16 : decode m_Mo_write.2.1 16 = .ok (.aload_n 0, 1) := by decide +kernel
theorem d_Mo_write_17 : decode m_Mo_write.2.1 17 = .ok (.getfield 43, 3) := by decide +kernel
theorem d_Mo_write_20 : decode m_Mo_write.2.1 20 = .ok (.ifCond .le 5, 3) := by decide +kernel
theorem d_Mo_write_23 : decode m_Mo_write.2.1 23 = .ok (.iconst 0, 1) := by decide +kernel
theorem d_Mo_write_24 : decode m_Mo_write.2.1 24 = .ok (.ireturn, 1) := by decide +kernel
theorem d_Mo_write_25 : decode m_Mo_write.2.1 25 = .ok (.aload_n 0, 1) := by decide +kernel
theorem d_Mo_write_26 : decode m_Mo_write.2.1 26 = .ok (.aload_n 0, 1) := by decide +kernel
theorem d_Mo_write_27 : decode m_Mo_write.2.1 27 = .ok (.getfield 105, 3) := by decide +kernel
theorem d_Mo_write_30 : decode m_Mo_write.2.1 30 = .ok (.putfield 61, 3) := by decide +kernel
theorem d_Mo_write_33 : decode m_Mo_write.2.1 33 = .ok (.iconst 0, 1) := by decide +kernel
theorem d_Mo_write_34 : decode m_Mo_write.2.1 34 = .ok (.istore_n 1, 1) := by decide +kernel
theorem d_Mo_write_35 : decode m_Mo_write.2.1 35 = .ok (.iload_n 1, 1) := by decide +kernel
theorem d_Mo_write_36 : decode m_Mo_write.2.1 36 = .ok (.aload_n 0, 1) := by decide +kernel
theorem d_Mo_write_37 : decode m_Mo_write.2.1 37 = .ok (.getfield 61, 3) := by decide +kernel
theorem d_Mo_write_40 : decode m_Mo_write.2.1 40 = .ok (.if_icmp .ge 21, 3) := by decide +kernel
theorem d_Mo_write_43 : decode m_Mo_write.2.1 43 = .ok (.aload_n 0, 1) := by decide +kernel
theorem d_Mo_write_44 : decode m_Mo_write.2.1 44 = .ok (.getfield 7, 3) := by decide +kernel
theorem d_Mo_write_47 : decode m_Mo_write.2.1 47 = .ok (.iload_n 1, 1) := by decide +kernel
theorem d_Mo_write_48 : decode m_Mo_write.2.1 48 = .ok (.aload_n 0, 1) := by decide +kernel
theorem d_Mo_write_49 : decode m_Mo_write.2.1 49 = .ok (.getfield 13, 3) := by decide +kernel
theorem d_Mo_write_52 : decode m_Mo_write.2.1 52 = .ok (.iload_n 1, 1) := by decide +kernel
theorem d_Mo_write_53 : decode m_Mo_write.2.1 53 = .ok (.iaload, 1) := by decide +kernel
theorem d_Mo_write_54 : decode m_Mo_write.2.1 54 = .ok (.iastore, 1) := by decide +kernel
theorem d_Mo_write_55 : decode m_Mo_write.2.1 55 = .ok (.iinc 1 1, 3) := by decide +kernel
theorem d_Mo_write_58 : decode m_Mo_write.2.1 58 = .ok (.goto (-23), 3) := by decide +kernel
theorem d_Mo_write_61 : decode m_Mo_write.2.1 61 = .ok (.aload_n 0, 1) := by decide +kernel
theorem d_Mo_write_62 : decode m_Mo_write.2.1 62 = .ok (.getfield 61, 3) := by decide +kernel
theorem d_Mo_write_65 : decode m_Mo_write.2.1 65 = .ok (.ireturn, 1) := by decide +kernel
theorem d_Mo_methodCount_0 : decode m_Mo_methodCount.2.1 0 = .ok (.aload_n 0, 1) := by decide +kernel
theorem d_Mo_methodCount_1 : decode m_Mo_methodCount.2.1 1 = .ok (.getfield 102, 3) := by decide +kernel
theorem d_Mo_methodCount_4 : decode m_Mo_methodCount.2.1 4 = .ok (.ifCond .eq 21, 3) := by decide +kernel
theorem d_Mo_methodCount_7 : decode m_Mo_methodCount.2.1 7 = .ok (.aload_n 0, 1) := by decide +kernel
theorem d_Mo_methodCount_8 : decode m_Mo_methodCount.2.1 8 = .ok (.getfield 13, 3) := by decide +kernel
theorem d_Mo_methodCount_11 : decode m_Mo_methodCount.2.1 11 = .ok (.iconst 2, 1) := by decide +kernel
theorem d_Mo_methodCount_12 : decode m_Mo_methodCount.2.1 12 = .ok (.iconst 4, 1) := by decide +kernel
theorem d_Mo_methodCount_13 : decode m_Mo_methodCount.2.1 13 = .ok (.aload_n 0, 1) := by decide +kernel
theorem d_Mo_methodCount_14 : decode m_Mo_methodCount.2.1 14 = .ok (.getfield 13, 3) := by decide +kernel
theorem d_Mo_methodCount_17 : decode m_Mo_methodCount.2.1 17 = .ok (.iconst 1, 1) := by decide +kernel
theorem d_Mo_methodCount_18 : decode m_Mo_methodCount.2.1 18 = .ok (.iaload, 1) := by decide +kernel
theorem d_Mo_methodCount_19 : decode m_Mo_methodCount.2.1 19 = .ok (.imul, 1) := by decide +kernel
theorem d_Mo_methodCount_20 : decode m_Mo_methodCount.2.1 20 = .ok (.iadd, 1) := by decide +kernel
theorem d_Mo_methodCount_21 : decode m_Mo_methodCount.2.1 21 = .ok (.iaload, 1) := by decide +kernel
theorem d_Mo_methodCount_22 : decode m_Mo_methodCount.2.1 22 = .ok (.goto 4, 3) := by decide +kernel
theorem d_Mo_methodCount_25 : decode m_Mo_methodCount.2.1 25 = .ok (.iconst 0, 1) := by decide +kernel
theorem d_Mo_methodCount_26 : decode m_Mo_methodCount.2.1 26 = .ok (.ireturn, 1) := by decide +kernel
theorem d_Mo_methods_0 : decode m_Mo_methods.2.1 0 = .ok (.aload_n 0, 1) := by decide +kernel
theorem d_Mo_methods_1 : decode m_Mo_methods.2.1 1 = .ok (.iconst 0, 1) := by decide +kernel
theorem d_Mo_methods_2 : decode m_Mo_methods.2.1 2 = .ok (.putfield 43, 3) := by decide +kernel
theorem d_Mo_methods_5 : decode m_Mo_methods.2.1 5 = .ok (.aload_n 0, 1) := by decide +kernel
theorem d_Mo_methods_6 : decode m_Mo_methods.2.1 6 = .ok (.invokevirtual 108, 3) := by decide +kernel
theorem d_Mo_methods_9 : decode m_Mo_methods.2.1 9 = .ok (.ireturn, 1) := by decide +kernel
theorem d_Mo_codeOf_0 : decode m_Mo_codeOf.2.1 0 = .ok (.iload_n 1, 1) := by decide +kernel
theorem d_Mo_codeOf_1 : decode m_Mo_codeOf.2.1 1 = .ok (.iconst 5, 1) := by decide +kernel
theorem d_Mo_codeOf_2 : decode m_Mo_codeOf.2.1 2 = .ok (.iadd, 1) := by decide +kernel
theorem d_Mo_codeOf_3 : decode m_Mo_codeOf.2.1 3 = .ok (.aload_n 0, 1) := by decide +kernel
theorem d_Mo_codeOf_4 : decode m_Mo_codeOf.2.1 4 = .ok (.getfield 13, 3) := by decide +kernel
theorem d_Mo_codeOf_7 : decode m_Mo_codeOf.2.1 7 = .ok (.iload_n 1, 1) := by decide +kernel
theorem d_Mo_codeOf_8 : decode m_Mo_codeOf.2.1 8 = .ok (.iaload, 1) := by decide +kernel
theorem d_Mo_codeOf_9 : decode m_Mo_codeOf.2.1 9 = .ok (.iadd, 1) := by decide +kernel
theorem d_Mo_codeOf_10 : decode m_Mo_codeOf.2.1 10 = .ok (.ireturn, 1) := by decide +kernel
theorem d_Mo_lengthOf_0 : decode m_Mo_lengthOf.2.1 0 = .ok (.aload_n 0, 1) := by decide +kernel
theorem d_Mo_lengthOf_1 : decode m_Mo_lengthOf.2.1 1 = .ok (.getfield 13, 3) := by decide +kernel
theorem d_Mo_lengthOf_4 : decode m_Mo_lengthOf.2.1 4 = .ok (.iload_n 1, 1) := by decide +kernel
theorem d_Mo_lengthOf_5 : decode m_Mo_lengthOf.2.1 5 = .ok (.iconst 4, 1) := by decide +kernel
theorem d_Mo_lengthOf_6 : decode m_Mo_lengthOf.2.1 6 = .ok (.iadd, 1) := by decide +kernel
theorem d_Mo_lengthOf_7 : decode m_Mo_lengthOf.2.1 7 = .ok (.aload_n 0, 1) := by decide +kernel
theorem d_Mo_lengthOf_8 : decode m_Mo_lengthOf.2.1 8 = .ok (.getfield 13, 3) := by decide +kernel
theorem d_Mo_lengthOf_11 : decode m_Mo_lengthOf.2.1 11 = .ok (.iload_n 1, 1) := by decide +kernel
theorem d_Mo_lengthOf_12 : decode m_Mo_lengthOf.2.1 12 = .ok (.iaload, 1) := by decide +kernel
theorem d_Mo_lengthOf_13 : decode m_Mo_lengthOf.2.1 13 = .ok (.iadd, 1) := by decide +kernel
theorem d_Mo_lengthOf_14 : decode m_Mo_lengthOf.2.1 14 = .ok (.iaload, 1) := by decide +kernel
theorem d_Mo_lengthOf_15 : decode m_Mo_lengthOf.2.1 15 = .ok (.ireturn, 1) := by decide +kernel
theorem d_Mo_placesOf_0 : decode m_Mo_placesOf.2.1 0 = .ok (.aload_n 0, 1) := by decide +kernel
theorem d_Mo_placesOf_1 : decode m_Mo_placesOf.2.1 1 = .ok (.getfield 13, 3) := by decide +kernel
theorem d_Mo_placesOf_4 : decode m_Mo_placesOf.2.1 4 = .ok (.iload_n 1, 1) := by decide +kernel
theorem d_Mo_placesOf_5 : decode m_Mo_placesOf.2.1 5 = .ok (.iconst 3, 1) := by decide +kernel
theorem d_Mo_placesOf_6 : decode m_Mo_placesOf.2.1 6 = .ok (.iadd, 1) := by decide +kernel
theorem d_Mo_placesOf_7 : decode m_Mo_placesOf.2.1 7 = .ok (.aload_n 0, 1) := by decide +kernel
theorem d_Mo_placesOf_8 : decode m_Mo_placesOf.2.1 8 = .ok (.getfield 13, 3) := by decide +kernel
theorem d_Mo_placesOf_11 : decode m_Mo_placesOf.2.1 11 = .ok (.iload_n 1, 1) := by decide +kernel
theorem d_Mo_placesOf_12 : decode m_Mo_placesOf.2.1 12 = .ok (.iaload, 1) := by decide +kernel
theorem d_Mo_placesOf_13 : decode m_Mo_placesOf.2.1 13 = .ok (.iadd, 1) := by decide +kernel
theorem d_Mo_placesOf_14 : decode m_Mo_placesOf.2.1 14 = .ok (.iaload, 1) := by decide +kernel
theorem d_Mo_placesOf_15 : decode m_Mo_placesOf.2.1 15 = .ok (.ireturn, 1) := by decide +kernel
theorem d_Mo_returnsOf_0 : decode m_Mo_returnsOf.2.1 0 = .ok (.aload_n 0, 1) := by decide +kernel
theorem d_Mo_returnsOf_1 : decode m_Mo_returnsOf.2.1 1 = .ok (.getfield 13, 3) := by decide +kernel
theorem d_Mo_returnsOf_4 : decode m_Mo_returnsOf.2.1 4 = .ok (.iload_n 1, 1) := by decide +kernel
theorem d_Mo_returnsOf_5 : decode m_Mo_returnsOf.2.1 5 = .ok (.iconst 1, 1) := by decide +kernel
theorem d_Mo_returnsOf_6 : decode m_Mo_returnsOf.2.1 6 = .ok (.iadd, 1) := by decide +kernel
theorem d_Mo_returnsOf_7 : decode m_Mo_returnsOf.2.1 7 = .ok (.aload_n 0, 1) := by decide +kernel
theorem d_Mo_returnsOf_8 : decode m_Mo_returnsOf.2.1 8 = .ok (.getfield 13, 3) := by decide +kernel
theorem d_Mo_returnsOf_11 : decode m_Mo_returnsOf.2.1 11 = .ok (.iload_n 1, 1) := by decide +kernel
theorem d_Mo_returnsOf_12 : decode m_Mo_returnsOf.2.1 12 = .ok (.iaload, 1) := by decide +kernel
theorem d_Mo_returnsOf_13 : decode m_Mo_returnsOf.2.1 13 = .ok (.iadd, 1) := by decide +kernel
theorem d_Mo_returnsOf_14 : decode m_Mo_returnsOf.2.1 14 = .ok (.iaload, 1) := by decide +kernel
theorem d_Mo_returnsOf_15 : decode m_Mo_returnsOf.2.1 15 = .ok (.ireturn, 1) := by decide +kernel
theorem d_Mo_methodAt_0 : decode m_Mo_methodAt.2.1 0 = .ok (.iconst 3, 1) := by decide +kernel
theorem d_Mo_methodAt_1 : decode m_Mo_methodAt.2.1 1 = .ok (.iconst 4, 1) := by decide +kernel
theorem d_Mo_methodAt_2 : decode m_Mo_methodAt.2.1 2 = .ok (.aload_n 0, 1) := by decide +kernel
theorem d_Mo_methodAt_3 : decode m_Mo_methodAt.2.1 3 = .ok (.getfield 13, 3) := by decide +kernel
theorem d_Mo_methodAt_6 : decode m_Mo_methodAt.2.1 6 = .ok (.iconst 1, 1) := by decide +kernel
theorem d_Mo_methodAt_7 : decode m_Mo_methodAt.2.1 7 = .ok (.iaload, 1) := by decide +kernel
theorem d_Mo_methodAt_8 : decode m_Mo_methodAt.2.1 8 = .ok (.imul, 1) := by decide +kernel
theorem d_Mo_methodAt_9 : decode m_Mo_methodAt.2.1 9 = .ok (.iadd, 1) := by decide +kernel
theorem d_Mo_methodAt_10 : decode m_Mo_methodAt.2.1 10 = .ok (.istore_n 2, 1) := by decide +kernel
theorem d_Mo_methodAt_11 : decode m_Mo_methodAt.2.1 11 = .ok (.iconst 0, 1) := by decide +kernel
theorem d_Mo_methodAt_12 : decode m_Mo_methodAt.2.1 12 = .ok (.istore_n 3, 1) := by decide +kernel
theorem d_Mo_methodAt_13 : decode m_Mo_methodAt.2.1 13 = .ok (.iload_n 3, 1) := by decide +kernel
theorem d_Mo_methodAt_14 : decode m_Mo_methodAt.2.1 14 = .ok (.iload_n 1, 1) := by decide +kernel
theorem d_Mo_methodAt_15 : decode m_Mo_methodAt.2.1 15 = .ok (.if_icmp .ge 79, 3) := by decide +kernel
theorem d_Mo_methodAt_18 : decode m_Mo_methodAt.2.1 18 = .ok (.aload_n 0, 1) := by decide +kernel
theorem d_Mo_methodAt_19 : decode m_Mo_methodAt.2.1 19 = .ok (.iload_n 2, 1) := by decide +kernel
theorem d_Mo_methodAt_20 : decode m_Mo_methodAt.2.1 20 = .ok (.invokevirtual 112, 3) := by decide +kernel
theorem d_Mo_methodAt_23 : decode m_Mo_methodAt.2.1 23 = .ok (.aload_n 0, 1) := by decide +kernel
theorem d_Mo_methodAt_24 : decode m_Mo_methodAt.2.1 24 = .ok (.iload_n 2, 1) := by decide +kernel
theorem d_Mo_methodAt_25 : decode m_Mo_methodAt.2.1 25 = .ok (.invokevirtual 115, 3) := by decide +kernel
theorem d_Mo_methodAt_28 : decode m_Mo_methodAt.2.1 28 = .ok (.iadd, 1) := by decide +kernel
theorem d_Mo_methodAt_29 : decode m_Mo_methodAt.2.1 29 = .ok (.istore 4, 2) := by decide +kernel
theorem d_Mo_methodAt_31 : decode m_Mo_methodAt.2.1 31 = .ok (.aload_n 0, 1) := by decide +kernel
theorem d_Mo_methodAt_32 : decode m_Mo_methodAt.2.1 32 = .ok (.getfield 13, 3) := by decide +kernel
theorem d_Mo_methodAt_35 : decode m_Mo_methodAt.2.1 35 = .ok (.iload 4, 2) := by decide +kernel
theorem d_Mo_methodAt_37 : decode m_Mo_methodAt.2.1 37 = .ok (.iaload, 1) := by decide +kernel
theorem d_Mo_methodAt_38 : decode m_Mo_methodAt.2.1 38 = .ok (.istore 5, 2) := by decide +kernel
theorem d_Mo_methodAt_40 : decode m_Mo_methodAt.2.1 40 = .ok (.iinc 4 1, 3) := by decide +kernel
theorem d_Mo_methodAt_43 : decode m_Mo_methodAt.2.1 43 = .ok (.iconst 0, 1) := by decide +kernel
theorem d_Mo_methodAt_44 : decode m_Mo_methodAt.2.1 44 = .ok (.istore 6, 2) := by decide +kernel
theorem d_Mo_methodAt_46 : decode m_Mo_methodAt.2.1 46 = .ok (.iload 6, 2) := by decide +kernel
theorem d_Mo_methodAt_48 : decode m_Mo_methodAt.2.1 48 = .ok (.iload 5, 2) := by decide +kernel
theorem d_Mo_methodAt_50 : decode m_Mo_methodAt.2.1 50 = .ok (.if_icmp .ge 35, 3) := by decide +kernel
theorem d_Mo_methodAt_53 : decode m_Mo_methodAt.2.1 53 = .ok (.iload 4, 2) := by decide +kernel
theorem d_Mo_methodAt_55 : decode m_Mo_methodAt.2.1 55 = .ok (.iconst 1, 1) := by decide +kernel
theorem d_Mo_methodAt_56 : decode m_Mo_methodAt.2.1 56 = .ok (.iadd, 1) := by decide +kernel
theorem d_Mo_methodAt_57 : decode m_Mo_methodAt.2.1 57 = .ok (.aload_n 0, 1) := by decide +kernel
theorem d_Mo_methodAt_58 : decode m_Mo_methodAt.2.1 58 = .ok (.iload_n 2, 1) := by decide +kernel
theorem d_Mo_methodAt_59 : decode m_Mo_methodAt.2.1 59 = .ok (.invokevirtual 118, 3) := by decide +kernel
theorem d_Mo_methodAt_62 : decode m_Mo_methodAt.2.1 62 = .ok (.iadd, 1) := by decide +kernel
theorem d_Mo_methodAt_63 : decode m_Mo_methodAt.2.1 63 = .ok (.istore 7, 2) := by decide +kernel
theorem d_Mo_methodAt_65 : decode m_Mo_methodAt.2.1 65 = .ok (.iload 7, 2) := by decide +kernel
theorem d_Mo_methodAt_67 : decode m_Mo_methodAt.2.1 67 = .ok (.iconst 1, 1) := by decide +kernel
theorem d_Mo_methodAt_68 : decode m_Mo_methodAt.2.1 68 = .ok (.iadd, 1) := by decide +kernel
theorem d_Mo_methodAt_69 : decode m_Mo_methodAt.2.1 69 = .ok (.aload_n 0, 1) := by decide +kernel
theorem d_Mo_methodAt_70 : decode m_Mo_methodAt.2.1 70 = .ok (.getfield 13, 3) := by decide +kernel
theorem d_Mo_methodAt_73 : decode m_Mo_methodAt.2.1 73 = .ok (.iload 7, 2) := by decide +kernel
theorem d_Mo_methodAt_75 : decode m_Mo_methodAt.2.1 75 = .ok (.iaload, 1) := by decide +kernel
theorem d_Mo_methodAt_76 : decode m_Mo_methodAt.2.1 76 = .ok (.iadd, 1) := by decide +kernel
theorem d_Mo_methodAt_77 : decode m_Mo_methodAt.2.1 77 = .ok (.istore 4, 2) := by decide +kernel
theorem d_Mo_methodAt_79 : decode m_Mo_methodAt.2.1 79 = .ok (.iinc 6 1, 3) := by decide +kernel
theorem d_Mo_methodAt_82 : decode m_Mo_methodAt.2.1 82 = .ok (.goto (-36), 3) := by decide +kernel
theorem d_Mo_methodAt_85 : decode m_Mo_methodAt.2.1 85 = .ok (.iload 4, 2) := by decide +kernel
theorem d_Mo_methodAt_87 : decode m_Mo_methodAt.2.1 87 = .ok (.istore_n 2, 1) := by decide +kernel
theorem d_Mo_methodAt_88 : decode m_Mo_methodAt.2.1 88 = .ok (.iinc 3 1, 3) := by decide +kernel
theorem d_Mo_methodAt_91 : decode m_Mo_methodAt.2.1 91 = .ok (.goto (-78), 3) := by decide +kernel
theorem d_Mo_methodAt_94 : decode m_Mo_methodAt.2.1 94 = .ok (.iload_n 2, 1) := by decide +kernel
theorem d_Mo_methodAt_95 : decode m_Mo_methodAt.2.1 95 = .ok (.ireturn, 1) := by decide +kernel
theorem d_Mo_open_0 : decode m_Mo_open.2.1 0 = .ok (.aload_n 0, 1) := by decide +kernel
theorem d_Mo_open_1 : decode m_Mo_open.2.1 1 = .ok (.aload_n 0, 1) := by decide +kernel
theorem d_Mo_open_2 : decode m_Mo_open.2.1 2 = .ok (.iload_n 1, 1) := by decide +kernel
theorem d_Mo_open_3 : decode m_Mo_open.2.1 3 = .ok (.invokevirtual 121, 3) := by decide +kernel
theorem d_Mo_open_6 : decode m_Mo_open.2.1 6 = .ok (.putfield 124, 3) := by decide +kernel
theorem d_Mo_open_9 : decode m_Mo_open.2.1 9 = .ok (.aload_n 0, 1) := by decide +kernel
theorem d_Mo_open_10 : decode m_Mo_open.2.1 10 = .ok (.aload_n 0, 1) := by decide +kernel
theorem d_Mo_open_11 : decode m_Mo_open.2.1 11 = .ok (.getfield 13, 3) := by decide +kernel
theorem d_Mo_open_14 : decode m_Mo_open.2.1 14 = .ok (.aload_n 0, 1) := by decide +kernel
theorem d_Mo_open_15 : decode m_Mo_open.2.1 15 = .ok (.getfield 124, 3) := by decide +kernel
theorem d_Mo_open_18 : decode m_Mo_open.2.1 18 = .ok (.iaload, 1) := by decide +kernel
theorem d_Mo_open_19 : decode m_Mo_open.2.1 19 = .ok (.putfield 127, 3) := by decide +kernel
theorem d_Mo_open_22 : decode m_Mo_open.2.1 22 = .ok (.aload_n 0, 1) := by decide +kernel
theorem d_Mo_open_23 : decode m_Mo_open.2.1 23 = .ok (.aload_n 0, 1) := by decide +kernel
theorem d_Mo_open_24 : decode m_Mo_open.2.1 24 = .ok (.getfield 13, 3) := by decide +kernel
theorem d_Mo_open_27 : decode m_Mo_open.2.1 27 = .ok (.aload_n 0, 1) := by decide +kernel
theorem d_Mo_open_28 : decode m_Mo_open.2.1 28 = .ok (.getfield 124, 3) := by decide +kernel
theorem d_Mo_open_31 : decode m_Mo_open.2.1 31 = .ok (.iconst 2, 1) := by decide +kernel
theorem d_Mo_open_32 : decode m_Mo_open.2.1 32 = .ok (.iadd, 1) := by decide +kernel
theorem d_Mo_open_33 : decode m_Mo_open.2.1 33 = .ok (.aload_n 0, 1) := by decide +kernel
theorem d_Mo_open_34 : decode m_Mo_open.2.1 34 = .ok (.getfield 127, 3) := by decide +kernel
theorem d_Mo_open_37 : decode m_Mo_open.2.1 37 = .ok (.iadd, 1) := by decide +kernel
theorem d_Mo_open_38 : decode m_Mo_open.2.1 38 = .ok (.iaload, 1) := by decide +kernel
theorem d_Mo_open_39 : decode m_Mo_open.2.1 39 = .ok (.putfield 130, 3) := by decide +kernel
theorem d_Mo_open_42 : decode m_Mo_open.2.1 42 = .ok (.aload_n 0, 1) := by decide +kernel
theorem d_Mo_open_43 : decode m_Mo_open.2.1 43 = .ok (.aload_n 0, 1) := by decide +kernel
theorem d_Mo_open_44 : decode m_Mo_open.2.1 44 = .ok (.aload_n 0, 1) := by decide +kernel
theorem d_Mo_open_45 : decode m_Mo_open.2.1 45 = .ok (.getfield 124, 3) := by decide +kernel
theorem d_Mo_open_48 : decode m_Mo_open.2.1 48 = .ok (.invokevirtual 118, 3) := by decide +kernel
theorem d_Mo_open_51 : decode m_Mo_open.2.1 51 = .ok (.putfield 133, 3) := by decide +kernel
theorem d_Mo_open_54 : decode m_Mo_open.2.1 54 = .ok (.aload_n 0, 1) := by decide +kernel
theorem d_Mo_open_55 : decode m_Mo_open.2.1 55 = .ok (.aload_n 0, 1) := by decide +kernel
theorem d_Mo_open_56 : decode m_Mo_open.2.1 56 = .ok (.aload_n 0, 1) := by decide +kernel
theorem d_Mo_open_57 : decode m_Mo_open.2.1 57 = .ok (.getfield 124, 3) := by decide +kernel
theorem d_Mo_open_60 : decode m_Mo_open.2.1 60 = .ok (.invokevirtual 115, 3) := by decide +kernel
theorem d_Mo_open_63 : decode m_Mo_open.2.1 63 = .ok (.putfield 136, 3) := by decide +kernel
theorem d_Mo_open_66 : decode m_Mo_open.2.1 66 = .ok (.aload_n 0, 1) := by decide +kernel
theorem d_Mo_open_67 : decode m_Mo_open.2.1 67 = .ok (.aload_n 0, 1) := by decide +kernel
theorem d_Mo_open_68 : decode m_Mo_open.2.1 68 = .ok (.aload_n 0, 1) := by decide +kernel
theorem d_Mo_open_69 : decode m_Mo_open.2.1 69 = .ok (.getfield 124, 3) := by decide +kernel
theorem d_Mo_open_72 : decode m_Mo_open.2.1 72 = .ok (.invokevirtual 112, 3) := by decide +kernel
end
section
theorem d_Mo_open_75 : decode m_Mo_open.2.1 75 = .ok (.putfield 139, 3) := by decide +kernel
theorem d_Mo_open_78 : decode m_Mo_open.2.1 78 = .ok (.return_, 1) := by decide +kernel
theorem d_Mo_frame_0 : decode m_Mo_frame.2.1 0 = .ok (.aload_n 0, 1) := by decide +kernel
theorem d_Mo_frame_1 : decode m_Mo_frame.2.1 1 = .ok (.getfield 139, 3) := by decide +kernel
theorem d_Mo_frame_4 : decode m_Mo_frame.2.1 4 = .ok (.aload_n 0, 1) := by decide +kernel
theorem d_Mo_frame_5 : decode m_Mo_frame.2.1 5 = .ok (.getfield 136, 3) := by decide +kernel
theorem d_Mo_frame_8 : decode m_Mo_frame.2.1 8 = .ok (.iadd, 1) := by decide +kernel
theorem d_Mo_frame_9 : decode m_Mo_frame.2.1 9 = .ok (.istore_n 3, 1) := by decide +kernel
theorem d_Mo_frame_10 : decode m_Mo_frame.2.1 10 = .ok (.aload_n 0, 1) := by decide +kernel
theorem d_Mo_frame_11 : decode m_Mo_frame.2.1 11 = .ok (.getfield 13, 3) := by decide +kernel
theorem d_Mo_frame_14 : decode m_Mo_frame.2.1 14 = .ok (.iload_n 3, 1) := by decide +kernel
theorem d_Mo_frame_15 : decode m_Mo_frame.2.1 15 = .ok (.iaload, 1) := by decide +kernel
theorem d_Mo_frame_16 : decode m_Mo_frame.2.1 16 = .ok (.istore 4, 2) := by decide +kernel
theorem d_Mo_frame_18 : decode m_Mo_frame.2.1 18 = .ok (.iconst (-1), 1) := by decide +kernel
theorem d_Mo_frame_19 : decode m_Mo_frame.2.1 19 = .ok (.istore 5, 2) := by decide +kernel
theorem d_Mo_frame_21 : decode m_Mo_frame.2.1 21 = .ok (.iinc 3 1, 3) := by decide +kernel
theorem d_Mo_frame_24 : decode m_Mo_frame.2.1 24 = .ok (.iconst 0, 1) := by decide +kernel
theorem d_Mo_frame_25 : decode m_Mo_frame.2.1 25 = .ok (.istore 6, 2) := by decide +kernel
theorem d_Mo_frame_27 : decode m_Mo_frame.2.1 27 = .ok (.iload 6, 2) := by decide +kernel
theorem d_Mo_frame_29 : decode m_Mo_frame.2.1 29 = .ok (.iload 4, 2) := by decide +kernel
theorem d_Mo_frame_31 : decode m_Mo_frame.2.1 31 = .ok (.if_icmp .ge 84, 3) := by decide +kernel
theorem d_Mo_frame_34 : decode m_Mo_frame.2.1 34 = .ok (.iload_n 2, 1) := by decide +kernel
theorem d_Mo_frame_35 : decode m_Mo_frame.2.1 35 = .ok (.ifCond .eq 21, 3) := by decide +kernel
theorem d_Mo_frame_38 : decode m_Mo_frame.2.1 38 = .ok (.aload_n 0, 1) := by decide +kernel
theorem d_Mo_frame_39 : decode m_Mo_frame.2.1 39 = .ok (.getfield 13, 3) := by decide +kernel
theorem d_Mo_frame_42 : decode m_Mo_frame.2.1 42 = .ok (.iload_n 3, 1) := by decide +kernel
theorem d_Mo_frame_43 : decode m_Mo_frame.2.1 43 = .ok (.iaload, 1) := by decide +kernel
theorem d_Mo_frame_44 : decode m_Mo_frame.2.1 44 = .ok (.iload_n 1, 1) := by decide +kernel
theorem d_Mo_frame_45 : decode m_Mo_frame.2.1 45 = .ok (.if_icmp .ge 7, 3) := by decide +kernel
theorem d_Mo_frame_48 : decode m_Mo_frame.2.1 48 = .ok (.iconst 1, 1) := by decide +kernel
theorem d_Mo_frame_49 : decode m_Mo_frame.2.1 49 = .ok (.goto 22, 3) := by decide +kernel
theorem d_Mo_frame_52 : decode m_Mo_frame.2.1 52 = .ok (.iconst 0, 1) := by decide +kernel
theorem d_Mo_frame_53 : decode m_Mo_frame.2.1 53 = .ok (.goto 18, 3) := by decide +kernel
theorem d_Mo_frame_56 : decode m_Mo_frame.2.1 56 = .ok (.aload_n 0, 1) := by decide +kernel
theorem d_Mo_frame_57 : decode m_Mo_frame.2.1 57 = .ok (.getfield 13, 3) := by decide +kernel
theorem d_Mo_frame_60 : decode m_Mo_frame.2.1 60 = .ok (.iload_n 3, 1) := by decide +kernel
theorem d_Mo_frame_61 : decode m_Mo_frame.2.1 61 = .ok (.iaload, 1) := by decide +kernel
theorem d_Mo_frame_62 : decode m_Mo_frame.2.1 62 = .ok (.iload_n 1, 1) := by decide +kernel
theorem d_Mo_frame_63 : decode m_Mo_frame.2.1 63 = .ok (.if_icmp .ne 7, 3) := by decide +kernel
theorem d_Mo_frame_66 : decode m_Mo_frame.2.1 66 = .ok (.iconst 1, 1) := by decide +kernel
theorem d_Mo_frame_67 : decode m_Mo_frame.2.1 67 = .ok (.goto 4, 3) := by decide +kernel
theorem d_Mo_frame_70 : decode m_Mo_frame.2.1 70 = .ok (.iconst 0, 1) := by decide +kernel
theorem d_Mo_frame_71 : decode m_Mo_frame.2.1 71 = .ok (.istore 7, 2) := by decide +kernel
theorem d_Mo_frame_73 : decode m_Mo_frame.2.1 73 = .ok (.iload 7, 2) := by decide +kernel
theorem d_Mo_frame_75 : decode m_Mo_frame.2.1 75 = .ok (.ifCond .eq 7, 3) := by decide +kernel
theorem d_Mo_frame_78 : decode m_Mo_frame.2.1 78 = .ok (.iload_n 3, 1) := by decide +kernel
theorem d_Mo_frame_79 : decode m_Mo_frame.2.1 79 = .ok (.goto 5, 3) := by decide +kernel
theorem d_Mo_frame_82 : decode m_Mo_frame.2.1 82 = .ok (.iload 5, 2) := by decide +kernel
theorem d_Mo_frame_84 : decode m_Mo_frame.2.1 84 = .ok (.istore 5, 2) := by decide +kernel
theorem d_Mo_frame_86 : decode m_Mo_frame.2.1 86 = .ok (.iload_n 3, 1) := by decide +kernel
theorem d_Mo_frame_87 : decode m_Mo_frame.2.1 87 = .ok (.iconst 1, 1) := by decide +kernel
theorem d_Mo_frame_88 : decode m_Mo_frame.2.1 88 = .ok (.iadd, 1) := by decide +kernel
theorem d_Mo_frame_89 : decode m_Mo_frame.2.1 89 = .ok (.aload_n 0, 1) := by decide +kernel
theorem d_Mo_frame_90 : decode m_Mo_frame.2.1 90 = .ok (.getfield 133, 3) := by decide +kernel
theorem d_Mo_frame_93 : decode m_Mo_frame.2.1 93 = .ok (.iadd, 1) := by decide +kernel
theorem d_Mo_frame_94 : decode m_Mo_frame.2.1 94 = .ok (.istore 8, 2) := by decide +kernel
theorem d_Mo_frame_96 : decode m_Mo_frame.2.1 96 = .ok (.iload 8, 2) := by decide +kernel
theorem d_Mo_frame_98 : decode m_Mo_frame.2.1 98 = .ok (.iconst 1, 1) := by decide +kernel
theorem d_Mo_frame_99 : decode m_Mo_frame.2.1 99 = .ok (.iadd, 1) := by decide +kernel
theorem d_Mo_frame_100 : decode m_Mo_frame.2.1 100 = .ok (.aload_n 0, 1) := by decide +kernel
theorem d_Mo_frame_101 : decode m_Mo_frame.2.1 101 = .ok (.getfield 13, 3) := by decide +kernel
theorem d_Mo_frame_104 : decode m_Mo_frame.2.1 104 = .ok (.iload 8, 2) := by decide +kernel
theorem d_Mo_frame_106 : decode m_Mo_frame.2.1 106 = .ok (.iaload, 1) := by decide +kernel
theorem d_Mo_frame_107 : decode m_Mo_frame.2.1 107 = .ok (.iadd, 1) := by decide +kernel
theorem d_Mo_frame_108 : decode m_Mo_frame.2.1 108 = .ok (.istore_n 3, 1) := by decide +kernel
theorem d_Mo_frame_109 : decode m_Mo_frame.2.1 109 = .ok (.iinc 6 1, 3) := by decide +kernel
theorem d_Mo_frame_112 : decode m_Mo_frame.2.1 112 = .ok (.goto (-85), 3) := by decide +kernel
theorem d_Mo_frame_115 : decode m_Mo_frame.2.1 115 = .ok (.iload 5, 2) := by decide +kernel
theorem d_Mo_frame_117 : decode m_Mo_frame.2.1 117 = .ok (.ireturn, 1) := by decide +kernel
theorem d_Mo_target_0 : decode m_Mo_target.2.1 0 = .ok (.iload_n 1, 1) := by decide +kernel
theorem d_Mo_target_1 : decode m_Mo_target.2.1 1 = .ok (.aload_n 0, 1) := by decide +kernel
theorem d_Mo_target_2 : decode m_Mo_target.2.1 2 = .ok (.getfield 13, 3) := by decide +kernel
theorem d_Mo_target_5 : decode m_Mo_target.2.1 5 = .ok (.aload_n 0, 1) := by decide +kernel
theorem d_Mo_target_6 : decode m_Mo_target.2.1 6 = .ok (.getfield 139, 3) := by decide +kernel
theorem d_Mo_target_9 : decode m_Mo_target.2.1 9 = .ok (.iload_n 1, 1) := by decide +kernel
theorem d_Mo_target_10 : decode m_Mo_target.2.1 10 = .ok (.iadd, 1) := by decide +kernel
theorem d_Mo_target_11 : decode m_Mo_target.2.1 11 = .ok (.iconst 1, 1) := by decide +kernel
theorem d_Mo_target_12 : decode m_Mo_target.2.1 12 = .ok (.iadd, 1) := by decide +kernel
theorem d_Mo_target_13 : decode m_Mo_target.2.1 13 = .ok (.iaload, 1) := by decide +kernel
theorem d_Mo_target_14 : decode m_Mo_target.2.1 14 = .ok (.aload_n 0, 1) := by decide +kernel
theorem d_Mo_target_15 : decode m_Mo_target.2.1 15 = .ok (.getfield 13, 3) := by decide +kernel
theorem d_Mo_target_18 : decode m_Mo_target.2.1 18 = .ok (.aload_n 0, 1) := by decide +kernel
theorem d_Mo_target_19 : decode m_Mo_target.2.1 19 = .ok (.getfield 139, 3) := by decide +kernel
theorem d_Mo_target_22 : decode m_Mo_target.2.1 22 = .ok (.iload_n 1, 1) := by decide +kernel
theorem d_Mo_target_23 : decode m_Mo_target.2.1 23 = .ok (.iadd, 1) := by decide +kernel
theorem d_Mo_target_24 : decode m_Mo_target.2.1 24 = .ok (.iconst 2, 1) := by decide +kernel
theorem d_Mo_target_25 : decode m_Mo_target.2.1 25 = .ok (.iadd, 1) := by decide +kernel
theorem d_Mo_target_26 : decode m_Mo_target.2.1 26 = .ok (.iaload, 1) := by decide +kernel
theorem d_Mo_target_27 : decode m_Mo_target.2.1 27 = .ok (.invokestatic 84, 3) := by decide +kernel
theorem d_Mo_target_30 : decode m_Mo_target.2.1 30 = .ok (.iadd, 1) := by decide +kernel
theorem d_Mo_target_31 : decode m_Mo_target.2.1 31 = .ok (.ireturn, 1) := by decide +kernel
theorem d_Mo_constant_0 : decode m_Mo_constant.2.1 0 = .ok (.iconst 0, 1) := by decide +kernel
theorem d_Mo_constant_1 : decode m_Mo_constant.2.1 1 = .ok (.istore_n 2, 1) := by decide +kernel
theorem d_Mo_constant_2 : decode m_Mo_constant.2.1 2 = .ok (.iconst 0, 1) := by decide +kernel
theorem d_Mo_constant_3 : decode m_Mo_constant.2.1 3 = .ok (.istore_n 3, 1) := by decide +kernel
theorem d_Mo_constant_4 : decode m_Mo_constant.2.1 4 = .ok (.iload_n 3, 1) := by decide +kernel
theorem d_Mo_constant_5 : decode m_Mo_constant.2.1 5 = .ok (.iconst 4, 1) := by decide +kernel
theorem d_Mo_constant_6 : decode m_Mo_constant.2.1 6 = .ok (.if_icmp .ge 28, 3) := by decide +kernel
theorem d_Mo_constant_9 : decode m_Mo_constant.2.1 9 = .ok (.sipush 256, 3) := by decide +kernel
theorem d_Mo_constant_12 : decode m_Mo_constant.2.1 12 = .ok (.iload_n 2, 1) := by decide +kernel
theorem d_Mo_constant_13 : decode m_Mo_constant.2.1 13 = .ok (.imul, 1) := by decide +kernel
theorem d_Mo_constant_14 : decode m_Mo_constant.2.1 14 = .ok (.aload_n 0, 1) := by decide +kernel
theorem d_Mo_constant_15 : decode m_Mo_constant.2.1 15 = .ok (.getfield 13, 3) := by decide +kernel
theorem d_Mo_constant_18 : decode m_Mo_constant.2.1 18 = .ok (.iconst 2, 1) := by decide +kernel
theorem d_Mo_constant_19 : decode m_Mo_constant.2.1 19 = .ok (.iconst 4, 1) := by decide +kernel
theorem d_Mo_constant_20 : decode m_Mo_constant.2.1 20 = .ok (.iload_n 1, 1) := by decide +kernel
theorem d_Mo_constant_21 : decode m_Mo_constant.2.1 21 = .ok (.imul, 1) := by decide +kernel
theorem d_Mo_constant_22 : decode m_Mo_constant.2.1 22 = .ok (.iadd, 1) := by decide +kernel
theorem d_Mo_constant_23 : decode m_Mo_constant.2.1 23 = .ok (.iload_n 3, 1) := by decide +kernel
theorem d_Mo_constant_24 : decode m_Mo_constant.2.1 24 = .ok (.iadd, 1) := by decide +kernel
theorem d_Mo_constant_25 : decode m_Mo_constant.2.1 25 = .ok (.iaload, 1) := by decide +kernel
theorem d_Mo_constant_26 : decode m_Mo_constant.2.1 26 = .ok (.iadd, 1) := by decide +kernel
theorem d_Mo_constant_27 : decode m_Mo_constant.2.1 27 = .ok (.istore_n 2, 1) := by decide +kernel
theorem d_Mo_constant_28 : decode m_Mo_constant.2.1 28 = .ok (.iinc 3 1, 3) := by decide +kernel
theorem d_Mo_constant_31 : decode m_Mo_constant.2.1 31 = .ok (.goto (-27), 3) := by decide +kernel
theorem d_Mo_constant_34 : decode m_Mo_constant.2.1 34 = .ok (.iload_n 2, 1) := by decide +kernel
theorem d_Mo_constant_35 : decode m_Mo_constant.2.1 35 = .ok (.ireturn, 1) := by decide +kernel
theorem d_Mo_good_0 : decode m_Mo_good.2.1 0 = .ok (.iload_n 0, 1) := by decide +kernel
theorem d_Mo_good_1 : decode m_Mo_good.2.1 1 = .ok (.iload_n 1, 1) := by decide +kernel
theorem d_Mo_good_2 : decode m_Mo_good.2.1 2 = .ok (.if_icmp .eq 13, 3) := by decide +kernel
theorem d_Mo_good_5 : decode m_Mo_good.2.1 5 = .ok (.iload_n 1, 1) := by decide +kernel
theorem d_Mo_good_6 : decode m_Mo_good.2.1 6 = .ok (.iconst 2, 1) := by decide +kernel
theorem d_Mo_good_7 : decode m_Mo_good.2.1 7 = .ok (.if_icmp .ne 12, 3) := by decide +kernel
theorem d_Mo_good_10 : decode m_Mo_good.2.1 10 = .ok (.iload_n 0, 1) := by decide +kernel
theorem d_Mo_good_11 : decode m_Mo_good.2.1 11 = .ok (.iconst 3, 1) := by decide +kernel
theorem d_Mo_good_12 : decode m_Mo_good.2.1 12 = .ok (.if_icmp .ne 7, 3) := by decide +kernel
theorem d_Mo_good_15 : decode m_Mo_good.2.1 15 = .ok (.iconst 1, 1) := by decide +kernel
theorem d_Mo_good_16 : decode m_Mo_good.2.1 16 = .ok (.goto 4, 3) := by decide +kernel
theorem d_Mo_good_19 : decode m_Mo_good.2.1 19 = .ok (.iconst 0, 1) := by decide +kernel
theorem d_Mo_good_20 : decode m_Mo_good.2.1 20 = .ok (.ireturn, 1) := by decide +kernel
theorem d_Mo_needs_0 : decode m_Mo_needs.2.1 0 = .ok (.aload_n 0, 1) := by decide +kernel
theorem d_Mo_needs_1 : decode m_Mo_needs.2.1 1 = .ok (.getfield 13, 3) := by decide +kernel
theorem d_Mo_needs_4 : decode m_Mo_needs.2.1 4 = .ok (.aload_n 0, 1) := by decide +kernel
theorem d_Mo_needs_5 : decode m_Mo_needs.2.1 5 = .ok (.getfield 139, 3) := by decide +kernel
theorem d_Mo_needs_8 : decode m_Mo_needs.2.1 8 = .ok (.iload_n 1, 1) := by decide +kernel
theorem d_Mo_needs_9 : decode m_Mo_needs.2.1 9 = .ok (.iadd, 1) := by decide +kernel
theorem d_Mo_needs_10 : decode m_Mo_needs.2.1 10 = .ok (.iaload, 1) := by decide +kernel
theorem d_Mo_needs_11 : decode m_Mo_needs.2.1 11 = .ok (.istore_n 3, 1) := by decide +kernel
theorem d_Mo_needs_12 : decode m_Mo_needs.2.1 12 = .ok (.iload_n 3, 1) := by decide +kernel
theorem d_Mo_needs_13 : decode m_Mo_needs.2.1 13 = .ok (.sipush 184, 3) := by decide +kernel
theorem d_Mo_needs_16 : decode m_Mo_needs.2.1 16 = .ok (.if_icmp .eq 9, 3) := by decide +kernel
theorem d_Mo_needs_19 : decode m_Mo_needs.2.1 19 = .ok (.iload_n 3, 1) := by decide +kernel
theorem d_Mo_needs_20 : decode m_Mo_needs.2.1 20 = .ok (.iload_n 2, 1) := by decide +kernel
theorem d_Mo_needs_21 : decode m_Mo_needs.2.1 21 = .ok (.invokestatic 142, 3) := by decide +kernel
theorem d_Mo_needs_24 : decode m_Mo_needs.2.1 24 = .ok (.ireturn, 1) := by decide +kernel
theorem d_Mo_needs_25 : decode m_Mo_needs.2.1 25 = .ok (.aload_n 0, 1) := by decide +kernel
theorem d_Mo_needs_26 : decode m_Mo_needs.2.1 26 = .ok (.aload_n 0, 1) := by decide +kernel
theorem d_Mo_needs_27 : decode m_Mo_needs.2.1 27 = .ok (.getfield 13, 3) := by decide +kernel
theorem d_Mo_needs_30 : decode m_Mo_needs.2.1 30 = .ok (.aload_n 0, 1) := by decide +kernel
theorem d_Mo_needs_31 : decode m_Mo_needs.2.1 31 = .ok (.getfield 139, 3) := by decide +kernel
theorem d_Mo_needs_34 : decode m_Mo_needs.2.1 34 = .ok (.iload_n 1, 1) := by decide +kernel
theorem d_Mo_needs_35 : decode m_Mo_needs.2.1 35 = .ok (.iadd, 1) := by decide +kernel
theorem d_Mo_needs_36 : decode m_Mo_needs.2.1 36 = .ok (.iconst 1, 1) := by decide +kernel
theorem d_Mo_needs_37 : decode m_Mo_needs.2.1 37 = .ok (.iadd, 1) := by decide +kernel
theorem d_Mo_needs_38 : decode m_Mo_needs.2.1 38 = .ok (.iaload, 1) := by decide +kernel
theorem d_Mo_needs_39 : decode m_Mo_needs.2.1 39 = .ok (.invokevirtual 121, 3) := by decide +kernel
theorem d_Mo_needs_42 : decode m_Mo_needs.2.1 42 = .ok (.istore 4, 2) := by decide +kernel
theorem d_Mo_needs_44 : decode m_Mo_needs.2.1 44 = .ok (.iload_n 2, 1) := by decide +kernel
theorem d_Mo_needs_45 : decode m_Mo_needs.2.1 45 = .ok (.aload_n 0, 1) := by decide +kernel
theorem d_Mo_needs_46 : decode m_Mo_needs.2.1 46 = .ok (.getfield 13, 3) := by decide +kernel
theorem d_Mo_needs_49 : decode m_Mo_needs.2.1 49 = .ok (.iload 4, 2) := by decide +kernel
theorem d_Mo_needs_51 : decode m_Mo_needs.2.1 51 = .ok (.iaload, 1) := by decide +kernel
theorem d_Mo_needs_52 : decode m_Mo_needs.2.1 52 = .ok (.if_icmp .ge 23, 3) := by decide +kernel
theorem d_Mo_needs_55 : decode m_Mo_needs.2.1 55 = .ok (.aload_n 0, 1) := by decide +kernel
theorem d_Mo_needs_56 : decode m_Mo_needs.2.1 56 = .ok (.getfield 13, 3) := by decide +kernel
theorem d_Mo_needs_59 : decode m_Mo_needs.2.1 59 = .ok (.iload 4, 2) := by decide +kernel
theorem d_Mo_needs_61 : decode m_Mo_needs.2.1 61 = .ok (.aload_n 0, 1) := by decide +kernel
theorem d_Mo_needs_62 : decode m_Mo_needs.2.1 62 = .ok (.getfield 13, 3) := by decide +kernel
theorem d_Mo_needs_65 : decode m_Mo_needs.2.1 65 = .ok (.iload 4, 2) := by decide +kernel
theorem d_Mo_needs_67 : decode m_Mo_needs.2.1 67 = .ok (.iaload, 1) := by decide +kernel
theorem d_Mo_needs_68 : decode m_Mo_needs.2.1 68 = .ok (.iadd, 1) := by decide +kernel
theorem d_Mo_needs_69 : decode m_Mo_needs.2.1 69 = .ok (.iload_n 2, 1) := by decide +kernel
theorem d_Mo_needs_70 : decode m_Mo_needs.2.1 70 = .ok (.isub, 1) := by decide +kernel
theorem d_Mo_needs_71 : decode m_Mo_needs.2.1 71 = .ok (.iaload, 1) := by decide +kernel
theorem d_Mo_needs_72 : decode m_Mo_needs.2.1 72 = .ok (.goto 4, 3) := by decide +kernel
theorem d_Mo_needs_75 : decode m_Mo_needs.2.1 75 = .ok (.iconst 0, 1) := by decide +kernel
theorem d_Mo_needs_76 : decode m_Mo_needs.2.1 76 = .ok (.ireturn, 1) := by decide +kernel
theorem d_Mo_takes_0 : decode m_Mo_takes.2.1 0 = .ok (.iconst 0, 1) := by decide +kernel
theorem d_Mo_takes_1 : decode m_Mo_takes.2.1 1 = .ok (.istore_n 2, 1) := by decide +kernel
theorem d_Mo_takes_2 : decode m_Mo_takes.2.1 2 = .ok (.aload_n 0, 1) := by decide +kernel
theorem d_Mo_takes_3 : decode m_Mo_takes.2.1 3 = .ok (.iload_n 1, 1) := by decide +kernel
theorem d_Mo_takes_4 : decode m_Mo_takes.2.1 4 = .ok (.iload_n 2, 1) := by decide +kernel
theorem d_Mo_takes_5 : decode m_Mo_takes.2.1 5 = .ok (.invokevirtual 145, 3) := by decide +kernel
theorem d_Mo_takes_8 : decode m_Mo_takes.2.1 8 = .ok (.ifCond .le 9, 3) := by decide +kernel
theorem d_Mo_takes_11 : decode m_Mo_takes.2.1 11 = .ok (.iinc 2 1, 3) := by decide +kernel
theorem d_Mo_takes_14 : decode m_Mo_takes.2.1 14 = .ok (.goto (-12), 3) := by decide +kernel
theorem d_Mo_takes_17 : decode m_Mo_takes.2.1 17 = .ok (.iload_n 2, 1) := by decide +kernel
theorem d_Mo_takes_18 : decode m_Mo_takes.2.1 18 = .ok (.ireturn, 1) := by decide +kernel
theorem d_Mo_gives_0 : decode m_Mo_gives.2.1 0 = .ok (.aload_n 0, 1) := by decide +kernel
theorem d_Mo_gives_1 : decode m_Mo_gives.2.1 1 = .ok (.getfield 13, 3) := by decide +kernel
theorem d_Mo_gives_4 : decode m_Mo_gives.2.1 4 = .ok (.aload_n 0, 1) := by decide +kernel
theorem d_Mo_gives_5 : decode m_Mo_gives.2.1 5 = .ok (.getfield 139, 3) := by decide +kernel
theorem d_Mo_gives_8 : decode m_Mo_gives.2.1 8 = .ok (.iload_n 1, 1) := by decide +kernel
theorem d_Mo_gives_9 : decode m_Mo_gives.2.1 9 = .ok (.iadd, 1) := by decide +kernel
theorem d_Mo_gives_10 : decode m_Mo_gives.2.1 10 = .ok (.iaload, 1) := by decide +kernel
theorem d_Mo_gives_11 : decode m_Mo_gives.2.1 11 = .ok (.istore_n 2, 1) := by decide +kernel
theorem d_Mo_gives_12 : decode m_Mo_gives.2.1 12 = .ok (.iload_n 2, 1) := by decide +kernel
theorem d_Mo_gives_13 : decode m_Mo_gives.2.1 13 = .ok (.sipush 184, 3) := by decide +kernel
theorem d_Mo_gives_16 : decode m_Mo_gives.2.1 16 = .ok (.if_icmp .ne 33, 3) := by decide +kernel
theorem d_Mo_gives_19 : decode m_Mo_gives.2.1 19 = .ok (.aload_n 0, 1) := by decide +kernel
theorem d_Mo_gives_20 : decode m_Mo_gives.2.1 20 = .ok (.aload_n 0, 1) := by decide +kernel
theorem d_Mo_gives_21 : decode m_Mo_gives.2.1 21 = .ok (.aload_n 0, 1) := by decide +kernel
theorem d_Mo_gives_22 : decode m_Mo_gives.2.1 22 = .ok (.getfield 13, 3) := by decide +kernel
theorem d_Mo_gives_25 : decode m_Mo_gives.2.1 25 = .ok (.aload_n 0, 1) := by decide +kernel
theorem d_Mo_gives_26 : decode m_Mo_gives.2.1 26 = .ok (.getfield 139, 3) := by decide +kernel
theorem d_Mo_gives_29 : decode m_Mo_gives.2.1 29 = .ok (.iload_n 1, 1) := by decide +kernel
theorem d_Mo_gives_30 : decode m_Mo_gives.2.1 30 = .ok (.iadd, 1) := by decide +kernel
theorem d_Mo_gives_31 : decode m_Mo_gives.2.1 31 = .ok (.iconst 1, 1) := by decide +kernel
theorem d_Mo_gives_32 : decode m_Mo_gives.2.1 32 = .ok (.iadd, 1) := by decide +kernel
theorem d_Mo_gives_33 : decode m_Mo_gives.2.1 33 = .ok (.iaload, 1) := by decide +kernel
theorem d_Mo_gives_34 : decode m_Mo_gives.2.1 34 = .ok (.invokevirtual 121, 3) := by decide +kernel
theorem d_Mo_gives_37 : decode m_Mo_gives.2.1 37 = .ok (.invokevirtual 148, 3) := by decide +kernel
theorem d_Mo_gives_40 : decode m_Mo_gives.2.1 40 = .ok (.ifCond .le 7, 3) := by decide +kernel
theorem d_Mo_gives_43 : decode m_Mo_gives.2.1 43 = .ok (.iconst 1, 1) := by decide +kernel
theorem d_Mo_gives_44 : decode m_Mo_gives.2.1 44 = .ok (.goto 4, 3) := by decide +kernel
theorem d_Mo_gives_47 : decode m_Mo_gives.2.1 47 = .ok (.iconst 0, 1) := by decide +kernel
theorem d_Mo_gives_48 : decode m_Mo_gives.2.1 48 = .ok (.ireturn, 1) := by decide +kernel
theorem d_Mo_gives_49 : decode m_Mo_gives.2.1 49 = .ok (.iload_n 2, 1) := by decide +kernel
theorem d_Mo_gives_50 : decode m_Mo_gives.2.1 50 = .ok (.bipush 89, 2) := by decide +kernel
theorem d_Mo_gives_52 : decode m_Mo_gives.2.1 52 = .ok (.if_icmp .eq 9, 3) := by decide +kernel
theorem d_Mo_gives_55 : decode m_Mo_gives.2.1 55 = .ok (.iload_n 2, 1) := by decide +kernel
theorem d_Mo_gives_56 : decode m_Mo_gives.2.1 56 = .ok (.bipush 95, 2) := by decide +kernel
theorem d_Mo_gives_58 : decode m_Mo_gives.2.1 58 = .ok (.if_icmp .ne 7, 3) := by decide +kernel
theorem d_Mo_gives_61 : decode m_Mo_gives.2.1 61 = .ok (.iconst 2, 1) := by decide +kernel
theorem d_Mo_gives_62 : decode m_Mo_gives.2.1 62 = .ok (.goto 21, 3) := by decide +kernel
theorem d_Mo_gives_65 : decode m_Mo_gives.2.1 65 = .ok (.iload_n 2, 1) := by decide +kernel
theorem d_Mo_gives_66 : decode m_Mo_gives.2.1 66 = .ok (.bipush 25, 2) := by decide +kernel
theorem d_Mo_gives_68 : decode m_Mo_gives.2.1 68 = .ok (.if_icmp .eq 10, 3) := by decide +kernel
theorem d_Mo_gives_71 : decode m_Mo_gives.2.1 71 = .ok (.iload_n 2, 1) := by decide +kernel
theorem d_Mo_gives_72 : decode m_Mo_gives.2.1 72 = .ok (.invokestatic 151, 3) := by decide +kernel
theorem d_Mo_gives_75 : decode m_Mo_gives.2.1 75 = .ok (.ifCond .le 7, 3) := by decide +kernel
theorem d_Mo_gives_78 : decode m_Mo_gives.2.1 78 = .ok (.iconst 1, 1) := by decide +kernel
theorem d_Mo_gives_79 : decode m_Mo_gives.2.1 79 = .ok (.goto 4, 3) := by decide +kernel
theorem d_Mo_gives_82 : decode m_Mo_gives.2.1 82 = .ok (.iconst 0, 1) := by decide +kernel
theorem d_Mo_gives_83 : decode m_Mo_gives.2.1 83 = .ok (.ireturn, 1) := by decide +kernel
theorem d_Mo_can_0 : decode m_Mo_can.2.1 0 = .ok (.aload_n 0, 1) := by decide +kernel
theorem d_Mo_can_1 : decode m_Mo_can.2.1 1 = .ok (.getfield 13, 3) := by decide +kernel
theorem d_Mo_can_4 : decode m_Mo_can.2.1 4 = .ok (.aload_n 0, 1) := by decide +kernel
theorem d_Mo_can_5 : decode m_Mo_can.2.1 5 = .ok (.getfield 139, 3) := by decide +kernel
theorem d_Mo_can_8 : decode m_Mo_can.2.1 8 = .ok (.iload_n 2, 1) := by decide +kernel
theorem d_Mo_can_9 : decode m_Mo_can.2.1 9 = .ok (.iadd, 1) := by decide +kernel
theorem d_Mo_can_10 : decode m_Mo_can.2.1 10 = .ok (.iaload, 1) := by decide +kernel
theorem d_Mo_can_11 : decode m_Mo_can.2.1 11 = .ok (.istore_n 3, 1) := by decide +kernel
theorem d_Mo_can_12 : decode m_Mo_can.2.1 12 = .ok (.aload_n 0, 1) := by decide +kernel
theorem d_Mo_can_13 : decode m_Mo_can.2.1 13 = .ok (.iload_n 2, 1) := by decide +kernel
theorem d_Mo_can_14 : decode m_Mo_can.2.1 14 = .ok (.invokevirtual 154, 3) := by decide +kernel
theorem d_Mo_can_17 : decode m_Mo_can.2.1 17 = .ok (.istore 4, 2) := by decide +kernel
theorem d_Mo_can_19 : decode m_Mo_can.2.1 19 = .ok (.iload 4, 2) := by decide +kernel
theorem d_Mo_can_21 : decode m_Mo_can.2.1 21 = .ok (.aload_n 0, 1) := by decide +kernel
theorem d_Mo_can_22 : decode m_Mo_can.2.1 22 = .ok (.getfield 28, 3) := by decide +kernel
theorem d_Mo_can_25 : decode m_Mo_can.2.1 25 = .ok (.iload_n 1, 1) := by decide +kernel
theorem d_Mo_can_26 : decode m_Mo_can.2.1 26 = .ok (.iaload, 1) := by decide +kernel
theorem d_Mo_can_27 : decode m_Mo_can.2.1 27 = .ok (.if_icmp .gt 25, 3) := by decide +kernel
theorem d_Mo_can_30 : decode m_Mo_can.2.1 30 = .ok (.aload_n 0, 1) := by decide +kernel
theorem d_Mo_can_31 : decode m_Mo_can.2.1 31 = .ok (.getfield 28, 3) := by decide +kernel
theorem d_Mo_can_34 : decode m_Mo_can.2.1 34 = .ok (.iload_n 1, 1) := by decide +kernel
theorem d_Mo_can_35 : decode m_Mo_can.2.1 35 = .ok (.iaload, 1) := by decide +kernel
theorem d_Mo_can_36 : decode m_Mo_can.2.1 36 = .ok (.iload 4, 2) := by decide +kernel
theorem d_Mo_can_38 : decode m_Mo_can.2.1 38 = .ok (.isub, 1) := by decide +kernel
theorem d_Mo_can_39 : decode m_Mo_can.2.1 39 = .ok (.aload_n 0, 1) := by decide +kernel
theorem d_Mo_can_40 : decode m_Mo_can.2.1 40 = .ok (.iload_n 2, 1) := by decide +kernel
theorem d_Mo_can_41 : decode m_Mo_can.2.1 41 = .ok (.invokevirtual 157, 3) := by decide +kernel
theorem d_Mo_can_44 : decode m_Mo_can.2.1 44 = .ok (.iadd, 1) := by decide +kernel
theorem d_Mo_can_45 : decode m_Mo_can.2.1 45 = .ok (.aload_n 0, 1) := by decide +kernel
theorem d_Mo_can_46 : decode m_Mo_can.2.1 46 = .ok (.getfield 130, 3) := by decide +kernel
theorem d_Mo_can_49 : decode m_Mo_can.2.1 49 = .ok (.if_icmp .le 5, 3) := by decide +kernel
theorem d_Mo_can_52 : decode m_Mo_can.2.1 52 = .ok (.iconst 0, 1) := by decide +kernel
theorem d_Mo_can_53 : decode m_Mo_can.2.1 53 = .ok (.ireturn, 1) := by decide +kernel
theorem d_Mo_can_54 : decode m_Mo_can.2.1 54 = .ok (.iconst 0, 1) := by decide +kernel
theorem d_Mo_can_55 : decode m_Mo_can.2.1 55 = .ok (.istore 5, 2) := by decide +kernel
theorem d_Mo_can_57 : decode m_Mo_can.2.1 57 = .ok (.iload 5, 2) := by decide +kernel
theorem d_Mo_can_59 : decode m_Mo_can.2.1 59 = .ok (.iload 4, 2) := by decide +kernel
theorem d_Mo_can_61 : decode m_Mo_can.2.1 61 = .ok (.if_icmp .ge 55, 3) := by decide +kernel
theorem d_Mo_can_64 : decode m_Mo_can.2.1 64 = .ok (.aload_n 0, 1) := by decide +kernel
theorem d_Mo_can_65 : decode m_Mo_can.2.1 65 = .ok (.iload_n 2, 1) := by decide +kernel
theorem d_Mo_can_66 : decode m_Mo_can.2.1 66 = .ok (.iload 5, 2) := by decide +kernel
theorem d_Mo_can_68 : decode m_Mo_can.2.1 68 = .ok (.invokevirtual 145, 3) := by decide +kernel
theorem d_Mo_can_71 : decode m_Mo_can.2.1 71 = .ok (.istore 6, 2) := by decide +kernel
theorem d_Mo_can_73 : decode m_Mo_can.2.1 73 = .ok (.iload 6, 2) := by decide +kernel
theorem d_Mo_can_75 : decode m_Mo_can.2.1 75 = .ok (.iconst 3, 1) := by decide +kernel
theorem d_Mo_can_76 : decode m_Mo_can.2.1 76 = .ok (.if_icmp .eq 34, 3) := by decide +kernel
theorem d_Mo_can_79 : decode m_Mo_can.2.1 79 = .ok (.aload_n 0, 1) := by decide +kernel
theorem d_Mo_can_80 : decode m_Mo_can.2.1 80 = .ok (.getfield 22, 3) := by decide +kernel
theorem d_Mo_can_83 : decode m_Mo_can.2.1 83 = .ok (.bipush 6, 2) := by decide +kernel
theorem d_Mo_can_85 : decode m_Mo_can.2.1 85 = .ok (.iload_n 1, 1) := by decide +kernel
theorem d_Mo_can_86 : decode m_Mo_can.2.1 86 = .ok (.imul, 1) := by decide +kernel
theorem d_Mo_can_87 : decode m_Mo_can.2.1 87 = .ok (.aload_n 0, 1) := by decide +kernel
theorem d_Mo_can_88 : decode m_Mo_can.2.1 88 = .ok (.getfield 28, 3) := by decide +kernel
theorem d_Mo_can_91 : decode m_Mo_can.2.1 91 = .ok (.iload_n 1, 1) := by decide +kernel
theorem d_Mo_can_92 : decode m_Mo_can.2.1 92 = .ok (.iaload, 1) := by decide +kernel
theorem d_Mo_can_93 : decode m_Mo_can.2.1 93 = .ok (.iadd, 1) := by decide +kernel
theorem d_Mo_can_94 : decode m_Mo_can.2.1 94 = .ok (.iconst 1, 1) := by decide +kernel
theorem d_Mo_can_95 : decode m_Mo_can.2.1 95 = .ok (.isub, 1) := by decide +kernel
theorem d_Mo_can_96 : decode m_Mo_can.2.1 96 = .ok (.iload 5, 2) := by decide +kernel
theorem d_Mo_can_98 : decode m_Mo_can.2.1 98 = .ok (.isub, 1) := by decide +kernel
theorem d_Mo_can_99 : decode m_Mo_can.2.1 99 = .ok (.iaload, 1) := by decide +kernel
theorem d_Mo_can_100 : decode m_Mo_can.2.1 100 = .ok (.iload 6, 2) := by decide +kernel
theorem d_Mo_can_102 : decode m_Mo_can.2.1 102 = .ok (.invokestatic 160, 3) := by decide +kernel
theorem d_Mo_can_105 : decode m_Mo_can.2.1 105 = .ok (.ifCond .ne 5, 3) := by decide +kernel
theorem d_Mo_can_108 : decode m_Mo_can.2.1 108 = .ok (.iconst 0, 1) := by decide +kernel
theorem d_Mo_can_109 : decode m_Mo_can.2.1 109 = .ok (.ireturn, 1) := by decide +kernel
theorem d_Mo_can_110 : decode m_Mo_can.2.1 110 = .ok (.iinc 5 1, 3) := by decide +kernel
theorem d_Mo_can_113 : decode m_Mo_can.2.1 113 = .ok (.goto (-56), 3) := by decide +kernel
theorem d_Mo_can_116 : decode m_Mo_can.2.1 116 = .ok (.iload_n 3, 1) := by decide +kernel
theorem d_Mo_can_117 : decode m_Mo_can.2.1 117 = .ok (.invokestatic 55, 3) := by decide +kernel
theorem d_Mo_can_120 : decode m_Mo_can.2.1 120 = .ok (.ifCond .eq 29, 3) := by decide +kernel
theorem d_Mo_can_123 : decode m_Mo_can.2.1 123 = .ok (.aload_n 0, 1) := by decide +kernel
theorem d_Mo_can_124 : decode m_Mo_can.2.1 124 = .ok (.getfield 16, 3) := by decide +kernel
theorem d_Mo_can_127 : decode m_Mo_can.2.1 127 = .ok (.bipush 6, 2) := by decide +kernel
theorem d_Mo_can_129 : decode m_Mo_can.2.1 129 = .ok (.iload_n 1, 1) := by decide +kernel
theorem d_Mo_can_130 : decode m_Mo_can.2.1 130 = .ok (.imul, 1) := by decide +kernel
theorem d_Mo_can_131 : decode m_Mo_can.2.1 131 = .ok (.aload_n 0, 1) := by decide +kernel
theorem d_Mo_can_132 : decode m_Mo_can.2.1 132 = .ok (.getfield 13, 3) := by decide +kernel
theorem d_Mo_can_135 : decode m_Mo_can.2.1 135 = .ok (.aload_n 0, 1) := by decide +kernel
theorem d_Mo_can_136 : decode m_Mo_can.2.1 136 = .ok (.getfield 139, 3) := by decide +kernel
theorem d_Mo_can_139 : decode m_Mo_can.2.1 139 = .ok (.iload_n 2, 1) := by decide +kernel
theorem d_Mo_can_140 : decode m_Mo_can.2.1 140 = .ok (.iadd, 1) := by decide +kernel
theorem d_Mo_can_141 : decode m_Mo_can.2.1 141 = .ok (.iconst 1, 1) := by decide +kernel
theorem d_Mo_can_142 : decode m_Mo_can.2.1 142 = .ok (.iadd, 1) := by decide +kernel
theorem d_Mo_can_143 : decode m_Mo_can.2.1 143 = .ok (.iaload, 1) := by decide +kernel
theorem d_Mo_can_144 : decode m_Mo_can.2.1 144 = .ok (.iadd, 1) := by decide +kernel
theorem d_Mo_can_145 : decode m_Mo_can.2.1 145 = .ok (.iaload, 1) := by decide +kernel
theorem d_Mo_can_146 : decode m_Mo_can.2.1 146 = .ok (.goto 4, 3) := by decide +kernel
theorem d_Mo_can_149 : decode m_Mo_can.2.1 149 = .ok (.iconst 0, 1) := by decide +kernel
theorem d_Mo_can_150 : decode m_Mo_can.2.1 150 = .ok (.istore 5, 2) := by decide +kernel
theorem d_Mo_can_152 : decode m_Mo_can.2.1 152 = .ok (.iload_n 3, 1) := by decide +kernel
theorem d_Mo_can_153 : decode m_Mo_can.2.1 153 = .ok (.bipush 21, 2) := by decide +kernel
theorem d_Mo_can_155 : decode m_Mo_can.2.1 155 = .ok (.if_icmp .eq 10, 3) := by decide +kernel
theorem d_Mo_can_158 : decode m_Mo_can.2.1 158 = .ok (.iload_n 3, 1) := by decide +kernel
theorem d_Mo_can_159 : decode m_Mo_can.2.1 159 = .ok (.sipush 132, 3) := by decide +kernel
theorem d_Mo_can_162 : decode m_Mo_can.2.1 162 = .ok (.if_icmp .ne 9, 3) := by decide +kernel
theorem d_Mo_can_165 : decode m_Mo_can.2.1 165 = .ok (.iload 5, 2) := by decide +kernel
theorem d_Mo_can_167 : decode m_Mo_can.2.1 167 = .ok (.iconst 1, 1) := by decide +kernel
theorem d_Mo_can_168 : decode m_Mo_can.2.1 168 = .ok (.if_icmp .ne 15, 3) := by decide +kernel
theorem d_Mo_can_171 : decode m_Mo_can.2.1 171 = .ok (.iload_n 3, 1) := by decide +kernel
theorem d_Mo_can_172 : decode m_Mo_can.2.1 172 = .ok (.bipush 25, 2) := by decide +kernel
theorem d_Mo_can_174 : decode m_Mo_can.2.1 174 = .ok (.if_icmp .ne 11, 3) := by decide +kernel
theorem d_Mo_can_177 : decode m_Mo_can.2.1 177 = .ok (.iload 5, 2) := by decide +kernel
theorem d_Mo_can_179 : decode m_Mo_can.2.1 179 = .ok (.iconst 2, 1) := by decide +kernel
theorem d_Mo_can_180 : decode m_Mo_can.2.1 180 = .ok (.if_icmp .ge 5, 3) := by decide +kernel
theorem d_Mo_can_183 : decode m_Mo_can.2.1 183 = .ok (.iconst 0, 1) := by decide +kernel
theorem d_Mo_can_184 : decode m_Mo_can.2.1 184 = .ok (.ireturn, 1) := by decide +kernel
theorem d_Mo_can_185 : decode m_Mo_can.2.1 185 = .ok (.aload_n 0, 1) := by decide +kernel
theorem d_Mo_can_186 : decode m_Mo_can.2.1 186 = .ok (.aload_n 0, 1) := by decide +kernel
theorem d_Mo_can_187 : decode m_Mo_can.2.1 187 = .ok (.getfield 124, 3) := by decide +kernel
theorem d_Mo_can_190 : decode m_Mo_can.2.1 190 = .ok (.invokevirtual 148, 3) := by decide +kernel
theorem d_Mo_can_193 : decode m_Mo_can.2.1 193 = .ok (.istore 6, 2) := by decide +kernel
theorem d_Mo_can_195 : decode m_Mo_can.2.1 195 = .ok (.iload_n 3, 1) := by decide +kernel
theorem d_Mo_can_196 : decode m_Mo_can.2.1 196 = .ok (.invokestatic 58, 3) := by decide +kernel
theorem d_Mo_can_199 : decode m_Mo_can.2.1 199 = .ok (.ifCond .eq 31, 3) := by decide +kernel
theorem d_Mo_can_202 : decode m_Mo_can.2.1 202 = .ok (.iload 6, 2) := by decide +kernel
theorem d_Mo_can_204 : decode m_Mo_can.2.1 204 = .ok (.iload_n 3, 1) := by decide +kernel
theorem d_Mo_can_205 : decode m_Mo_can.2.1 205 = .ok (.sipush 172, 3) := by decide +kernel
theorem d_Mo_can_208 : decode m_Mo_can.2.1 208 = .ok (.if_icmp .ne 7, 3) := by decide +kernel
theorem d_Mo_can_211 : decode m_Mo_can.2.1 211 = .ok (.iconst 1, 1) := by decide +kernel
theorem d_Mo_can_212 : decode m_Mo_can.2.1 212 = .ok (.goto 15, 3) := by decide +kernel
theorem d_Mo_can_215 : decode m_Mo_can.2.1 215 = .ok (.iload_n 3, 1) := by decide +kernel
theorem d_Mo_can_216 : decode m_Mo_can.2.1 216 = .ok (.sipush 176, 3) := by decide +kernel
theorem d_Mo_can_219 : decode m_Mo_can.2.1 219 = .ok (.if_icmp .ne 7, 3) := by decide +kernel
theorem d_Mo_can_222 : decode m_Mo_can.2.1 222 = .ok (.iconst 2, 1) := by decide +kernel
theorem d_Mo_can_223 : decode m_Mo_can.2.1 223 = .ok (.goto 4, 3) := by decide +kernel
theorem d_Mo_can_226 : decode m_Mo_can.2.1 226 = .ok (.iconst 0, 1) := by decide +kernel
theorem d_Mo_can_227 : decode m_Mo_can.2.1 227 = .ok (.if_icmp .ne 7, 3) := by decide +kernel
theorem d_Mo_can_230 : decode m_Mo_can.2.1 230 = .ok (.iconst 1, 1) := by decide +kernel
theorem d_Mo_can_231 : decode m_Mo_can.2.1 231 = .ok (.goto 4, 3) := by decide +kernel
theorem d_Mo_can_234 : decode m_Mo_can.2.1 234 = .ok (.iconst 0, 1) := by decide +kernel
theorem d_Mo_can_235 : decode m_Mo_can.2.1 235 = .ok (.ireturn, 1) := by decide +kernel
theorem d_Mo_begin_0 : decode m_Mo_begin.2.1 0 = .ok (.aload_n 0, 1) := by decide +kernel
theorem d_Mo_begin_1 : decode m_Mo_begin.2.1 1 = .ok (.getfield 28, 3) := by decide +kernel
theorem d_Mo_begin_4 : decode m_Mo_begin.2.1 4 = .ok (.iload_n 1, 1) := by decide +kernel
theorem d_Mo_begin_5 : decode m_Mo_begin.2.1 5 = .ok (.iconst 0, 1) := by decide +kernel
theorem d_Mo_begin_6 : decode m_Mo_begin.2.1 6 = .ok (.iastore, 1) := by decide +kernel
theorem d_Mo_begin_7 : decode m_Mo_begin.2.1 7 = .ok (.iconst 0, 1) := by decide +kernel
theorem d_Mo_begin_8 : decode m_Mo_begin.2.1 8 = .ok (.istore_n 2, 1) := by decide +kernel
theorem d_Mo_begin_9 : decode m_Mo_begin.2.1 9 = .ok (.iload_n 2, 1) := by decide +kernel
theorem d_Mo_begin_10 : decode m_Mo_begin.2.1 10 = .ok (.bipush 6, 2) := by decide +kernel
theorem d_Mo_begin_12 : decode m_Mo_begin.2.1 12 = .ok (.if_icmp .ge 57, 3) := by decide +kernel
theorem d_Mo_begin_15 : decode m_Mo_begin.2.1 15 = .ok (.aload_n 0, 1) := by decide +kernel
theorem d_Mo_begin_16 : decode m_Mo_begin.2.1 16 = .ok (.getfield 16, 3) := by decide +kernel
theorem d_Mo_begin_19 : decode m_Mo_begin.2.1 19 = .ok (.bipush 6, 2) := by decide +kernel
theorem d_Mo_begin_21 : decode m_Mo_begin.2.1 21 = .ok (.iload_n 1, 1) := by decide +kernel
theorem d_Mo_begin_22 : decode m_Mo_begin.2.1 22 = .ok (.imul, 1) := by decide +kernel
theorem d_Mo_begin_23 : decode m_Mo_begin.2.1 23 = .ok (.iload_n 2, 1) := by decide +kernel
theorem d_Mo_begin_24 : decode m_Mo_begin.2.1 24 = .ok (.iadd, 1) := by decide +kernel
theorem d_Mo_begin_25 : decode m_Mo_begin.2.1 25 = .ok (.iload_n 2, 1) := by decide +kernel
theorem d_Mo_begin_26 : decode m_Mo_begin.2.1 26 = .ok (.aload_n 0, 1) := by decide +kernel
theorem d_Mo_begin_27 : decode m_Mo_begin.2.1 27 = .ok (.getfield 127, 3) := by decide +kernel
theorem d_Mo_begin_30 : decode m_Mo_begin.2.1 30 = .ok (.if_icmp .ge 19, 3) := by decide +kernel
theorem d_Mo_begin_33 : decode m_Mo_begin.2.1 33 = .ok (.aload_n 0, 1) := by decide +kernel
theorem d_Mo_begin_34 : decode m_Mo_begin.2.1 34 = .ok (.getfield 13, 3) := by decide +kernel
theorem d_Mo_begin_37 : decode m_Mo_begin.2.1 37 = .ok (.aload_n 0, 1) := by decide +kernel
theorem d_Mo_begin_38 : decode m_Mo_begin.2.1 38 = .ok (.getfield 124, 3) := by decide +kernel
theorem d_Mo_begin_41 : decode m_Mo_begin.2.1 41 = .ok (.iconst 1, 1) := by decide +kernel
theorem d_Mo_begin_42 : decode m_Mo_begin.2.1 42 = .ok (.iadd, 1) := by decide +kernel
theorem d_Mo_begin_43 : decode m_Mo_begin.2.1 43 = .ok (.iload_n 2, 1) := by decide +kernel
theorem d_Mo_begin_44 : decode m_Mo_begin.2.1 44 = .ok (.iadd, 1) := by decide +kernel
theorem d_Mo_begin_45 : decode m_Mo_begin.2.1 45 = .ok (.iaload, 1) := by decide +kernel
theorem d_Mo_begin_46 : decode m_Mo_begin.2.1 46 = .ok (.goto 4, 3) := by decide +kernel
theorem d_Mo_begin_49 : decode m_Mo_begin.2.1 49 = .ok (.iconst 0, 1) := by decide +kernel
theorem d_Mo_begin_50 : decode m_Mo_begin.2.1 50 = .ok (.iastore, 1) := by decide +kernel
theorem d_Mo_begin_51 : decode m_Mo_begin.2.1 51 = .ok (.aload_n 0, 1) := by decide +kernel
theorem d_Mo_begin_52 : decode m_Mo_begin.2.1 52 = .ok (.getfield 19, 3) := by decide +kernel
theorem d_Mo_begin_55 : decode m_Mo_begin.2.1 55 = .ok (.bipush 6, 2) := by decide +kernel
theorem d_Mo_begin_57 : decode m_Mo_begin.2.1 57 = .ok (.iload_n 1, 1) := by decide +kernel
theorem d_Mo_begin_58 : decode m_Mo_begin.2.1 58 = .ok (.imul, 1) := by decide +kernel
theorem d_Mo_begin_59 : decode m_Mo_begin.2.1 59 = .ok (.iload_n 2, 1) := by decide +kernel
theorem d_Mo_begin_60 : decode m_Mo_begin.2.1 60 = .ok (.iadd, 1) := by decide +kernel
theorem d_Mo_begin_61 : decode m_Mo_begin.2.1 61 = .ok (.iconst 0, 1) := by decide +kernel
theorem d_Mo_begin_62 : decode m_Mo_begin.2.1 62 = .ok (.iastore, 1) := by decide +kernel
theorem d_Mo_begin_63 : decode m_Mo_begin.2.1 63 = .ok (.iinc 2 1, 3) := by decide +kernel
theorem d_Mo_begin_66 : decode m_Mo_begin.2.1 66 = .ok (.goto (-57), 3) := by decide +kernel
theorem d_Mo_begin_69 : decode m_Mo_begin.2.1 69 = .ok (.return_, 1) := by decide +kernel
theorem d_Mo_push_0 : decode m_Mo_push.2.1 0 = .ok (.aload_n 0, 1) := by decide +kernel
theorem d_Mo_push_1 : decode m_Mo_push.2.1 1 = .ok (.getfield 22, 3) := by decide +kernel
theorem d_Mo_push_4 : decode m_Mo_push.2.1 4 = .ok (.bipush 6, 2) := by decide +kernel
theorem d_Mo_push_6 : decode m_Mo_push.2.1 6 = .ok (.iload_n 1, 1) := by decide +kernel
theorem d_Mo_push_7 : decode m_Mo_push.2.1 7 = .ok (.imul, 1) := by decide +kernel
theorem d_Mo_push_8 : decode m_Mo_push.2.1 8 = .ok (.aload_n 0, 1) := by decide +kernel
theorem d_Mo_push_9 : decode m_Mo_push.2.1 9 = .ok (.getfield 28, 3) := by decide +kernel
theorem d_Mo_push_12 : decode m_Mo_push.2.1 12 = .ok (.iload_n 1, 1) := by decide +kernel
theorem d_Mo_push_13 : decode m_Mo_push.2.1 13 = .ok (.iaload, 1) := by decide +kernel
theorem d_Mo_push_14 : decode m_Mo_push.2.1 14 = .ok (.iadd, 1) := by decide +kernel
theorem d_Mo_push_15 : decode m_Mo_push.2.1 15 = .ok (.iload_n 2, 1) := by decide +kernel
theorem d_Mo_push_16 : decode m_Mo_push.2.1 16 = .ok (.iastore, 1) := by decide +kernel
theorem d_Mo_push_17 : decode m_Mo_push.2.1 17 = .ok (.aload_n 0, 1) := by decide +kernel
theorem d_Mo_push_18 : decode m_Mo_push.2.1 18 = .ok (.getfield 25, 3) := by decide +kernel
theorem d_Mo_push_21 : decode m_Mo_push.2.1 21 = .ok (.bipush 6, 2) := by decide +kernel
theorem d_Mo_push_23 : decode m_Mo_push.2.1 23 = .ok (.iload_n 1, 1) := by decide +kernel
theorem d_Mo_push_24 : decode m_Mo_push.2.1 24 = .ok (.imul, 1) := by decide +kernel
theorem d_Mo_push_25 : decode m_Mo_push.2.1 25 = .ok (.aload_n 0, 1) := by decide +kernel
theorem d_Mo_push_26 : decode m_Mo_push.2.1 26 = .ok (.getfield 28, 3) := by decide +kernel
theorem d_Mo_push_29 : decode m_Mo_push.2.1 29 = .ok (.iload_n 1, 1) := by decide +kernel
theorem d_Mo_push_30 : decode m_Mo_push.2.1 30 = .ok (.iaload, 1) := by decide +kernel
theorem d_Mo_push_31 : decode m_Mo_push.2.1 31 = .ok (.iadd, 1) := by decide +kernel
theorem d_Mo_push_32 : decode m_Mo_push.2.1 32 = .ok (.iload_n 3, 1) := by decide +kernel
theorem d_Mo_push_33 : decode m_Mo_push.2.1 33 = .ok (.iastore, 1) := by decide +kernel
theorem d_Mo_push_34 : decode m_Mo_push.2.1 34 = .ok (.aload_n 0, 1) := by decide +kernel
theorem d_Mo_push_35 : decode m_Mo_push.2.1 35 = .ok (.getfield 28, 3) := by decide +kernel
theorem d_Mo_push_38 : decode m_Mo_push.2.1 38 = .ok (.iload_n 1, 1) := by decide +kernel
theorem d_Mo_push_39 : decode m_Mo_push.2.1 39 = .ok (.aload_n 0, 1) := by decide +kernel
theorem d_Mo_push_40 : decode m_Mo_push.2.1 40 = .ok (.getfield 28, 3) := by decide +kernel
theorem d_Mo_push_43 : decode m_Mo_push.2.1 43 = .ok (.iload_n 1, 1) := by decide +kernel
theorem d_Mo_push_44 : decode m_Mo_push.2.1 44 = .ok (.iaload, 1) := by decide +kernel
theorem d_Mo_push_45 : decode m_Mo_push.2.1 45 = .ok (.iconst 1, 1) := by decide +kernel
theorem d_Mo_push_46 : decode m_Mo_push.2.1 46 = .ok (.iadd, 1) := by decide +kernel
theorem d_Mo_push_47 : decode m_Mo_push.2.1 47 = .ok (.iastore, 1) := by decide +kernel
theorem d_Mo_push_48 : decode m_Mo_push.2.1 48 = .ok (.return_, 1) := by decide +kernel
theorem d_Mo_become_0 : decode m_Mo_become.2.1 0 = .ok (.iconst 0, 1) := by decide +kernel
theorem d_Mo_become_1 : decode m_Mo_become.2.1 1 = .ok (.istore_n 2, 1) := by decide +kernel
theorem d_Mo_become_2 : decode m_Mo_become.2.1 2 = .ok (.iload_n 2, 1) := by decide +kernel
theorem d_Mo_become_3 : decode m_Mo_become.2.1 3 = .ok (.aload_n 0, 1) := by decide +kernel
theorem d_Mo_become_4 : decode m_Mo_become.2.1 4 = .ok (.getfield 133, 3) := by decide +kernel
theorem d_Mo_become_7 : decode m_Mo_become.2.1 7 = .ok (.if_icmp .ge 25, 3) := by decide +kernel
theorem d_Mo_become_10 : decode m_Mo_become.2.1 10 = .ok (.aload_n 0, 1) := by decide +kernel
theorem d_Mo_become_11 : decode m_Mo_become.2.1 11 = .ok (.getfield 16, 3) := by decide +kernel
theorem d_Mo_become_14 : decode m_Mo_become.2.1 14 = .ok (.iload_n 2, 1) := by decide +kernel
theorem d_Mo_become_15 : decode m_Mo_become.2.1 15 = .ok (.aload_n 0, 1) := by decide +kernel
theorem d_Mo_become_16 : decode m_Mo_become.2.1 16 = .ok (.getfield 13, 3) := by decide +kernel
theorem d_Mo_become_19 : decode m_Mo_become.2.1 19 = .ok (.iload_n 1, 1) := by decide +kernel
theorem d_Mo_become_20 : decode m_Mo_become.2.1 20 = .ok (.iconst 1, 1) := by decide +kernel
theorem d_Mo_become_21 : decode m_Mo_become.2.1 21 = .ok (.iadd, 1) := by decide +kernel
theorem d_Mo_become_22 : decode m_Mo_become.2.1 22 = .ok (.iload_n 2, 1) := by decide +kernel
theorem d_Mo_become_23 : decode m_Mo_become.2.1 23 = .ok (.iadd, 1) := by decide +kernel
theorem d_Mo_become_24 : decode m_Mo_become.2.1 24 = .ok (.iaload, 1) := by decide +kernel
theorem d_Mo_become_25 : decode m_Mo_become.2.1 25 = .ok (.iastore, 1) := by decide +kernel
theorem d_Mo_become_26 : decode m_Mo_become.2.1 26 = .ok (.iinc 2 1, 3) := by decide +kernel
theorem d_Mo_become_29 : decode m_Mo_become.2.1 29 = .ok (.goto (-27), 3) := by decide +kernel
theorem d_Mo_become_32 : decode m_Mo_become.2.1 32 = .ok (.aload_n 0, 1) := by decide +kernel
theorem d_Mo_become_33 : decode m_Mo_become.2.1 33 = .ok (.getfield 28, 3) := by decide +kernel
theorem d_Mo_become_36 : decode m_Mo_become.2.1 36 = .ok (.iconst 0, 1) := by decide +kernel
theorem d_Mo_become_37 : decode m_Mo_become.2.1 37 = .ok (.aload_n 0, 1) := by decide +kernel
theorem d_Mo_become_38 : decode m_Mo_become.2.1 38 = .ok (.getfield 13, 3) := by decide +kernel
theorem d_Mo_become_41 : decode m_Mo_become.2.1 41 = .ok (.iload_n 1, 1) := by decide +kernel
theorem d_Mo_become_42 : decode m_Mo_become.2.1 42 = .ok (.iconst 1, 1) := by decide +kernel
theorem d_Mo_become_43 : decode m_Mo_become.2.1 43 = .ok (.iadd, 1) := by decide +kernel
theorem d_Mo_become_44 : decode m_Mo_become.2.1 44 = .ok (.aload_n 0, 1) := by decide +kernel
theorem d_Mo_become_45 : decode m_Mo_become.2.1 45 = .ok (.getfield 133, 3) := by decide +kernel
theorem d_Mo_become_48 : decode m_Mo_become.2.1 48 = .ok (.iadd, 1) := by decide +kernel
theorem d_Mo_become_49 : decode m_Mo_become.2.1 49 = .ok (.iaload, 1) := by decide +kernel
theorem d_Mo_become_50 : decode m_Mo_become.2.1 50 = .ok (.iastore, 1) := by decide +kernel
theorem d_Mo_become_51 : decode m_Mo_become.2.1 51 = .ok (.iconst 0, 1) := by decide +kernel
theorem d_Mo_become_52 : decode m_Mo_become.2.1 52 = .ok (.istore_n 2, 1) := by decide +kernel
theorem d_Mo_become_53 : decode m_Mo_become.2.1 53 = .ok (.iload_n 2, 1) := by decide +kernel
theorem d_Mo_become_54 : decode m_Mo_become.2.1 54 = .ok (.aload_n 0, 1) := by decide +kernel
theorem d_Mo_become_55 : decode m_Mo_become.2.1 55 = .ok (.getfield 28, 3) := by decide +kernel
theorem d_Mo_become_58 : decode m_Mo_become.2.1 58 = .ok (.iconst 0, 1) := by decide +kernel
theorem d_Mo_become_59 : decode m_Mo_become.2.1 59 = .ok (.iaload, 1) := by decide +kernel
theorem d_Mo_become_60 : decode m_Mo_become.2.1 60 = .ok (.if_icmp .ge 30, 3) := by decide +kernel
theorem d_Mo_become_63 : decode m_Mo_become.2.1 63 = .ok (.aload_n 0, 1) := by decide +kernel
theorem d_Mo_become_64 : decode m_Mo_become.2.1 64 = .ok (.getfield 22, 3) := by decide +kernel
theorem d_Mo_become_67 : decode m_Mo_become.2.1 67 = .ok (.iload_n 2, 1) := by decide +kernel
theorem d_Mo_become_68 : decode m_Mo_become.2.1 68 = .ok (.aload_n 0, 1) := by decide +kernel
theorem d_Mo_become_69 : decode m_Mo_become.2.1 69 = .ok (.getfield 13, 3) := by decide +kernel
theorem d_Mo_become_72 : decode m_Mo_become.2.1 72 = .ok (.iload_n 1, 1) := by decide +kernel
theorem d_Mo_become_73 : decode m_Mo_become.2.1 73 = .ok (.iconst 2, 1) := by decide +kernel
theorem d_Mo_become_74 : decode m_Mo_become.2.1 74 = .ok (.iadd, 1) := by decide +kernel
theorem d_Mo_become_75 : decode m_Mo_become.2.1 75 = .ok (.aload_n 0, 1) := by decide +kernel
theorem d_Mo_become_76 : decode m_Mo_become.2.1 76 = .ok (.getfield 133, 3) := by decide +kernel
theorem d_Mo_become_79 : decode m_Mo_become.2.1 79 = .ok (.iadd, 1) := by decide +kernel
theorem d_Mo_become_80 : decode m_Mo_become.2.1 80 = .ok (.iload_n 2, 1) := by decide +kernel
theorem d_Mo_become_81 : decode m_Mo_become.2.1 81 = .ok (.iadd, 1) := by decide +kernel
theorem d_Mo_become_82 : decode m_Mo_become.2.1 82 = .ok (.iaload, 1) := by decide +kernel
theorem d_Mo_become_83 : decode m_Mo_become.2.1 83 = .ok (.iastore, 1) := by decide +kernel
theorem d_Mo_become_84 : decode m_Mo_become.2.1 84 = .ok (.iinc 2 1, 3) := by decide +kernel
theorem d_Mo_become_87 : decode m_Mo_become.2.1 87 = .ok (.goto (-34), 3) := by decide +kernel
theorem d_Mo_become_90 : decode m_Mo_become.2.1 90 = .ok (.aload_n 0, 1) := by decide +kernel
theorem d_Mo_become_91 : decode m_Mo_become.2.1 91 = .ok (.iconst 1, 1) := by decide +kernel
theorem d_Mo_become_92 : decode m_Mo_become.2.1 92 = .ok (.putfield 163, 3) := by decide +kernel
theorem d_Mo_become_95 : decode m_Mo_become.2.1 95 = .ok (.return_, 1) := by decide +kernel
theorem d_Mo_fits_0 : decode m_Mo_fits.2.1 0 = .ok (.aload_n 0, 1) := by decide +kernel
theorem d_Mo_fits_1 : decode m_Mo_fits.2.1 1 = .ok (.getfield 28, 3) := by decide +kernel
theorem d_Mo_fits_4 : decode m_Mo_fits.2.1 4 = .ok (.iconst 0, 1) := by decide +kernel
theorem d_Mo_fits_5 : decode m_Mo_fits.2.1 5 = .ok (.iaload, 1) := by decide +kernel
theorem d_Mo_fits_6 : decode m_Mo_fits.2.1 6 = .ok (.aload_n 0, 1) := by decide +kernel
theorem d_Mo_fits_7 : decode m_Mo_fits.2.1 7 = .ok (.getfield 13, 3) := by decide +kernel
theorem d_Mo_fits_10 : decode m_Mo_fits.2.1 10 = .ok (.iload_n 1, 1) := by decide +kernel
theorem d_Mo_fits_11 : decode m_Mo_fits.2.1 11 = .ok (.iconst 1, 1) := by decide +kernel
theorem d_Mo_fits_12 : decode m_Mo_fits.2.1 12 = .ok (.iadd, 1) := by decide +kernel
theorem d_Mo_fits_13 : decode m_Mo_fits.2.1 13 = .ok (.aload_n 0, 1) := by decide +kernel
theorem d_Mo_fits_14 : decode m_Mo_fits.2.1 14 = .ok (.getfield 133, 3) := by decide +kernel
theorem d_Mo_fits_17 : decode m_Mo_fits.2.1 17 = .ok (.iadd, 1) := by decide +kernel
theorem d_Mo_fits_18 : decode m_Mo_fits.2.1 18 = .ok (.iaload, 1) := by decide +kernel
theorem d_Mo_fits_19 : decode m_Mo_fits.2.1 19 = .ok (.if_icmp .ne 7, 3) := by decide +kernel
theorem d_Mo_fits_22 : decode m_Mo_fits.2.1 22 = .ok (.iconst 1, 1) := by decide +kernel
theorem d_Mo_fits_23 : decode m_Mo_fits.2.1 23 = .ok (.goto 4, 3) := by decide +kernel
theorem d_Mo_fits_26 : decode m_Mo_fits.2.1 26 = .ok (.iconst 0, 1) := by decide +kernel
theorem d_Mo_fits_27 : decode m_Mo_fits.2.1 27 = .ok (.istore_n 2, 1) := by decide +kernel
theorem d_Mo_fits_28 : decode m_Mo_fits.2.1 28 = .ok (.iconst 0, 1) := by decide +kernel
theorem d_Mo_fits_29 : decode m_Mo_fits.2.1 29 = .ok (.istore_n 3, 1) := by decide +kernel
theorem d_Mo_fits_30 : decode m_Mo_fits.2.1 30 = .ok (.iload_n 3, 1) := by decide +kernel
theorem d_Mo_fits_31 : decode m_Mo_fits.2.1 31 = .ok (.aload_n 0, 1) := by decide +kernel
theorem d_Mo_fits_32 : decode m_Mo_fits.2.1 32 = .ok (.getfield 133, 3) := by decide +kernel
theorem d_Mo_fits_35 : decode m_Mo_fits.2.1 35 = .ok (.if_icmp .ge 54, 3) := by decide +kernel
theorem d_Mo_fits_38 : decode m_Mo_fits.2.1 38 = .ok (.iload_n 2, 1) := by decide +kernel
theorem d_Mo_fits_39 : decode m_Mo_fits.2.1 39 = .ok (.ifCond .eq 42, 3) := by decide +kernel
theorem d_Mo_fits_42 : decode m_Mo_fits.2.1 42 = .ok (.aload_n 0, 1) := by decide +kernel
theorem d_Mo_fits_43 : decode m_Mo_fits.2.1 43 = .ok (.getfield 13, 3) := by decide +kernel
theorem d_Mo_fits_46 : decode m_Mo_fits.2.1 46 = .ok (.iload_n 1, 1) := by decide +kernel
theorem d_Mo_fits_47 : decode m_Mo_fits.2.1 47 = .ok (.iconst 1, 1) := by decide +kernel
theorem d_Mo_fits_48 : decode m_Mo_fits.2.1 48 = .ok (.iadd, 1) := by decide +kernel
theorem d_Mo_fits_49 : decode m_Mo_fits.2.1 49 = .ok (.iload_n 3, 1) := by decide +kernel
theorem d_Mo_fits_50 : decode m_Mo_fits.2.1 50 = .ok (.iadd, 1) := by decide +kernel
theorem d_Mo_fits_51 : decode m_Mo_fits.2.1 51 = .ok (.iaload, 1) := by decide +kernel
theorem d_Mo_fits_52 : decode m_Mo_fits.2.1 52 = .ok (.ifCond .eq 25, 3) := by decide +kernel
theorem d_Mo_fits_55 : decode m_Mo_fits.2.1 55 = .ok (.aload_n 0, 1) := by decide +kernel
theorem d_Mo_fits_56 : decode m_Mo_fits.2.1 56 = .ok (.getfield 16, 3) := by decide +kernel
theorem d_Mo_fits_59 : decode m_Mo_fits.2.1 59 = .ok (.iload_n 3, 1) := by decide +kernel
theorem d_Mo_fits_60 : decode m_Mo_fits.2.1 60 = .ok (.iaload, 1) := by decide +kernel
theorem d_Mo_fits_61 : decode m_Mo_fits.2.1 61 = .ok (.aload_n 0, 1) := by decide +kernel
theorem d_Mo_fits_62 : decode m_Mo_fits.2.1 62 = .ok (.getfield 13, 3) := by decide +kernel
theorem d_Mo_fits_65 : decode m_Mo_fits.2.1 65 = .ok (.iload_n 1, 1) := by decide +kernel
theorem d_Mo_fits_66 : decode m_Mo_fits.2.1 66 = .ok (.iconst 1, 1) := by decide +kernel
theorem d_Mo_fits_67 : decode m_Mo_fits.2.1 67 = .ok (.iadd, 1) := by decide +kernel
theorem d_Mo_fits_68 : decode m_Mo_fits.2.1 68 = .ok (.iload_n 3, 1) := by decide +kernel
theorem d_Mo_fits_69 : decode m_Mo_fits.2.1 69 = .ok (.iadd, 1) := by decide +kernel
theorem d_Mo_fits_70 : decode m_Mo_fits.2.1 70 = .ok (.iaload, 1) := by decide +kernel
theorem d_Mo_fits_71 : decode m_Mo_fits.2.1 71 = .ok (.invokestatic 160, 3) := by decide +kernel
theorem d_Mo_fits_74 : decode m_Mo_fits.2.1 74 = .ok (.ifCond .eq 7, 3) := by decide +kernel
theorem d_Mo_fits_77 : decode m_Mo_fits.2.1 77 = .ok (.iconst 1, 1) := by decide +kernel
theorem d_Mo_fits_78 : decode m_Mo_fits.2.1 78 = .ok (.goto 4, 3) := by decide +kernel
theorem d_Mo_fits_81 : decode m_Mo_fits.2.1 81 = .ok (.iconst 0, 1) := by decide +kernel
theorem d_Mo_fits_82 : decode m_Mo_fits.2.1 82 = .ok (.istore_n 2, 1) := by decide +kernel
theorem d_Mo_fits_83 : decode m_Mo_fits.2.1 83 = .ok (.iinc 3 1, 3) := by decide +kernel
theorem d_Mo_fits_86 : decode m_Mo_fits.2.1 86 = .ok (.goto (-56), 3) := by decide +kernel
theorem d_Mo_fits_89 : decode m_Mo_fits.2.1 89 = .ok (.iconst 0, 1) := by decide +kernel
theorem d_Mo_fits_90 : decode m_Mo_fits.2.1 90 = .ok (.istore_n 3, 1) := by decide +kernel
theorem d_Mo_fits_91 : decode m_Mo_fits.2.1 91 = .ok (.iload_n 3, 1) := by decide +kernel
theorem d_Mo_fits_92 : decode m_Mo_fits.2.1 92 = .ok (.aload_n 0, 1) := by decide +kernel
theorem d_Mo_fits_93 : decode m_Mo_fits.2.1 93 = .ok (.getfield 28, 3) := by decide +kernel
theorem d_Mo_fits_96 : decode m_Mo_fits.2.1 96 = .ok (.iconst 0, 1) := by decide +kernel
theorem d_Mo_fits_97 : decode m_Mo_fits.2.1 97 = .ok (.iaload, 1) := by decide +kernel
theorem d_Mo_fits_98 : decode m_Mo_fits.2.1 98 = .ok (.if_icmp .ge 38, 3) := by decide +kernel
theorem d_Mo_fits_101 : decode m_Mo_fits.2.1 101 = .ok (.iload_n 2, 1) := by decide +kernel
theorem d_Mo_fits_102 : decode m_Mo_fits.2.1 102 = .ok (.ifCond .eq 34, 3) := by decide +kernel
theorem d_Mo_fits_105 : decode m_Mo_fits.2.1 105 = .ok (.aload_n 0, 1) := by decide +kernel
theorem d_Mo_fits_106 : decode m_Mo_fits.2.1 106 = .ok (.getfield 22, 3) := by decide +kernel
theorem d_Mo_fits_109 : decode m_Mo_fits.2.1 109 = .ok (.iload_n 3, 1) := by decide +kernel
theorem d_Mo_fits_110 : decode m_Mo_fits.2.1 110 = .ok (.iaload, 1) := by decide +kernel
theorem d_Mo_fits_111 : decode m_Mo_fits.2.1 111 = .ok (.aload_n 0, 1) := by decide +kernel
theorem d_Mo_fits_112 : decode m_Mo_fits.2.1 112 = .ok (.getfield 13, 3) := by decide +kernel
theorem d_Mo_fits_115 : decode m_Mo_fits.2.1 115 = .ok (.iload_n 1, 1) := by decide +kernel
theorem d_Mo_fits_116 : decode m_Mo_fits.2.1 116 = .ok (.iconst 2, 1) := by decide +kernel
theorem d_Mo_fits_117 : decode m_Mo_fits.2.1 117 = .ok (.iadd, 1) := by decide +kernel
theorem d_Mo_fits_118 : decode m_Mo_fits.2.1 118 = .ok (.aload_n 0, 1) := by decide +kernel
theorem d_Mo_fits_119 : decode m_Mo_fits.2.1 119 = .ok (.getfield 133, 3) := by decide +kernel
theorem d_Mo_fits_122 : decode m_Mo_fits.2.1 122 = .ok (.iadd, 1) := by decide +kernel
theorem d_Mo_fits_123 : decode m_Mo_fits.2.1 123 = .ok (.iload_n 3, 1) := by decide +kernel
theorem d_Mo_fits_124 : decode m_Mo_fits.2.1 124 = .ok (.iadd, 1) := by decide +kernel
theorem d_Mo_fits_125 : decode m_Mo_fits.2.1 125 = .ok (.iaload, 1) := by decide +kernel
theorem d_Mo_fits_126 : decode m_Mo_fits.2.1 126 = .ok (.invokestatic 160, 3) := by decide +kernel
theorem d_Mo_fits_129 : decode m_Mo_fits.2.1 129 = .ok (.istore_n 2, 1) := by decide +kernel
theorem d_Mo_fits_130 : decode m_Mo_fits.2.1 130 = .ok (.iinc 3 1, 3) := by decide +kernel
theorem d_Mo_fits_133 : decode m_Mo_fits.2.1 133 = .ok (.goto (-42), 3) := by decide +kernel
theorem d_Mo_fits_136 : decode m_Mo_fits.2.1 136 = .ok (.iload_n 2, 1) := by decide +kernel
theorem d_Mo_fits_137 : decode m_Mo_fits.2.1 137 = .ok (.ireturn, 1) := by decide +kernel
theorem d_Mo_pass_0 : decode m_Mo_pass.2.1 0 = .ok (.aload_n 0, 1) := by decide +kernel
theorem d_Mo_pass_1 : decode m_Mo_pass.2.1 1 = .ok (.getfield 13, 3) := by decide +kernel
theorem d_Mo_pass_4 : decode m_Mo_pass.2.1 4 = .ok (.aload_n 0, 1) := by decide +kernel
theorem d_Mo_pass_5 : decode m_Mo_pass.2.1 5 = .ok (.getfield 139, 3) := by decide +kernel
theorem d_Mo_pass_8 : decode m_Mo_pass.2.1 8 = .ok (.iload_n 1, 1) := by decide +kernel
theorem d_Mo_pass_9 : decode m_Mo_pass.2.1 9 = .ok (.iadd, 1) := by decide +kernel
theorem d_Mo_pass_10 : decode m_Mo_pass.2.1 10 = .ok (.iaload, 1) := by decide +kernel
theorem d_Mo_pass_11 : decode m_Mo_pass.2.1 11 = .ok (.istore_n 2, 1) := by decide +kernel
theorem d_Mo_pass_12 : decode m_Mo_pass.2.1 12 = .ok (.aload_n 0, 1) := by decide +kernel
theorem d_Mo_pass_13 : decode m_Mo_pass.2.1 13 = .ok (.iload_n 1, 1) := by decide +kernel
theorem d_Mo_pass_14 : decode m_Mo_pass.2.1 14 = .ok (.invokevirtual 154, 3) := by decide +kernel
theorem d_Mo_pass_17 : decode m_Mo_pass.2.1 17 = .ok (.istore_n 3, 1) := by decide +kernel
theorem d_Mo_pass_18 : decode m_Mo_pass.2.1 18 = .ok (.aload_n 0, 1) := by decide +kernel
theorem d_Mo_pass_19 : decode m_Mo_pass.2.1 19 = .ok (.getfield 28, 3) := by decide +kernel
theorem d_Mo_pass_22 : decode m_Mo_pass.2.1 22 = .ok (.iconst 0, 1) := by decide +kernel
theorem d_Mo_pass_23 : decode m_Mo_pass.2.1 23 = .ok (.iaload, 1) := by decide +kernel
theorem d_Mo_pass_24 : decode m_Mo_pass.2.1 24 = .ok (.ifCond .le 19, 3) := by decide +kernel
theorem d_Mo_pass_27 : decode m_Mo_pass.2.1 27 = .ok (.aload_n 0, 1) := by decide +kernel
theorem d_Mo_pass_28 : decode m_Mo_pass.2.1 28 = .ok (.getfield 22, 3) := by decide +kernel
theorem d_Mo_pass_31 : decode m_Mo_pass.2.1 31 = .ok (.aload_n 0, 1) := by decide +kernel
theorem d_Mo_pass_32 : decode m_Mo_pass.2.1 32 = .ok (.getfield 28, 3) := by decide +kernel
theorem d_Mo_pass_35 : decode m_Mo_pass.2.1 35 = .ok (.iconst 0, 1) := by decide +kernel
theorem d_Mo_pass_36 : decode m_Mo_pass.2.1 36 = .ok (.iaload, 1) := by decide +kernel
theorem d_Mo_pass_37 : decode m_Mo_pass.2.1 37 = .ok (.iconst 1, 1) := by decide +kernel
theorem d_Mo_pass_38 : decode m_Mo_pass.2.1 38 = .ok (.isub, 1) := by decide +kernel
theorem d_Mo_pass_39 : decode m_Mo_pass.2.1 39 = .ok (.iaload, 1) := by decide +kernel
theorem d_Mo_pass_40 : decode m_Mo_pass.2.1 40 = .ok (.goto 4, 3) := by decide +kernel
theorem d_Mo_pass_43 : decode m_Mo_pass.2.1 43 = .ok (.iconst 0, 1) := by decide +kernel
theorem d_Mo_pass_44 : decode m_Mo_pass.2.1 44 = .ok (.istore 4, 2) := by decide +kernel
theorem d_Mo_pass_46 : decode m_Mo_pass.2.1 46 = .ok (.aload_n 0, 1) := by decide +kernel
theorem d_Mo_pass_47 : decode m_Mo_pass.2.1 47 = .ok (.getfield 28, 3) := by decide +kernel
theorem d_Mo_pass_50 : decode m_Mo_pass.2.1 50 = .ok (.iconst 0, 1) := by decide +kernel
theorem d_Mo_pass_51 : decode m_Mo_pass.2.1 51 = .ok (.iaload, 1) := by decide +kernel
theorem d_Mo_pass_52 : decode m_Mo_pass.2.1 52 = .ok (.iconst 1, 1) := by decide +kernel
theorem d_Mo_pass_53 : decode m_Mo_pass.2.1 53 = .ok (.if_icmp .le 19, 3) := by decide +kernel
theorem d_Mo_pass_56 : decode m_Mo_pass.2.1 56 = .ok (.aload_n 0, 1) := by decide +kernel
theorem d_Mo_pass_57 : decode m_Mo_pass.2.1 57 = .ok (.getfield 22, 3) := by decide +kernel
theorem d_Mo_pass_60 : decode m_Mo_pass.2.1 60 = .ok (.aload_n 0, 1) := by decide +kernel
theorem d_Mo_pass_61 : decode m_Mo_pass.2.1 61 = .ok (.getfield 28, 3) := by decide +kernel
theorem d_Mo_pass_64 : decode m_Mo_pass.2.1 64 = .ok (.iconst 0, 1) := by decide +kernel
theorem d_Mo_pass_65 : decode m_Mo_pass.2.1 65 = .ok (.iaload, 1) := by decide +kernel
theorem d_Mo_pass_66 : decode m_Mo_pass.2.1 66 = .ok (.iconst 2, 1) := by decide +kernel
theorem d_Mo_pass_67 : decode m_Mo_pass.2.1 67 = .ok (.isub, 1) := by decide +kernel
theorem d_Mo_pass_68 : decode m_Mo_pass.2.1 68 = .ok (.iaload, 1) := by decide +kernel
theorem d_Mo_pass_69 : decode m_Mo_pass.2.1 69 = .ok (.goto 4, 3) := by decide +kernel
theorem d_Mo_pass_72 : decode m_Mo_pass.2.1 72 = .ok (.iconst 0, 1) := by decide +kernel
theorem d_Mo_pass_73 : decode m_Mo_pass.2.1 73 = .ok (.istore 5, 2) := by decide +kernel
theorem d_Mo_pass_75 : decode m_Mo_pass.2.1 75 = .ok (.aload_n 0, 1) := by decide +kernel
theorem d_Mo_pass_76 : decode m_Mo_pass.2.1 76 = .ok (.getfield 28, 3) := by decide +kernel
theorem d_Mo_pass_79 : decode m_Mo_pass.2.1 79 = .ok (.iconst 0, 1) := by decide +kernel
theorem d_Mo_pass_80 : decode m_Mo_pass.2.1 80 = .ok (.aload_n 0, 1) := by decide +kernel
theorem d_Mo_pass_81 : decode m_Mo_pass.2.1 81 = .ok (.getfield 28, 3) := by decide +kernel
theorem d_Mo_pass_84 : decode m_Mo_pass.2.1 84 = .ok (.iconst 0, 1) := by decide +kernel
theorem d_Mo_pass_85 : decode m_Mo_pass.2.1 85 = .ok (.iaload, 1) := by decide +kernel
theorem d_Mo_pass_86 : decode m_Mo_pass.2.1 86 = .ok (.iload_n 3, 1) := by decide +kernel
theorem d_Mo_pass_87 : decode m_Mo_pass.2.1 87 = .ok (.isub, 1) := by decide +kernel
theorem d_Mo_pass_88 : decode m_Mo_pass.2.1 88 = .ok (.iastore, 1) := by decide +kernel
theorem d_Mo_pass_89 : decode m_Mo_pass.2.1 89 = .ok (.iload_n 2, 1) := by decide +kernel
theorem d_Mo_pass_90 : decode m_Mo_pass.2.1 90 = .ok (.sipush 184, 3) := by decide +kernel
theorem d_Mo_pass_93 : decode m_Mo_pass.2.1 93 = .ok (.if_icmp .ne 41, 3) := by decide +kernel
theorem d_Mo_pass_96 : decode m_Mo_pass.2.1 96 = .ok (.aload_n 0, 1) := by decide +kernel
theorem d_Mo_pass_97 : decode m_Mo_pass.2.1 97 = .ok (.iload_n 1, 1) := by decide +kernel
theorem d_Mo_pass_98 : decode m_Mo_pass.2.1 98 = .ok (.invokevirtual 157, 3) := by decide +kernel
theorem d_Mo_pass_101 : decode m_Mo_pass.2.1 101 = .ok (.ifCond .le 33, 3) := by decide +kernel
theorem d_Mo_pass_104 : decode m_Mo_pass.2.1 104 = .ok (.aload_n 0, 1) := by decide +kernel
theorem d_Mo_pass_105 : decode m_Mo_pass.2.1 105 = .ok (.iconst 0, 1) := by decide +kernel
theorem d_Mo_pass_106 : decode m_Mo_pass.2.1 106 = .ok (.aload_n 0, 1) := by decide +kernel
theorem d_Mo_pass_107 : decode m_Mo_pass.2.1 107 = .ok (.aload_n 0, 1) := by decide +kernel
theorem d_Mo_pass_108 : decode m_Mo_pass.2.1 108 = .ok (.aload_n 0, 1) := by decide +kernel
theorem d_Mo_pass_109 : decode m_Mo_pass.2.1 109 = .ok (.getfield 13, 3) := by decide +kernel
theorem d_Mo_pass_112 : decode m_Mo_pass.2.1 112 = .ok (.aload_n 0, 1) := by decide +kernel
theorem d_Mo_pass_113 : decode m_Mo_pass.2.1 113 = .ok (.getfield 139, 3) := by decide +kernel
theorem d_Mo_pass_116 : decode m_Mo_pass.2.1 116 = .ok (.iload_n 1, 1) := by decide +kernel
theorem d_Mo_pass_117 : decode m_Mo_pass.2.1 117 = .ok (.iadd, 1) := by decide +kernel
theorem d_Mo_pass_118 : decode m_Mo_pass.2.1 118 = .ok (.iconst 1, 1) := by decide +kernel
theorem d_Mo_pass_119 : decode m_Mo_pass.2.1 119 = .ok (.iadd, 1) := by decide +kernel
theorem d_Mo_pass_120 : decode m_Mo_pass.2.1 120 = .ok (.iaload, 1) := by decide +kernel
theorem d_Mo_pass_121 : decode m_Mo_pass.2.1 121 = .ok (.invokevirtual 121, 3) := by decide +kernel
theorem d_Mo_pass_124 : decode m_Mo_pass.2.1 124 = .ok (.invokevirtual 148, 3) := by decide +kernel
theorem d_Mo_pass_127 : decode m_Mo_pass.2.1 127 = .ok (.iconst 0, 1) := by decide +kernel
theorem d_Mo_pass_128 : decode m_Mo_pass.2.1 128 = .ok (.invokevirtual 166, 3) := by decide +kernel
theorem d_Mo_pass_131 : decode m_Mo_pass.2.1 131 = .ok (.goto 130, 3) := by decide +kernel
theorem d_Mo_pass_134 : decode m_Mo_pass.2.1 134 = .ok (.iload_n 2, 1) := by decide +kernel
theorem d_Mo_pass_135 : decode m_Mo_pass.2.1 135 = .ok (.bipush 25, 2) := by decide +kernel
theorem d_Mo_pass_137 : decode m_Mo_pass.2.1 137 = .ok (.if_icmp .ne 30, 3) := by decide +kernel
theorem d_Mo_pass_140 : decode m_Mo_pass.2.1 140 = .ok (.aload_n 0, 1) := by decide +kernel
theorem d_Mo_pass_141 : decode m_Mo_pass.2.1 141 = .ok (.iconst 0, 1) := by decide +kernel
theorem d_Mo_pass_142 : decode m_Mo_pass.2.1 142 = .ok (.aload_n 0, 1) := by decide +kernel
theorem d_Mo_pass_143 : decode m_Mo_pass.2.1 143 = .ok (.getfield 16, 3) := by decide +kernel
theorem d_Mo_pass_146 : decode m_Mo_pass.2.1 146 = .ok (.aload_n 0, 1) := by decide +kernel
theorem d_Mo_pass_147 : decode m_Mo_pass.2.1 147 = .ok (.getfield 13, 3) := by decide +kernel
theorem d_Mo_pass_150 : decode m_Mo_pass.2.1 150 = .ok (.aload_n 0, 1) := by decide +kernel
theorem d_Mo_pass_151 : decode m_Mo_pass.2.1 151 = .ok (.getfield 139, 3) := by decide +kernel
theorem d_Mo_pass_154 : decode m_Mo_pass.2.1 154 = .ok (.iload_n 1, 1) := by decide +kernel
theorem d_Mo_pass_155 : decode m_Mo_pass.2.1 155 = .ok (.iadd, 1) := by decide +kernel
theorem d_Mo_pass_156 : decode m_Mo_pass.2.1 156 = .ok (.iconst 1, 1) := by decide +kernel
theorem d_Mo_pass_157 : decode m_Mo_pass.2.1 157 = .ok (.iadd, 1) := by decide +kernel
theorem d_Mo_pass_158 : decode m_Mo_pass.2.1 158 = .ok (.iaload, 1) := by decide +kernel
theorem d_Mo_pass_159 : decode m_Mo_pass.2.1 159 = .ok (.iaload, 1) := by decide +kernel
theorem d_Mo_pass_160 : decode m_Mo_pass.2.1 160 = .ok (.iconst 0, 1) := by decide +kernel
theorem d_Mo_pass_161 : decode m_Mo_pass.2.1 161 = .ok (.invokevirtual 166, 3) := by decide +kernel
theorem d_Mo_pass_164 : decode m_Mo_pass.2.1 164 = .ok (.goto 97, 3) := by decide +kernel
theorem d_Mo_pass_167 : decode m_Mo_pass.2.1 167 = .ok (.iload_n 2, 1) := by decide +kernel
theorem d_Mo_pass_168 : decode m_Mo_pass.2.1 168 = .ok (.bipush 54, 2) := by decide +kernel
theorem d_Mo_pass_170 : decode m_Mo_pass.2.1 170 = .ok (.if_icmp .eq 9, 3) := by decide +kernel
end
section
theorem d_Mo_pass_173 : decode m_Mo_pass.2.1 173 = .ok (.iload_n 2, 1) := by decide +kernel
theorem d_Mo_pass_174 : decode m_Mo_pass.2.1 174 = .ok (.bipush 58, 2) := by decide +kernel
theorem d_Mo_pass_176 : decode m_Mo_pass.2.1 176 = .ok (.if_icmp .ne 26, 3) := by decide +kernel
theorem d_Mo_pass_179 : decode m_Mo_pass.2.1 179 = .ok (.aload_n 0, 1) := by decide +kernel
theorem d_Mo_pass_180 : decode m_Mo_pass.2.1 180 = .ok (.getfield 16, 3) := by decide +kernel
theorem d_Mo_pass_183 : decode m_Mo_pass.2.1 183 = .ok (.aload_n 0, 1) := by decide +kernel
theorem d_Mo_pass_184 : decode m_Mo_pass.2.1 184 = .ok (.getfield 13, 3) := by decide +kernel
theorem d_Mo_pass_187 : decode m_Mo_pass.2.1 187 = .ok (.aload_n 0, 1) := by decide +kernel
theorem d_Mo_pass_188 : decode m_Mo_pass.2.1 188 = .ok (.getfield 139, 3) := by decide +kernel
theorem d_Mo_pass_191 : decode m_Mo_pass.2.1 191 = .ok (.iload_n 1, 1) := by decide +kernel
theorem d_Mo_pass_192 : decode m_Mo_pass.2.1 192 = .ok (.iadd, 1) := by decide +kernel
theorem d_Mo_pass_193 : decode m_Mo_pass.2.1 193 = .ok (.iconst 1, 1) := by decide +kernel
theorem d_Mo_pass_194 : decode m_Mo_pass.2.1 194 = .ok (.iadd, 1) := by decide +kernel
theorem d_Mo_pass_195 : decode m_Mo_pass.2.1 195 = .ok (.iaload, 1) := by decide +kernel
theorem d_Mo_pass_196 : decode m_Mo_pass.2.1 196 = .ok (.iload 4, 2) := by decide +kernel
theorem d_Mo_pass_198 : decode m_Mo_pass.2.1 198 = .ok (.iastore, 1) := by decide +kernel
theorem d_Mo_pass_199 : decode m_Mo_pass.2.1 199 = .ok (.goto 62, 3) := by decide +kernel
theorem d_Mo_pass_202 : decode m_Mo_pass.2.1 202 = .ok (.iload_n 2, 1) := by decide +kernel
theorem d_Mo_pass_203 : decode m_Mo_pass.2.1 203 = .ok (.bipush 89, 2) := by decide +kernel
theorem d_Mo_pass_205 : decode m_Mo_pass.2.1 205 = .ok (.if_icmp .eq 9, 3) := by decide +kernel
theorem d_Mo_pass_208 : decode m_Mo_pass.2.1 208 = .ok (.iload_n 2, 1) := by decide +kernel
theorem d_Mo_pass_209 : decode m_Mo_pass.2.1 209 = .ok (.bipush 95, 2) := by decide +kernel
theorem d_Mo_pass_211 : decode m_Mo_pass.2.1 211 = .ok (.if_icmp .ne 33, 3) := by decide +kernel
theorem d_Mo_pass_214 : decode m_Mo_pass.2.1 214 = .ok (.aload_n 0, 1) := by decide +kernel
theorem d_Mo_pass_215 : decode m_Mo_pass.2.1 215 = .ok (.iconst 0, 1) := by decide +kernel
theorem d_Mo_pass_216 : decode m_Mo_pass.2.1 216 = .ok (.iload 4, 2) := by decide +kernel
theorem d_Mo_pass_218 : decode m_Mo_pass.2.1 218 = .ok (.iconst 0, 1) := by decide +kernel
theorem d_Mo_pass_219 : decode m_Mo_pass.2.1 219 = .ok (.invokevirtual 166, 3) := by decide +kernel
theorem d_Mo_pass_222 : decode m_Mo_pass.2.1 222 = .ok (.aload_n 0, 1) := by decide +kernel
theorem d_Mo_pass_223 : decode m_Mo_pass.2.1 223 = .ok (.iconst 0, 1) := by decide +kernel
theorem d_Mo_pass_224 : decode m_Mo_pass.2.1 224 = .ok (.iload_n 2, 1) := by decide +kernel
theorem d_Mo_pass_225 : decode m_Mo_pass.2.1 225 = .ok (.bipush 89, 2) := by decide +kernel
theorem d_Mo_pass_227 : decode m_Mo_pass.2.1 227 = .ok (.if_icmp .ne 8, 3) := by decide +kernel
theorem d_Mo_pass_230 : decode m_Mo_pass.2.1 230 = .ok (.iload 4, 2) := by decide +kernel
theorem d_Mo_pass_232 : decode m_Mo_pass.2.1 232 = .ok (.goto 5, 3) := by decide +kernel
theorem d_Mo_pass_235 : decode m_Mo_pass.2.1 235 = .ok (.iload 5, 2) := by decide +kernel
theorem d_Mo_pass_237 : decode m_Mo_pass.2.1 237 = .ok (.iconst 0, 1) := by decide +kernel
theorem d_Mo_pass_238 : decode m_Mo_pass.2.1 238 = .ok (.invokevirtual 166, 3) := by decide +kernel
theorem d_Mo_pass_241 : decode m_Mo_pass.2.1 241 = .ok (.goto 20, 3) := by decide +kernel
theorem d_Mo_pass_244 : decode m_Mo_pass.2.1 244 = .ok (.iload_n 2, 1) := by decide +kernel
theorem d_Mo_pass_245 : decode m_Mo_pass.2.1 245 = .ok (.invokestatic 151, 3) := by decide +kernel
theorem d_Mo_pass_248 : decode m_Mo_pass.2.1 248 = .ok (.ifCond .le 13, 3) := by decide +kernel
theorem d_Mo_pass_251 : decode m_Mo_pass.2.1 251 = .ok (.aload_n 0, 1) := by decide +kernel
theorem d_Mo_pass_252 : decode m_Mo_pass.2.1 252 = .ok (.iconst 0, 1) := by decide +kernel
theorem d_Mo_pass_253 : decode m_Mo_pass.2.1 253 = .ok (.iload_n 2, 1) := by decide +kernel
theorem d_Mo_pass_254 : decode m_Mo_pass.2.1 254 = .ok (.invokestatic 151, 3) := by decide +kernel
theorem d_Mo_pass_257 : decode m_Mo_pass.2.1 257 = .ok (.iconst 0, 1) := by decide +kernel
theorem d_Mo_pass_258 : decode m_Mo_pass.2.1 258 = .ok (.invokevirtual 166, 3) := by decide +kernel
theorem d_Mo_pass_261 : decode m_Mo_pass.2.1 261 = .ok (.aload_n 0, 1) := by decide +kernel
theorem d_Mo_pass_262 : decode m_Mo_pass.2.1 262 = .ok (.iload_n 2, 1) := by decide +kernel
theorem d_Mo_pass_263 : decode m_Mo_pass.2.1 263 = .ok (.sipush 167, 3) := by decide +kernel
theorem d_Mo_pass_266 : decode m_Mo_pass.2.1 266 = .ok (.if_icmp .eq 14, 3) := by decide +kernel
theorem d_Mo_pass_269 : decode m_Mo_pass.2.1 269 = .ok (.iload_n 2, 1) := by decide +kernel
theorem d_Mo_pass_270 : decode m_Mo_pass.2.1 270 = .ok (.invokestatic 58, 3) := by decide +kernel
theorem d_Mo_pass_273 : decode m_Mo_pass.2.1 273 = .ok (.ifCond .ne 7, 3) := by decide +kernel
theorem d_Mo_pass_276 : decode m_Mo_pass.2.1 276 = .ok (.iconst 1, 1) := by decide +kernel
theorem d_Mo_pass_277 : decode m_Mo_pass.2.1 277 = .ok (.goto 4, 3) := by decide +kernel
theorem d_Mo_pass_280 : decode m_Mo_pass.2.1 280 = .ok (.iconst 0, 1) := by decide +kernel
theorem d_Mo_pass_281 : decode m_Mo_pass.2.1 281 = .ok (.putfield 163, 3) := by decide +kernel
theorem d_Mo_pass_284 : decode m_Mo_pass.2.1 284 = .ok (.return_, 1) := by decide +kernel
theorem d_Mo_arrive_0 : decode m_Mo_arrive.2.1 0 = .ok (.aload_n 0, 1) := by decide +kernel
theorem d_Mo_arrive_1 : decode m_Mo_arrive.2.1 1 = .ok (.iconst 0, 1) := by decide +kernel
theorem d_Mo_arrive_2 : decode m_Mo_arrive.2.1 2 = .ok (.invokevirtual 169, 3) := by decide +kernel
theorem d_Mo_arrive_5 : decode m_Mo_arrive.2.1 5 = .ok (.aload_n 0, 1) := by decide +kernel
theorem d_Mo_arrive_6 : decode m_Mo_arrive.2.1 6 = .ok (.iconst 1, 1) := by decide +kernel
theorem d_Mo_arrive_7 : decode m_Mo_arrive.2.1 7 = .ok (.putfield 163, 3) := by decide +kernel
theorem d_Mo_arrive_10 : decode m_Mo_arrive.2.1 10 = .ok (.aload_n 0, 1) := by decide +kernel
theorem d_Mo_arrive_11 : decode m_Mo_arrive.2.1 11 = .ok (.iload_n 1, 1) := by decide +kernel
theorem d_Mo_arrive_12 : decode m_Mo_arrive.2.1 12 = .ok (.iconst 1, 1) := by decide +kernel
theorem d_Mo_arrive_13 : decode m_Mo_arrive.2.1 13 = .ok (.invokevirtual 173, 3) := by decide +kernel
theorem d_Mo_arrive_16 : decode m_Mo_arrive.2.1 16 = .ok (.istore_n 2, 1) := by decide +kernel
theorem d_Mo_arrive_17 : decode m_Mo_arrive.2.1 17 = .ok (.iconst 0, 1) := by decide +kernel
theorem d_Mo_arrive_18 : decode m_Mo_arrive.2.1 18 = .ok (.istore_n 3, 1) := by decide +kernel
theorem d_Mo_arrive_19 : decode m_Mo_arrive.2.1 19 = .ok (.iload_n 2, 1) := by decide +kernel
theorem d_Mo_arrive_20 : decode m_Mo_arrive.2.1 20 = .ok (.ifCond .lt 15, 3) := by decide +kernel
theorem d_Mo_arrive_23 : decode m_Mo_arrive.2.1 23 = .ok (.aload_n 0, 1) := by decide +kernel
theorem d_Mo_arrive_24 : decode m_Mo_arrive.2.1 24 = .ok (.iload_n 2, 1) := by decide +kernel
theorem d_Mo_arrive_25 : decode m_Mo_arrive.2.1 25 = .ok (.invokevirtual 177, 3) := by decide +kernel
theorem d_Mo_arrive_28 : decode m_Mo_arrive.2.1 28 = .ok (.aload_n 0, 1) := by decide +kernel
theorem d_Mo_arrive_29 : decode m_Mo_arrive.2.1 29 = .ok (.getfield 13, 3) := by decide +kernel
theorem d_Mo_arrive_32 : decode m_Mo_arrive.2.1 32 = .ok (.iload_n 2, 1) := by decide +kernel
theorem d_Mo_arrive_33 : decode m_Mo_arrive.2.1 33 = .ok (.iaload, 1) := by decide +kernel
theorem d_Mo_arrive_34 : decode m_Mo_arrive.2.1 34 = .ok (.istore_n 3, 1) := by decide +kernel
theorem d_Mo_arrive_35 : decode m_Mo_arrive.2.1 35 = .ok (.iload_n 3, 1) := by decide +kernel
theorem d_Mo_arrive_36 : decode m_Mo_arrive.2.1 36 = .ok (.iload_n 1, 1) := by decide +kernel
theorem d_Mo_arrive_37 : decode m_Mo_arrive.2.1 37 = .ok (.if_icmp .ge 28, 3) := by decide +kernel
theorem d_Mo_arrive_40 : decode m_Mo_arrive.2.1 40 = .ok (.aload_n 0, 1) := by decide +kernel
theorem d_Mo_arrive_41 : decode m_Mo_arrive.2.1 41 = .ok (.iload_n 3, 1) := by decide +kernel
theorem d_Mo_arrive_42 : decode m_Mo_arrive.2.1 42 = .ok (.invokevirtual 180, 3) := by decide +kernel
theorem d_Mo_arrive_45 : decode m_Mo_arrive.2.1 45 = .ok (.iload_n 3, 1) := by decide +kernel
theorem d_Mo_arrive_46 : decode m_Mo_arrive.2.1 46 = .ok (.aload_n 0, 1) := by decide +kernel
theorem d_Mo_arrive_47 : decode m_Mo_arrive.2.1 47 = .ok (.getfield 13, 3) := by decide +kernel
theorem d_Mo_arrive_50 : decode m_Mo_arrive.2.1 50 = .ok (.aload_n 0, 1) := by decide +kernel
theorem d_Mo_arrive_51 : decode m_Mo_arrive.2.1 51 = .ok (.getfield 139, 3) := by decide +kernel
theorem d_Mo_arrive_54 : decode m_Mo_arrive.2.1 54 = .ok (.iload_n 3, 1) := by decide +kernel
theorem d_Mo_arrive_55 : decode m_Mo_arrive.2.1 55 = .ok (.iadd, 1) := by decide +kernel
theorem d_Mo_arrive_56 : decode m_Mo_arrive.2.1 56 = .ok (.iaload, 1) := by decide +kernel
theorem d_Mo_arrive_57 : decode m_Mo_arrive.2.1 57 = .ok (.invokestatic 75, 3) := by decide +kernel
theorem d_Mo_arrive_60 : decode m_Mo_arrive.2.1 60 = .ok (.iadd, 1) := by decide +kernel
theorem d_Mo_arrive_61 : decode m_Mo_arrive.2.1 61 = .ok (.istore_n 3, 1) := by decide +kernel
theorem d_Mo_arrive_62 : decode m_Mo_arrive.2.1 62 = .ok (.goto (-27), 3) := by decide +kernel
theorem d_Mo_arrive_65 : decode m_Mo_arrive.2.1 65 = .ok (.return_, 1) := by decide +kernel
theorem d_Mo_passes_0 : decode m_Mo_passes.2.1 0 = .ok (.aload_n 0, 1) := by decide +kernel
theorem d_Mo_passes_1 : decode m_Mo_passes.2.1 1 = .ok (.iload_n 1, 1) := by decide +kernel
theorem d_Mo_passes_2 : decode m_Mo_passes.2.1 2 = .ok (.invokevirtual 183, 3) := by decide +kernel
theorem d_Mo_passes_5 : decode m_Mo_passes.2.1 5 = .ok (.aload_n 0, 1) := by decide +kernel
theorem d_Mo_passes_6 : decode m_Mo_passes.2.1 6 = .ok (.iload_n 1, 1) := by decide +kernel
theorem d_Mo_passes_7 : decode m_Mo_passes.2.1 7 = .ok (.iconst 0, 1) := by decide +kernel
theorem d_Mo_passes_8 : decode m_Mo_passes.2.1 8 = .ok (.invokevirtual 173, 3) := by decide +kernel
theorem d_Mo_passes_11 : decode m_Mo_passes.2.1 11 = .ok (.istore_n 2, 1) := by decide +kernel
theorem d_Mo_passes_12 : decode m_Mo_passes.2.1 12 = .ok (.iload_n 2, 1) := by decide +kernel
theorem d_Mo_passes_13 : decode m_Mo_passes.2.1 13 = .ok (.ifCond .lt 25, 3) := by decide +kernel
theorem d_Mo_passes_16 : decode m_Mo_passes.2.1 16 = .ok (.aload_n 0, 1) := by decide +kernel
theorem d_Mo_passes_17 : decode m_Mo_passes.2.1 17 = .ok (.getfield 163, 3) := by decide +kernel
theorem d_Mo_passes_20 : decode m_Mo_passes.2.1 20 = .ok (.ifCond .eq 13, 3) := by decide +kernel
theorem d_Mo_passes_23 : decode m_Mo_passes.2.1 23 = .ok (.aload_n 0, 1) := by decide +kernel
theorem d_Mo_passes_24 : decode m_Mo_passes.2.1 24 = .ok (.iload_n 2, 1) := by decide +kernel
theorem d_Mo_passes_25 : decode m_Mo_passes.2.1 25 = .ok (.invokevirtual 186, 3) := by decide +kernel
theorem d_Mo_passes_28 : decode m_Mo_passes.2.1 28 = .ok (.ifCond .ne 5, 3) := by decide +kernel
theorem d_Mo_passes_31 : decode m_Mo_passes.2.1 31 = .ok (.iconst 0, 1) := by decide +kernel
theorem d_Mo_passes_32 : decode m_Mo_passes.2.1 32 = .ok (.ireturn, 1) := by decide +kernel
theorem d_Mo_passes_33 : decode m_Mo_passes.2.1 33 = .ok (.aload_n 0, 1) := by decide +kernel
theorem d_Mo_passes_34 : decode m_Mo_passes.2.1 34 = .ok (.iload_n 2, 1) := by decide +kernel
theorem d_Mo_passes_35 : decode m_Mo_passes.2.1 35 = .ok (.invokevirtual 177, 3) := by decide +kernel
theorem d_Mo_passes_38 : decode m_Mo_passes.2.1 38 = .ok (.aload_n 0, 1) := by decide +kernel
theorem d_Mo_passes_39 : decode m_Mo_passes.2.1 39 = .ok (.getfield 163, 3) := by decide +kernel
theorem d_Mo_passes_42 : decode m_Mo_passes.2.1 42 = .ok (.ifCond .eq 12, 3) := by decide +kernel
theorem d_Mo_passes_45 : decode m_Mo_passes.2.1 45 = .ok (.aload_n 0, 1) := by decide +kernel
theorem d_Mo_passes_46 : decode m_Mo_passes.2.1 46 = .ok (.iconst 0, 1) := by decide +kernel
theorem d_Mo_passes_47 : decode m_Mo_passes.2.1 47 = .ok (.iload_n 1, 1) := by decide +kernel
theorem d_Mo_passes_48 : decode m_Mo_passes.2.1 48 = .ok (.invokevirtual 189, 3) := by decide +kernel
theorem d_Mo_passes_51 : decode m_Mo_passes.2.1 51 = .ok (.ifCond .ne 5, 3) := by decide +kernel
theorem d_Mo_passes_54 : decode m_Mo_passes.2.1 54 = .ok (.iconst 0, 1) := by decide +kernel
theorem d_Mo_passes_55 : decode m_Mo_passes.2.1 55 = .ok (.ireturn, 1) := by decide +kernel
theorem d_Mo_passes_56 : decode m_Mo_passes.2.1 56 = .ok (.aload_n 0, 1) := by decide +kernel
theorem d_Mo_passes_57 : decode m_Mo_passes.2.1 57 = .ok (.iload_n 1, 1) := by decide +kernel
theorem d_Mo_passes_58 : decode m_Mo_passes.2.1 58 = .ok (.invokevirtual 180, 3) := by decide +kernel
theorem d_Mo_passes_61 : decode m_Mo_passes.2.1 61 = .ok (.aload_n 0, 1) := by decide +kernel
theorem d_Mo_passes_62 : decode m_Mo_passes.2.1 62 = .ok (.getfield 13, 3) := by decide +kernel
theorem d_Mo_passes_65 : decode m_Mo_passes.2.1 65 = .ok (.aload_n 0, 1) := by decide +kernel
theorem d_Mo_passes_66 : decode m_Mo_passes.2.1 66 = .ok (.getfield 139, 3) := by decide +kernel
theorem d_Mo_passes_69 : decode m_Mo_passes.2.1 69 = .ok (.iload_n 1, 1) := by decide +kernel
theorem d_Mo_passes_70 : decode m_Mo_passes.2.1 70 = .ok (.iadd, 1) := by decide +kernel
theorem d_Mo_passes_71 : decode m_Mo_passes.2.1 71 = .ok (.iaload, 1) := by decide +kernel
theorem d_Mo_passes_72 : decode m_Mo_passes.2.1 72 = .ok (.invokestatic 51, 3) := by decide +kernel
theorem d_Mo_passes_75 : decode m_Mo_passes.2.1 75 = .ok (.ifCond .ne 5, 3) := by decide +kernel
theorem d_Mo_passes_78 : decode m_Mo_passes.2.1 78 = .ok (.iconst 1, 1) := by decide +kernel
theorem d_Mo_passes_79 : decode m_Mo_passes.2.1 79 = .ok (.ireturn, 1) := by decide +kernel
theorem d_Mo_passes_80 : decode m_Mo_passes.2.1 80 = .ok (.aload_n 0, 1) := by decide +kernel
theorem d_Mo_passes_81 : decode m_Mo_passes.2.1 81 = .ok (.aload_n 0, 1) := by decide +kernel
theorem d_Mo_passes_82 : decode m_Mo_passes.2.1 82 = .ok (.iload_n 1, 1) := by decide +kernel
theorem d_Mo_passes_83 : decode m_Mo_passes.2.1 83 = .ok (.invokevirtual 192, 3) := by decide +kernel
theorem d_Mo_passes_86 : decode m_Mo_passes.2.1 86 = .ok (.iconst 0, 1) := by decide +kernel
theorem d_Mo_passes_87 : decode m_Mo_passes.2.1 87 = .ok (.invokevirtual 173, 3) := by decide +kernel
theorem d_Mo_passes_90 : decode m_Mo_passes.2.1 90 = .ok (.istore_n 3, 1) := by decide +kernel
theorem d_Mo_passes_91 : decode m_Mo_passes.2.1 91 = .ok (.iload_n 3, 1) := by decide +kernel
theorem d_Mo_passes_92 : decode m_Mo_passes.2.1 92 = .ok (.ifCond .lt 15, 3) := by decide +kernel
theorem d_Mo_passes_95 : decode m_Mo_passes.2.1 95 = .ok (.aload_n 0, 1) := by decide +kernel
theorem d_Mo_passes_96 : decode m_Mo_passes.2.1 96 = .ok (.iload_n 3, 1) := by decide +kernel
theorem d_Mo_passes_97 : decode m_Mo_passes.2.1 97 = .ok (.invokevirtual 186, 3) := by decide +kernel
theorem d_Mo_passes_100 : decode m_Mo_passes.2.1 100 = .ok (.ifCond .eq 7, 3) := by decide +kernel
theorem d_Mo_passes_103 : decode m_Mo_passes.2.1 103 = .ok (.iconst 1, 1) := by decide +kernel
theorem d_Mo_passes_104 : decode m_Mo_passes.2.1 104 = .ok (.goto 4, 3) := by decide +kernel
theorem d_Mo_passes_107 : decode m_Mo_passes.2.1 107 = .ok (.iconst 0, 1) := by decide +kernel
theorem d_Mo_passes_108 : decode m_Mo_passes.2.1 108 = .ok (.ireturn, 1) := by decide +kernel
theorem d_Mo_lackOfMethod_0 : decode m_Mo_lackOfMethod.2.1 0 = .ok (.aload_n 0, 1) := by decide +kernel
theorem d_Mo_lackOfMethod_1 : decode m_Mo_lackOfMethod.2.1 1 = .ok (.getfield 102, 3) := by decide +kernel
theorem d_Mo_lackOfMethod_4 : decode m_Mo_lackOfMethod.2.1 4 = .ok (.ifCond .ne 7, 3) := by decide +kernel
theorem d_Mo_lackOfMethod_7 : decode m_Mo_lackOfMethod.2.1 7 = .ok (.iconst 1, 1) := by decide +kernel
theorem d_Mo_lackOfMethod_8 : decode m_Mo_lackOfMethod.2.1 8 = .ok (.goto 22, 3) := by decide +kernel
theorem d_Mo_lackOfMethod_11 : decode m_Mo_lackOfMethod.2.1 11 = .ok (.iload_n 1, 1) := by decide +kernel
theorem d_Mo_lackOfMethod_12 : decode m_Mo_lackOfMethod.2.1 12 = .ok (.iconst 0, 1) := by decide +kernel
theorem d_Mo_lackOfMethod_13 : decode m_Mo_lackOfMethod.2.1 13 = .ok (.aload_n 0, 1) := by decide +kernel
theorem d_Mo_lackOfMethod_14 : decode m_Mo_lackOfMethod.2.1 14 = .ok (.invokevirtual 108, 3) := by decide +kernel
theorem d_Mo_lackOfMethod_17 : decode m_Mo_lackOfMethod.2.1 17 = .ok (.iconst 1, 1) := by decide +kernel
theorem d_Mo_lackOfMethod_18 : decode m_Mo_lackOfMethod.2.1 18 = .ok (.isub, 1) := by decide +kernel
theorem d_Mo_lackOfMethod_19 : decode m_Mo_lackOfMethod.2.1 19 = .ok (.invokestatic 47, 3) := by decide +kernel
theorem d_Mo_lackOfMethod_22 : decode m_Mo_lackOfMethod.2.1 22 = .ok (.ifCond .eq 7, 3) := by decide +kernel
theorem d_Mo_lackOfMethod_25 : decode m_Mo_lackOfMethod.2.1 25 = .ok (.iconst 0, 1) := by decide +kernel
theorem d_Mo_lackOfMethod_26 : decode m_Mo_lackOfMethod.2.1 26 = .ok (.goto 4, 3) := by decide +kernel
theorem d_Mo_lackOfMethod_29 : decode m_Mo_lackOfMethod.2.1 29 = .ok (.iconst 2, 1) := by decide +kernel
theorem d_Mo_lackOfMethod_30 : decode m_Mo_lackOfMethod.2.1 30 = .ok (.ireturn, 1) := by decide +kernel
theorem d_Mo_check_0 : decode m_Mo_check.2.1 0 = .ok (.aload_n 0, 1) := by decide +kernel
theorem d_Mo_check_1 : decode m_Mo_check.2.1 1 = .ok (.aload_n 0, 1) := by decide +kernel
theorem d_Mo_check_2 : decode m_Mo_check.2.1 2 = .ok (.iload_n 1, 1) := by decide +kernel
theorem d_Mo_check_3 : decode m_Mo_check.2.1 3 = .ok (.invokevirtual 195, 3) := by decide +kernel
theorem d_Mo_check_6 : decode m_Mo_check.2.1 6 = .ok (.putfield 43, 3) := by decide +kernel
theorem d_Mo_check_9 : decode m_Mo_check.2.1 9 = .ok (.aload_n 0, 1) := by decide +kernel
theorem d_Mo_check_10 : decode m_Mo_check.2.1 10 = .ok (.getfield 43, 3) := by decide +kernel
theorem d_Mo_check_13 : decode m_Mo_check.2.1 13 = .ok (.ifCond .le 5, 3) := by decide +kernel
theorem d_Mo_check_16 : decode m_Mo_check.2.1 16 = .ok (.iconst 0, 1) := by decide +kernel
theorem d_Mo_check_17 : decode m_Mo_check.2.1 17 = .ok (.ireturn, 1) := by decide +kernel
theorem d_Mo_check_18 : decode m_Mo_check.2.1 18 = .ok (.aload_n 0, 1) := by decide +kernel
theorem d_Mo_check_19 : decode m_Mo_check.2.1 19 = .ok (.iload_n 1, 1) := by decide +kernel
theorem d_Mo_check_20 : decode m_Mo_check.2.1 20 = .ok (.invokevirtual 198, 3) := by decide +kernel
theorem d_Mo_check_23 : decode m_Mo_check.2.1 23 = .ok (.iconst 0, 1) := by decide +kernel
theorem d_Mo_check_24 : decode m_Mo_check.2.1 24 = .ok (.istore_n 2, 1) := by decide +kernel
theorem d_Mo_check_25 : decode m_Mo_check.2.1 25 = .ok (.iload_n 2, 1) := by decide +kernel
theorem d_Mo_check_26 : decode m_Mo_check.2.1 26 = .ok (.aload_n 0, 1) := by decide +kernel
theorem d_Mo_check_27 : decode m_Mo_check.2.1 27 = .ok (.getfield 136, 3) := by decide +kernel
theorem d_Mo_check_30 : decode m_Mo_check.2.1 30 = .ok (.if_icmp .ge 33, 3) := by decide +kernel
theorem d_Mo_check_33 : decode m_Mo_check.2.1 33 = .ok (.aload_n 0, 1) := by decide +kernel
theorem d_Mo_check_34 : decode m_Mo_check.2.1 34 = .ok (.iload_n 2, 1) := by decide +kernel
theorem d_Mo_check_35 : decode m_Mo_check.2.1 35 = .ok (.invokevirtual 201, 3) := by decide +kernel
theorem d_Mo_check_38 : decode m_Mo_check.2.1 38 = .ok (.ifCond .ne 5, 3) := by decide +kernel
theorem d_Mo_check_41 : decode m_Mo_check.2.1 41 = .ok (.iload_n 2, 1) := by decide +kernel
theorem d_Mo_check_42 : decode m_Mo_check.2.1 42 = .ok (.ireturn, 1) := by decide +kernel
theorem d_Mo_check_43 : decode m_Mo_check.2.1 43 = .ok (.iload_n 2, 1) := by decide +kernel
theorem d_Mo_check_44 : decode m_Mo_check.2.1 44 = .ok (.aload_n 0, 1) := by decide +kernel
theorem d_Mo_check_45 : decode m_Mo_check.2.1 45 = .ok (.getfield 13, 3) := by decide +kernel
theorem d_Mo_check_48 : decode m_Mo_check.2.1 48 = .ok (.aload_n 0, 1) := by decide +kernel
theorem d_Mo_check_49 : decode m_Mo_check.2.1 49 = .ok (.getfield 139, 3) := by decide +kernel
theorem d_Mo_check_52 : decode m_Mo_check.2.1 52 = .ok (.iload_n 2, 1) := by decide +kernel
theorem d_Mo_check_53 : decode m_Mo_check.2.1 53 = .ok (.iadd, 1) := by decide +kernel
theorem d_Mo_check_54 : decode m_Mo_check.2.1 54 = .ok (.iaload, 1) := by decide +kernel
theorem d_Mo_check_55 : decode m_Mo_check.2.1 55 = .ok (.invokestatic 75, 3) := by decide +kernel
theorem d_Mo_check_58 : decode m_Mo_check.2.1 58 = .ok (.iadd, 1) := by decide +kernel
theorem d_Mo_check_59 : decode m_Mo_check.2.1 59 = .ok (.istore_n 2, 1) := by decide +kernel
theorem d_Mo_check_60 : decode m_Mo_check.2.1 60 = .ok (.goto (-35), 3) := by decide +kernel
theorem d_Mo_check_63 : decode m_Mo_check.2.1 63 = .ok (.aload_n 0, 1) := by decide +kernel
theorem d_Mo_check_64 : decode m_Mo_check.2.1 64 = .ok (.aload_n 0, 1) := by decide +kernel
theorem d_Mo_check_65 : decode m_Mo_check.2.1 65 = .ok (.getfield 136, 3) := by decide +kernel
theorem d_Mo_check_68 : decode m_Mo_check.2.1 68 = .ok (.invokevirtual 183, 3) := by decide +kernel
theorem d_Mo_check_71 : decode m_Mo_check.2.1 71 = .ok (.aload_n 0, 1) := by decide +kernel
theorem d_Mo_check_72 : decode m_Mo_check.2.1 72 = .ok (.getfield 163, 3) := by decide +kernel
theorem d_Mo_check_75 : decode m_Mo_check.2.1 75 = .ok (.ifCond .eq 10, 3) := by decide +kernel
theorem d_Mo_check_78 : decode m_Mo_check.2.1 78 = .ok (.aload_n 0, 1) := by decide +kernel
theorem d_Mo_check_79 : decode m_Mo_check.2.1 79 = .ok (.getfield 136, 3) := by decide +kernel
theorem d_Mo_check_82 : decode m_Mo_check.2.1 82 = .ok (.goto 4, 3) := by decide +kernel
theorem d_Mo_check_85 : decode m_Mo_check.2.1 85 = .ok (.iconst (-1), 1) := by decide +kernel
theorem d_Mo_check_86 : decode m_Mo_check.2.1 86 = .ok (.ireturn, 1) := by decide +kernel
theorem d_Mo_makeRow_0 : decode m_Mo_makeRow.2.1 0 = .ok (.aload_n 0, 1) := by decide +kernel
theorem d_Mo_makeRow_1 : decode m_Mo_makeRow.2.1 1 = .ok (.getfield 37, 3) := by decide +kernel
theorem d_Mo_makeRow_4 : decode m_Mo_makeRow.2.1 4 = .ok (.aload_n 0, 1) := by decide +kernel
theorem d_Mo_makeRow_5 : decode m_Mo_makeRow.2.1 5 = .ok (.getfield 204, 3) := by decide +kernel
theorem d_Mo_makeRow_8 : decode m_Mo_makeRow.2.1 8 = .ok (.iload_n 1, 1) := by decide +kernel
theorem d_Mo_makeRow_9 : decode m_Mo_makeRow.2.1 9 = .ok (.iastore, 1) := by decide +kernel
theorem d_Mo_makeRow_10 : decode m_Mo_makeRow.2.1 10 = .ok (.iconst 0, 1) := by decide +kernel
theorem d_Mo_makeRow_11 : decode m_Mo_makeRow.2.1 11 = .ok (.istore_n 2, 1) := by decide +kernel
theorem d_Mo_makeRow_12 : decode m_Mo_makeRow.2.1 12 = .ok (.iload_n 2, 1) := by decide +kernel
theorem d_Mo_makeRow_13 : decode m_Mo_makeRow.2.1 13 = .ok (.bipush 8, 2) := by decide +kernel
theorem d_Mo_makeRow_15 : decode m_Mo_makeRow.2.1 15 = .ok (.if_icmp .ge 24, 3) := by decide +kernel
theorem d_Mo_makeRow_18 : decode m_Mo_makeRow.2.1 18 = .ok (.aload_n 0, 1) := by decide +kernel
theorem d_Mo_makeRow_19 : decode m_Mo_makeRow.2.1 19 = .ok (.getfield 40, 3) := by decide +kernel
theorem d_Mo_makeRow_22 : decode m_Mo_makeRow.2.1 22 = .ok (.bipush 8, 2) := by decide +kernel
theorem d_Mo_makeRow_24 : decode m_Mo_makeRow.2.1 24 = .ok (.aload_n 0, 1) := by decide +kernel
theorem d_Mo_makeRow_25 : decode m_Mo_makeRow.2.1 25 = .ok (.getfield 204, 3) := by decide +kernel
theorem d_Mo_makeRow_28 : decode m_Mo_makeRow.2.1 28 = .ok (.imul, 1) := by decide +kernel
theorem d_Mo_makeRow_29 : decode m_Mo_makeRow.2.1 29 = .ok (.iload_n 2, 1) := by decide +kernel
theorem d_Mo_makeRow_30 : decode m_Mo_makeRow.2.1 30 = .ok (.iadd, 1) := by decide +kernel
theorem d_Mo_makeRow_31 : decode m_Mo_makeRow.2.1 31 = .ok (.iconst 0, 1) := by decide +kernel
theorem d_Mo_makeRow_32 : decode m_Mo_makeRow.2.1 32 = .ok (.iastore, 1) := by decide +kernel
theorem d_Mo_makeRow_33 : decode m_Mo_makeRow.2.1 33 = .ok (.iinc 2 1, 3) := by decide +kernel
theorem d_Mo_makeRow_36 : decode m_Mo_makeRow.2.1 36 = .ok (.goto (-24), 3) := by decide +kernel
theorem d_Mo_makeRow_39 : decode m_Mo_makeRow.2.1 39 = .ok (.aload_n 0, 1) := by decide +kernel
theorem d_Mo_makeRow_40 : decode m_Mo_makeRow.2.1 40 = .ok (.dup, 1) := by decide +kernel
theorem d_Mo_makeRow_41 : decode m_Mo_makeRow.2.1 41 = .ok (.getfield 204, 3) := by decide +kernel
theorem d_Mo_makeRow_44 : decode m_Mo_makeRow.2.1 44 = .ok (.iconst 1, 1) := by decide +kernel
theorem d_Mo_makeRow_45 : decode m_Mo_makeRow.2.1 45 = .ok (.iadd, 1) := by decide +kernel
theorem d_Mo_makeRow_46 : decode m_Mo_makeRow.2.1 46 = .ok (.putfield 204, 3) := by decide +kernel
theorem d_Mo_makeRow_49 : decode m_Mo_makeRow.2.1 49 = .ok (.aload_n 0, 1) := by decide +kernel
theorem d_Mo_makeRow_50 : decode m_Mo_makeRow.2.1 50 = .ok (.getfield 204, 3) := by decide +kernel
theorem d_Mo_makeRow_53 : decode m_Mo_makeRow.2.1 53 = .ok (.iconst 1, 1) := by decide +kernel
theorem d_Mo_makeRow_54 : decode m_Mo_makeRow.2.1 54 = .ok (.isub, 1) := by decide +kernel
theorem d_Mo_makeRow_55 : decode m_Mo_makeRow.2.1 55 = .ok (.ireturn, 1) := by decide +kernel
theorem d_Mo_argue_0 : decode m_Mo_argue.2.1 0 = .ok (.aload_n 0, 1) := by decide +kernel
theorem d_Mo_argue_1 : decode m_Mo_argue.2.1 1 = .ok (.getfield 19, 3) := by decide +kernel
theorem d_Mo_argue_4 : decode m_Mo_argue.2.1 4 = .ok (.iload_n 1, 1) := by decide +kernel
theorem d_Mo_argue_5 : decode m_Mo_argue.2.1 5 = .ok (.iload_n 2, 1) := by decide +kernel
theorem d_Mo_argue_6 : decode m_Mo_argue.2.1 6 = .ok (.iastore, 1) := by decide +kernel
theorem d_Mo_argue_7 : decode m_Mo_argue.2.1 7 = .ok (.aload_n 0, 1) := by decide +kernel
theorem d_Mo_argue_8 : decode m_Mo_argue.2.1 8 = .ok (.getfield 16, 3) := by decide +kernel
theorem d_Mo_argue_11 : decode m_Mo_argue.2.1 11 = .ok (.iload_n 1, 1) := by decide +kernel
theorem d_Mo_argue_12 : decode m_Mo_argue.2.1 12 = .ok (.iaload, 1) := by decide +kernel
theorem d_Mo_argue_13 : decode m_Mo_argue.2.1 13 = .ok (.iconst 2, 1) := by decide +kernel
theorem d_Mo_argue_14 : decode m_Mo_argue.2.1 14 = .ok (.if_icmp .ne 17, 3) := by decide +kernel
theorem d_Mo_argue_17 : decode m_Mo_argue.2.1 17 = .ok (.iload_n 2, 1) := by decide +kernel
theorem d_Mo_argue_18 : decode m_Mo_argue.2.1 18 = .ok (.ifCond .ge 13, 3) := by decide +kernel
theorem d_Mo_argue_21 : decode m_Mo_argue.2.1 21 = .ok (.aload_n 0, 1) := by decide +kernel
theorem d_Mo_argue_22 : decode m_Mo_argue.2.1 22 = .ok (.getfield 16, 3) := by decide +kernel
theorem d_Mo_argue_25 : decode m_Mo_argue.2.1 25 = .ok (.iload_n 1, 1) := by decide +kernel
theorem d_Mo_argue_26 : decode m_Mo_argue.2.1 26 = .ok (.iconst 3, 1) := by decide +kernel
theorem d_Mo_argue_27 : decode m_Mo_argue.2.1 27 = .ok (.iastore, 1) := by decide +kernel
theorem d_Mo_argue_28 : decode m_Mo_argue.2.1 28 = .ok (.goto 65, 3) := by decide +kernel
theorem d_Mo_argue_31 : decode m_Mo_argue.2.1 31 = .ok (.aload_n 0, 1) := by decide +kernel
theorem d_Mo_argue_32 : decode m_Mo_argue.2.1 32 = .ok (.getfield 16, 3) := by decide +kernel
theorem d_Mo_argue_35 : decode m_Mo_argue.2.1 35 = .ok (.iload_n 1, 1) := by decide +kernel
theorem d_Mo_argue_36 : decode m_Mo_argue.2.1 36 = .ok (.iaload, 1) := by decide +kernel
theorem d_Mo_argue_37 : decode m_Mo_argue.2.1 37 = .ok (.iconst 2, 1) := by decide +kernel
theorem d_Mo_argue_38 : decode m_Mo_argue.2.1 38 = .ok (.if_icmp .ne 55, 3) := by decide +kernel
theorem d_Mo_argue_41 : decode m_Mo_argue.2.1 41 = .ok (.aload_n 0, 1) := by decide +kernel
theorem d_Mo_argue_42 : decode m_Mo_argue.2.1 42 = .ok (.iload_n 2, 1) := by decide +kernel
theorem d_Mo_argue_43 : decode m_Mo_argue.2.1 43 = .ok (.bipush 7, 2) := by decide +kernel
theorem d_Mo_argue_45 : decode m_Mo_argue.2.1 45 = .ok (.iand, 1) := by decide +kernel
theorem d_Mo_argue_46 : decode m_Mo_argue.2.1 46 = .ok (.invokevirtual 207, 3) := by decide +kernel
theorem d_Mo_argue_49 : decode m_Mo_argue.2.1 49 = .ok (.istore_n 3, 1) := by decide +kernel
theorem d_Mo_argue_50 : decode m_Mo_argue.2.1 50 = .ok (.iconst 0, 1) := by decide +kernel
theorem d_Mo_argue_51 : decode m_Mo_argue.2.1 51 = .ok (.istore 4, 2) := by decide +kernel
theorem d_Mo_argue_53 : decode m_Mo_argue.2.1 53 = .ok (.iload 4, 2) := by decide +kernel
theorem d_Mo_argue_55 : decode m_Mo_argue.2.1 55 = .ok (.aload_n 0, 1) := by decide +kernel
theorem d_Mo_argue_56 : decode m_Mo_argue.2.1 56 = .ok (.getfield 37, 3) := by decide +kernel
theorem d_Mo_argue_59 : decode m_Mo_argue.2.1 59 = .ok (.iload_n 3, 1) := by decide +kernel
theorem d_Mo_argue_60 : decode m_Mo_argue.2.1 60 = .ok (.iaload, 1) := by decide +kernel
theorem d_Mo_argue_61 : decode m_Mo_argue.2.1 61 = .ok (.if_icmp .ge 25, 3) := by decide +kernel
theorem d_Mo_argue_64 : decode m_Mo_argue.2.1 64 = .ok (.aload_n 0, 1) := by decide +kernel
theorem d_Mo_argue_65 : decode m_Mo_argue.2.1 65 = .ok (.getfield 40, 3) := by decide +kernel
theorem d_Mo_argue_68 : decode m_Mo_argue.2.1 68 = .ok (.bipush 8, 2) := by decide +kernel
theorem d_Mo_argue_70 : decode m_Mo_argue.2.1 70 = .ok (.iload_n 3, 1) := by decide +kernel
theorem d_Mo_argue_71 : decode m_Mo_argue.2.1 71 = .ok (.imul, 1) := by decide +kernel
theorem d_Mo_argue_72 : decode m_Mo_argue.2.1 72 = .ok (.iload 4, 2) := by decide +kernel
theorem d_Mo_argue_74 : decode m_Mo_argue.2.1 74 = .ok (.iadd, 1) := by decide +kernel
theorem d_Mo_argue_75 : decode m_Mo_argue.2.1 75 = .ok (.iload_n 2, 1) := by decide +kernel
theorem d_Mo_argue_76 : decode m_Mo_argue.2.1 76 = .ok (.iload 4, 2) := by decide +kernel
theorem d_Mo_argue_78 : decode m_Mo_argue.2.1 78 = .ok (.iadd, 1) := by decide +kernel
theorem d_Mo_argue_79 : decode m_Mo_argue.2.1 79 = .ok (.iastore, 1) := by decide +kernel
theorem d_Mo_argue_80 : decode m_Mo_argue.2.1 80 = .ok (.iinc 4 1, 3) := by decide +kernel
theorem d_Mo_argue_83 : decode m_Mo_argue.2.1 83 = .ok (.goto (-30), 3) := by decide +kernel
theorem d_Mo_argue_86 : decode m_Mo_argue.2.1 86 = .ok (.aload_n 0, 1) := by decide +kernel
theorem d_Mo_argue_87 : decode m_Mo_argue.2.1 87 = .ok (.getfield 19, 3) := by decide +kernel
theorem d_Mo_argue_90 : decode m_Mo_argue.2.1 90 = .ok (.iload_n 1, 1) := by decide +kernel
theorem d_Mo_argue_91 : decode m_Mo_argue.2.1 91 = .ok (.iload_n 3, 1) := by decide +kernel
theorem d_Mo_argue_92 : decode m_Mo_argue.2.1 92 = .ok (.iastore, 1) := by decide +kernel
theorem d_Mo_argue_93 : decode m_Mo_argue.2.1 93 = .ok (.return_, 1) := by decide +kernel
theorem d_Mo_run_0 : decode m_Mo_run.2.1 0 = .ok (.aload_n 0, 1) := by decide +kernel
theorem d_Mo_run_1 : decode m_Mo_run.2.1 1 = .ok (.aload_n 0, 1) := by decide +kernel
theorem d_Mo_run_2 : decode m_Mo_run.2.1 2 = .ok (.iload_n 1, 1) := by decide +kernel
theorem d_Mo_run_3 : decode m_Mo_run.2.1 3 = .ok (.invokevirtual 195, 3) := by decide +kernel
theorem d_Mo_run_6 : decode m_Mo_run.2.1 6 = .ok (.putfield 43, 3) := by decide +kernel
theorem d_Mo_run_9 : decode m_Mo_run.2.1 9 = .ok (.aload_n 0, 1) := by decide +kernel
theorem d_Mo_run_10 : decode m_Mo_run.2.1 10 = .ok (.getfield 43, 3) := by decide +kernel
theorem d_Mo_run_13 : decode m_Mo_run.2.1 13 = .ok (.ifCond .le 5, 3) := by decide +kernel
theorem d_Mo_run_16 : decode m_Mo_run.2.1 16 = .ok (.iconst 0, 1) := by decide +kernel
theorem d_Mo_run_17 : decode m_Mo_run.2.1 17 = .ok (.ireturn, 1) := by decide +kernel
theorem d_Mo_run_18 : decode m_Mo_run.2.1 18 = .ok (.aload_n 0, 1) := by decide +kernel
theorem d_Mo_run_19 : decode m_Mo_run.2.1 19 = .ok (.iconst 0, 1) := by decide +kernel
theorem d_Mo_run_20 : decode m_Mo_run.2.1 20 = .ok (.putfield 204, 3) := by decide +kernel
theorem d_Mo_run_23 : decode m_Mo_run.2.1 23 = .ok (.aload_n 0, 1) := by decide +kernel
theorem d_Mo_run_24 : decode m_Mo_run.2.1 24 = .ok (.iconst 1, 1) := by decide +kernel
theorem d_Mo_run_25 : decode m_Mo_run.2.1 25 = .ok (.putfield 210, 3) := by decide +kernel
theorem d_Mo_run_28 : decode m_Mo_run.2.1 28 = .ok (.aload_n 0, 1) := by decide +kernel
theorem d_Mo_run_29 : decode m_Mo_run.2.1 29 = .ok (.iconst 0, 1) := by decide +kernel
theorem d_Mo_run_30 : decode m_Mo_run.2.1 30 = .ok (.putfield 212, 3) := by decide +kernel
theorem d_Mo_run_33 : decode m_Mo_run.2.1 33 = .ok (.aload_n 0, 1) := by decide +kernel
theorem d_Mo_run_34 : decode m_Mo_run.2.1 34 = .ok (.getfield 34, 3) := by decide +kernel
theorem d_Mo_run_37 : decode m_Mo_run.2.1 37 = .ok (.iconst 0, 1) := by decide +kernel
theorem d_Mo_run_38 : decode m_Mo_run.2.1 38 = .ok (.iload_n 1, 1) := by decide +kernel
theorem d_Mo_run_39 : decode m_Mo_run.2.1 39 = .ok (.iastore, 1) := by decide +kernel
theorem d_Mo_run_40 : decode m_Mo_run.2.1 40 = .ok (.aload_n 0, 1) := by decide +kernel
theorem d_Mo_run_41 : decode m_Mo_run.2.1 41 = .ok (.getfield 31, 3) := by decide +kernel
theorem d_Mo_run_44 : decode m_Mo_run.2.1 44 = .ok (.iconst 0, 1) := by decide +kernel
theorem d_Mo_run_45 : decode m_Mo_run.2.1 45 = .ok (.iconst 0, 1) := by decide +kernel
theorem d_Mo_run_46 : decode m_Mo_run.2.1 46 = .ok (.iastore, 1) := by decide +kernel
theorem d_Mo_run_47 : decode m_Mo_run.2.1 47 = .ok (.aload_n 0, 1) := by decide +kernel
theorem d_Mo_run_48 : decode m_Mo_run.2.1 48 = .ok (.iload_n 1, 1) := by decide +kernel
theorem d_Mo_run_49 : decode m_Mo_run.2.1 49 = .ok (.invokevirtual 198, 3) := by decide +kernel
theorem d_Mo_run_52 : decode m_Mo_run.2.1 52 = .ok (.aload_n 0, 1) := by decide +kernel
theorem d_Mo_run_53 : decode m_Mo_run.2.1 53 = .ok (.iconst 0, 1) := by decide +kernel
theorem d_Mo_run_54 : decode m_Mo_run.2.1 54 = .ok (.invokevirtual 169, 3) := by decide +kernel
theorem d_Mo_run_57 : decode m_Mo_run.2.1 57 = .ok (.iconst 0, 1) := by decide +kernel
theorem d_Mo_run_58 : decode m_Mo_run.2.1 58 = .ok (.istore 5, 2) := by decide +kernel
theorem d_Mo_run_60 : decode m_Mo_run.2.1 60 = .ok (.iload 5, 2) := by decide +kernel
theorem d_Mo_run_62 : decode m_Mo_run.2.1 62 = .ok (.aload_n 0, 1) := by decide +kernel
theorem d_Mo_run_63 : decode m_Mo_run.2.1 63 = .ok (.getfield 127, 3) := by decide +kernel
theorem d_Mo_run_66 : decode m_Mo_run.2.1 66 = .ok (.if_icmp .ge 36, 3) := by decide +kernel
theorem d_Mo_run_69 : decode m_Mo_run.2.1 69 = .ok (.aload_n 0, 1) := by decide +kernel
theorem d_Mo_run_70 : decode m_Mo_run.2.1 70 = .ok (.iload 5, 2) := by decide +kernel
theorem d_Mo_run_72 : decode m_Mo_run.2.1 72 = .ok (.iload 5, 2) := by decide +kernel
theorem d_Mo_run_74 : decode m_Mo_run.2.1 74 = .ok (.ifCond .ne 7, 3) := by decide +kernel
theorem d_Mo_run_77 : decode m_Mo_run.2.1 77 = .ok (.iload_n 2, 1) := by decide +kernel
theorem d_Mo_run_78 : decode m_Mo_run.2.1 78 = .ok (.goto 15, 3) := by decide +kernel
theorem d_Mo_run_81 : decode m_Mo_run.2.1 81 = .ok (.iload 5, 2) := by decide +kernel
theorem d_Mo_run_83 : decode m_Mo_run.2.1 83 = .ok (.iconst 1, 1) := by decide +kernel
theorem d_Mo_run_84 : decode m_Mo_run.2.1 84 = .ok (.if_icmp .ne 7, 3) := by decide +kernel
theorem d_Mo_run_87 : decode m_Mo_run.2.1 87 = .ok (.iload_n 3, 1) := by decide +kernel
theorem d_Mo_run_88 : decode m_Mo_run.2.1 88 = .ok (.goto 5, 3) := by decide +kernel
theorem d_Mo_run_91 : decode m_Mo_run.2.1 91 = .ok (.iload 4, 2) := by decide +kernel
theorem d_Mo_run_93 : decode m_Mo_run.2.1 93 = .ok (.invokevirtual 215, 3) := by decide +kernel
theorem d_Mo_run_96 : decode m_Mo_run.2.1 96 = .ok (.iinc 5 1, 3) := by decide +kernel
theorem d_Mo_run_99 : decode m_Mo_run.2.1 99 = .ok (.goto (-39), 3) := by decide +kernel
theorem d_Mo_run_102 : decode m_Mo_run.2.1 102 = .ok (.iconst (-1), 1) := by decide +kernel
theorem d_Mo_run_103 : decode m_Mo_run.2.1 103 = .ok (.istore 5, 2) := by decide +kernel
theorem d_Mo_run_105 : decode m_Mo_run.2.1 105 = .ok (.iload 5, 2) := by decide +kernel
theorem d_Mo_run_107 : decode m_Mo_run.2.1 107 = .ok (.iconst (-1), 1) := by decide +kernel
theorem d_Mo_run_108 : decode m_Mo_run.2.1 108 = .ok (.if_icmp .ne 49, 3) := by decide +kernel
theorem d_Mo_run_111 : decode m_Mo_run.2.1 111 = .ok (.aload_n 0, 1) := by decide +kernel
theorem d_Mo_run_112 : decode m_Mo_run.2.1 112 = .ok (.getfield 212, 3) := by decide +kernel
theorem d_Mo_run_115 : decode m_Mo_run.2.1 115 = .ok (.sipush 200, 3) := by decide +kernel
theorem d_Mo_run_118 : decode m_Mo_run.2.1 118 = .ok (.if_icmp .ne 8, 3) := by decide +kernel
theorem d_Mo_run_121 : decode m_Mo_run.2.1 121 = .ok (.bipush 6, 2) := by decide +kernel
theorem d_Mo_run_123 : decode m_Mo_run.2.1 123 = .ok (.goto 7, 3) := by decide +kernel
theorem d_Mo_run_126 : decode m_Mo_run.2.1 126 = .ok (.aload_n 0, 1) := by decide +kernel
theorem d_Mo_run_127 : decode m_Mo_run.2.1 127 = .ok (.invokevirtual 218, 3) := by decide +kernel
theorem d_Mo_run_130 : decode m_Mo_run.2.1 130 = .ok (.istore 5, 2) := by decide +kernel
theorem d_Mo_run_132 : decode m_Mo_run.2.1 132 = .ok (.aload_n 0, 1) := by decide +kernel
theorem d_Mo_run_133 : decode m_Mo_run.2.1 133 = .ok (.iload 5, 2) := by decide +kernel
theorem d_Mo_run_135 : decode m_Mo_run.2.1 135 = .ok (.ifCond .gt 12, 3) := by decide +kernel
theorem d_Mo_run_138 : decode m_Mo_run.2.1 138 = .ok (.aload_n 0, 1) := by decide +kernel
theorem d_Mo_run_139 : decode m_Mo_run.2.1 139 = .ok (.getfield 212, 3) := by decide +kernel
theorem d_Mo_run_142 : decode m_Mo_run.2.1 142 = .ok (.iconst 1, 1) := by decide +kernel
theorem d_Mo_run_143 : decode m_Mo_run.2.1 143 = .ok (.iadd, 1) := by decide +kernel
theorem d_Mo_run_144 : decode m_Mo_run.2.1 144 = .ok (.goto 7, 3) := by decide +kernel
theorem d_Mo_run_147 : decode m_Mo_run.2.1 147 = .ok (.aload_n 0, 1) := by decide +kernel
theorem d_Mo_run_148 : decode m_Mo_run.2.1 148 = .ok (.getfield 212, 3) := by decide +kernel
theorem d_Mo_run_151 : decode m_Mo_run.2.1 151 = .ok (.putfield 212, 3) := by decide +kernel
theorem d_Mo_run_154 : decode m_Mo_run.2.1 154 = .ok (.goto (-49), 3) := by decide +kernel
theorem d_Mo_run_157 : decode m_Mo_run.2.1 157 = .ok (.iload 5, 2) := by decide +kernel
theorem d_Mo_run_159 : decode m_Mo_run.2.1 159 = .ok (.ireturn, 1) := by decide +kernel
theorem d_Mo_step_0 : decode m_Mo_step.2.1 0 = .ok (.aload_n 0, 1) := by decide +kernel
theorem d_Mo_step_1 : decode m_Mo_step.2.1 1 = .ok (.getfield 210, 3) := by decide +kernel
theorem d_Mo_step_4 : decode m_Mo_step.2.1 4 = .ok (.iconst 1, 1) := by decide +kernel
theorem d_Mo_step_5 : decode m_Mo_step.2.1 5 = .ok (.isub, 1) := by decide +kernel
theorem d_Mo_step_6 : decode m_Mo_step.2.1 6 = .ok (.istore_n 1, 1) := by decide +kernel
theorem d_Mo_step_7 : decode m_Mo_step.2.1 7 = .ok (.aload_n 0, 1) := by decide +kernel
theorem d_Mo_step_8 : decode m_Mo_step.2.1 8 = .ok (.aload_n 0, 1) := by decide +kernel
theorem d_Mo_step_9 : decode m_Mo_step.2.1 9 = .ok (.getfield 34, 3) := by decide +kernel
theorem d_Mo_step_12 : decode m_Mo_step.2.1 12 = .ok (.iload_n 1, 1) := by decide +kernel
theorem d_Mo_step_13 : decode m_Mo_step.2.1 13 = .ok (.iaload, 1) := by decide +kernel
theorem d_Mo_step_14 : decode m_Mo_step.2.1 14 = .ok (.invokevirtual 198, 3) := by decide +kernel
theorem d_Mo_step_17 : decode m_Mo_step.2.1 17 = .ok (.aload_n 0, 1) := by decide +kernel
theorem d_Mo_step_18 : decode m_Mo_step.2.1 18 = .ok (.getfield 31, 3) := by decide +kernel
theorem d_Mo_step_21 : decode m_Mo_step.2.1 21 = .ok (.iload_n 1, 1) := by decide +kernel
theorem d_Mo_step_22 : decode m_Mo_step.2.1 22 = .ok (.iaload, 1) := by decide +kernel
theorem d_Mo_step_23 : decode m_Mo_step.2.1 23 = .ok (.istore_n 2, 1) := by decide +kernel
theorem d_Mo_step_24 : decode m_Mo_step.2.1 24 = .ok (.iload_n 2, 1) := by decide +kernel
theorem d_Mo_step_25 : decode m_Mo_step.2.1 25 = .ok (.aload_n 0, 1) := by decide +kernel
theorem d_Mo_step_26 : decode m_Mo_step.2.1 26 = .ok (.getfield 136, 3) := by decide +kernel
theorem d_Mo_step_29 : decode m_Mo_step.2.1 29 = .ok (.if_icmp .ge 12, 3) := by decide +kernel
theorem d_Mo_step_32 : decode m_Mo_step.2.1 32 = .ok (.aload_n 0, 1) := by decide +kernel
theorem d_Mo_step_33 : decode m_Mo_step.2.1 33 = .ok (.iload_n 1, 1) := by decide +kernel
theorem d_Mo_step_34 : decode m_Mo_step.2.1 34 = .ok (.iload_n 2, 1) := by decide +kernel
theorem d_Mo_step_35 : decode m_Mo_step.2.1 35 = .ok (.invokevirtual 189, 3) := by decide +kernel
theorem d_Mo_step_38 : decode m_Mo_step.2.1 38 = .ok (.ifCond .ne 5, 3) := by decide +kernel
theorem d_Mo_step_41 : decode m_Mo_step.2.1 41 = .ok (.iconst 1, 1) := by decide +kernel
theorem d_Mo_step_42 : decode m_Mo_step.2.1 42 = .ok (.ireturn, 1) := by decide +kernel
theorem d_Mo_step_43 : decode m_Mo_step.2.1 43 = .ok (.aload_n 0, 1) := by decide +kernel
theorem d_Mo_step_44 : decode m_Mo_step.2.1 44 = .ok (.getfield 13, 3) := by decide +kernel
theorem d_Mo_step_47 : decode m_Mo_step.2.1 47 = .ok (.aload_n 0, 1) := by decide +kernel
theorem d_Mo_step_48 : decode m_Mo_step.2.1 48 = .ok (.getfield 139, 3) := by decide +kernel
theorem d_Mo_step_51 : decode m_Mo_step.2.1 51 = .ok (.iload_n 2, 1) := by decide +kernel
theorem d_Mo_step_52 : decode m_Mo_step.2.1 52 = .ok (.iadd, 1) := by decide +kernel
theorem d_Mo_step_53 : decode m_Mo_step.2.1 53 = .ok (.iaload, 1) := by decide +kernel
theorem d_Mo_step_54 : decode m_Mo_step.2.1 54 = .ok (.istore_n 3, 1) := by decide +kernel
theorem d_Mo_step_55 : decode m_Mo_step.2.1 55 = .ok (.bipush 6, 2) := by decide +kernel
theorem d_Mo_step_57 : decode m_Mo_step.2.1 57 = .ok (.iload_n 1, 1) := by decide +kernel
theorem d_Mo_step_58 : decode m_Mo_step.2.1 58 = .ok (.imul, 1) := by decide +kernel
theorem d_Mo_step_59 : decode m_Mo_step.2.1 59 = .ok (.aload_n 0, 1) := by decide +kernel
theorem d_Mo_step_60 : decode m_Mo_step.2.1 60 = .ok (.getfield 28, 3) := by decide +kernel
theorem d_Mo_step_63 : decode m_Mo_step.2.1 63 = .ok (.iload_n 1, 1) := by decide +kernel
theorem d_Mo_step_64 : decode m_Mo_step.2.1 64 = .ok (.iaload, 1) := by decide +kernel
theorem d_Mo_step_65 : decode m_Mo_step.2.1 65 = .ok (.iadd, 1) := by decide +kernel
theorem d_Mo_step_66 : decode m_Mo_step.2.1 66 = .ok (.iconst 1, 1) := by decide +kernel
theorem d_Mo_step_67 : decode m_Mo_step.2.1 67 = .ok (.isub, 1) := by decide +kernel
theorem d_Mo_step_68 : decode m_Mo_step.2.1 68 = .ok (.istore 4, 2) := by decide +kernel
theorem d_Mo_step_70 : decode m_Mo_step.2.1 70 = .ok (.aload_n 0, 1) := by decide +kernel
theorem d_Mo_step_71 : decode m_Mo_step.2.1 71 = .ok (.iload_n 3, 1) := by decide +kernel
theorem d_Mo_step_72 : decode m_Mo_step.2.1 72 = .ok (.iload 4, 2) := by decide +kernel
theorem d_Mo_step_74 : decode m_Mo_step.2.1 74 = .ok (.invokevirtual 221, 3) := by decide +kernel
theorem d_Mo_step_77 : decode m_Mo_step.2.1 77 = .ok (.istore 5, 2) := by decide +kernel
theorem d_Mo_step_79 : decode m_Mo_step.2.1 79 = .ok (.iload 5, 2) := by decide +kernel
theorem d_Mo_step_81 : decode m_Mo_step.2.1 81 = .ok (.iconst (-1), 1) := by decide +kernel
theorem d_Mo_step_82 : decode m_Mo_step.2.1 82 = .ok (.if_icmp .eq 6, 3) := by decide +kernel
theorem d_Mo_step_85 : decode m_Mo_step.2.1 85 = .ok (.iload 5, 2) := by decide +kernel
theorem d_Mo_step_87 : decode m_Mo_step.2.1 87 = .ok (.ireturn, 1) := by decide +kernel
theorem d_Mo_step_88 : decode m_Mo_step.2.1 88 = .ok (.aload_n 0, 1) := by decide +kernel
theorem d_Mo_step_89 : decode m_Mo_step.2.1 89 = .ok (.getfield 31, 3) := by decide +kernel
theorem d_Mo_step_92 : decode m_Mo_step.2.1 92 = .ok (.iload_n 1, 1) := by decide +kernel
theorem d_Mo_step_93 : decode m_Mo_step.2.1 93 = .ok (.iload_n 2, 1) := by decide +kernel
theorem d_Mo_step_94 : decode m_Mo_step.2.1 94 = .ok (.iload_n 3, 1) := by decide +kernel
theorem d_Mo_step_95 : decode m_Mo_step.2.1 95 = .ok (.invokestatic 75, 3) := by decide +kernel
theorem d_Mo_step_98 : decode m_Mo_step.2.1 98 = .ok (.iadd, 1) := by decide +kernel
theorem d_Mo_step_99 : decode m_Mo_step.2.1 99 = .ok (.iastore, 1) := by decide +kernel
theorem d_Mo_step_100 : decode m_Mo_step.2.1 100 = .ok (.iload_n 3, 1) := by decide +kernel
theorem d_Mo_step_101 : decode m_Mo_step.2.1 101 = .ok (.sipush 184, 3) := by decide +kernel
theorem d_Mo_step_104 : decode m_Mo_step.2.1 104 = .ok (.if_icmp .ne 23, 3) := by decide +kernel
theorem d_Mo_step_107 : decode m_Mo_step.2.1 107 = .ok (.aload_n 0, 1) := by decide +kernel
theorem d_Mo_step_108 : decode m_Mo_step.2.1 108 = .ok (.iload_n 1, 1) := by decide +kernel
theorem d_Mo_step_109 : decode m_Mo_step.2.1 109 = .ok (.aload_n 0, 1) := by decide +kernel
theorem d_Mo_step_110 : decode m_Mo_step.2.1 110 = .ok (.getfield 13, 3) := by decide +kernel
theorem d_Mo_step_113 : decode m_Mo_step.2.1 113 = .ok (.aload_n 0, 1) := by decide +kernel
theorem d_Mo_step_114 : decode m_Mo_step.2.1 114 = .ok (.getfield 139, 3) := by decide +kernel
theorem d_Mo_step_117 : decode m_Mo_step.2.1 117 = .ok (.iload_n 2, 1) := by decide +kernel
theorem d_Mo_step_118 : decode m_Mo_step.2.1 118 = .ok (.iadd, 1) := by decide +kernel
theorem d_Mo_step_119 : decode m_Mo_step.2.1 119 = .ok (.iconst 1, 1) := by decide +kernel
theorem d_Mo_step_120 : decode m_Mo_step.2.1 120 = .ok (.iadd, 1) := by decide +kernel
theorem d_Mo_step_121 : decode m_Mo_step.2.1 121 = .ok (.iaload, 1) := by decide +kernel
theorem d_Mo_step_122 : decode m_Mo_step.2.1 122 = .ok (.invokevirtual 224, 3) := by decide +kernel
theorem d_Mo_step_125 : decode m_Mo_step.2.1 125 = .ok (.iconst (-1), 1) := by decide +kernel
theorem d_Mo_step_126 : decode m_Mo_step.2.1 126 = .ok (.ireturn, 1) := by decide +kernel
theorem d_Mo_step_127 : decode m_Mo_step.2.1 127 = .ok (.iload_n 3, 1) := by decide +kernel
theorem d_Mo_step_128 : decode m_Mo_step.2.1 128 = .ok (.invokestatic 58, 3) := by decide +kernel
theorem d_Mo_step_131 : decode m_Mo_step.2.1 131 = .ok (.ifCond .eq 12, 3) := by decide +kernel
theorem d_Mo_step_134 : decode m_Mo_step.2.1 134 = .ok (.aload_n 0, 1) := by decide +kernel
theorem d_Mo_step_135 : decode m_Mo_step.2.1 135 = .ok (.iload_n 1, 1) := by decide +kernel
theorem d_Mo_step_136 : decode m_Mo_step.2.1 136 = .ok (.iload_n 3, 1) := by decide +kernel
theorem d_Mo_step_137 : decode m_Mo_step.2.1 137 = .ok (.iload 4, 2) := by decide +kernel
theorem d_Mo_step_139 : decode m_Mo_step.2.1 139 = .ok (.invokevirtual 227, 3) := by decide +kernel
theorem d_Mo_step_142 : decode m_Mo_step.2.1 142 = .ok (.ireturn, 1) := by decide +kernel
theorem d_Mo_step_143 : decode m_Mo_step.2.1 143 = .ok (.iload_n 3, 1) := by decide +kernel
theorem d_Mo_step_144 : decode m_Mo_step.2.1 144 = .ok (.invokestatic 51, 3) := by decide +kernel
theorem d_Mo_step_147 : decode m_Mo_step.2.1 147 = .ok (.ifCond .eq 53, 3) := by decide +kernel
theorem d_Mo_step_150 : decode m_Mo_step.2.1 150 = .ok (.aload_n 0, 1) := by decide +kernel
theorem d_Mo_step_151 : decode m_Mo_step.2.1 151 = .ok (.getfield 31, 3) := by decide +kernel
theorem d_Mo_step_154 : decode m_Mo_step.2.1 154 = .ok (.iload_n 1, 1) := by decide +kernel
theorem d_Mo_step_155 : decode m_Mo_step.2.1 155 = .ok (.aload_n 0, 1) := by decide +kernel
theorem d_Mo_step_156 : decode m_Mo_step.2.1 156 = .ok (.iload_n 3, 1) := by decide +kernel
theorem d_Mo_step_157 : decode m_Mo_step.2.1 157 = .ok (.iload 4, 2) := by decide +kernel
theorem d_Mo_step_159 : decode m_Mo_step.2.1 159 = .ok (.invokevirtual 231, 3) := by decide +kernel
theorem d_Mo_step_162 : decode m_Mo_step.2.1 162 = .ok (.ifCond .eq 11, 3) := by decide +kernel
theorem d_Mo_step_165 : decode m_Mo_step.2.1 165 = .ok (.aload_n 0, 1) := by decide +kernel
theorem d_Mo_step_166 : decode m_Mo_step.2.1 166 = .ok (.iload_n 2, 1) := by decide +kernel
theorem d_Mo_step_167 : decode m_Mo_step.2.1 167 = .ok (.invokevirtual 192, 3) := by decide +kernel
theorem d_Mo_step_170 : decode m_Mo_step.2.1 170 = .ok (.goto 9, 3) := by decide +kernel
theorem d_Mo_step_173 : decode m_Mo_step.2.1 173 = .ok (.aload_n 0, 1) := by decide +kernel
theorem d_Mo_step_174 : decode m_Mo_step.2.1 174 = .ok (.getfield 31, 3) := by decide +kernel
theorem d_Mo_step_177 : decode m_Mo_step.2.1 177 = .ok (.iload_n 1, 1) := by decide +kernel
theorem d_Mo_step_178 : decode m_Mo_step.2.1 178 = .ok (.iaload, 1) := by decide +kernel
theorem d_Mo_step_179 : decode m_Mo_step.2.1 179 = .ok (.iastore, 1) := by decide +kernel
theorem d_Mo_step_180 : decode m_Mo_step.2.1 180 = .ok (.aload_n 0, 1) := by decide +kernel
theorem d_Mo_step_181 : decode m_Mo_step.2.1 181 = .ok (.getfield 28, 3) := by decide +kernel
theorem d_Mo_step_184 : decode m_Mo_step.2.1 184 = .ok (.iload_n 1, 1) := by decide +kernel
theorem d_Mo_step_185 : decode m_Mo_step.2.1 185 = .ok (.aload_n 0, 1) := by decide +kernel
theorem d_Mo_step_186 : decode m_Mo_step.2.1 186 = .ok (.getfield 28, 3) := by decide +kernel
theorem d_Mo_step_189 : decode m_Mo_step.2.1 189 = .ok (.iload_n 1, 1) := by decide +kernel
theorem d_Mo_step_190 : decode m_Mo_step.2.1 190 = .ok (.iaload, 1) := by decide +kernel
theorem d_Mo_step_191 : decode m_Mo_step.2.1 191 = .ok (.aload_n 0, 1) := by decide +kernel
theorem d_Mo_step_192 : decode m_Mo_step.2.1 192 = .ok (.iload_n 2, 1) := by decide +kernel
theorem d_Mo_step_193 : decode m_Mo_step.2.1 193 = .ok (.invokevirtual 154, 3) := by decide +kernel
theorem d_Mo_step_196 : decode m_Mo_step.2.1 196 = .ok (.isub, 1) := by decide +kernel
theorem d_Mo_step_197 : decode m_Mo_step.2.1 197 = .ok (.iastore, 1) := by decide +kernel
theorem d_Mo_step_198 : decode m_Mo_step.2.1 198 = .ok (.iconst (-1), 1) := by decide +kernel
theorem d_Mo_step_199 : decode m_Mo_step.2.1 199 = .ok (.ireturn, 1) := by decide +kernel
theorem d_Mo_step_200 : decode m_Mo_step.2.1 200 = .ok (.aload_n 0, 1) := by decide +kernel
theorem d_Mo_step_201 : decode m_Mo_step.2.1 201 = .ok (.iload_n 1, 1) := by decide +kernel
theorem d_Mo_step_202 : decode m_Mo_step.2.1 202 = .ok (.iload_n 2, 1) := by decide +kernel
theorem d_Mo_step_203 : decode m_Mo_step.2.1 203 = .ok (.iload_n 3, 1) := by decide +kernel
theorem d_Mo_step_204 : decode m_Mo_step.2.1 204 = .ok (.iload 4, 2) := by decide +kernel
theorem d_Mo_step_206 : decode m_Mo_step.2.1 206 = .ok (.invokevirtual 234, 3) := by decide +kernel
theorem d_Mo_step_209 : decode m_Mo_step.2.1 209 = .ok (.iconst (-1), 1) := by decide +kernel
theorem d_Mo_step_210 : decode m_Mo_step.2.1 210 = .ok (.ireturn, 1) := by decide +kernel
theorem d_Mo_wrong_0 : decode m_Mo_wrong.2.1 0 = .ok (.iload_n 1, 1) := by decide +kernel
theorem d_Mo_wrong_1 : decode m_Mo_wrong.2.1 1 = .ok (.bipush 46, 2) := by decide +kernel
theorem d_Mo_wrong_3 : decode m_Mo_wrong.2.1 3 = .ok (.if_icmp .eq 9, 3) := by decide +kernel
theorem d_Mo_wrong_6 : decode m_Mo_wrong.2.1 6 = .ok (.iload_n 1, 1) := by decide +kernel
theorem d_Mo_wrong_7 : decode m_Mo_wrong.2.1 7 = .ok (.bipush 79, 2) := by decide +kernel
theorem d_Mo_wrong_9 : decode m_Mo_wrong.2.1 9 = .ok (.if_icmp .ne 71, 3) := by decide +kernel
theorem d_Mo_wrong_12 : decode m_Mo_wrong.2.1 12 = .ok (.iload_n 1, 1) := by decide +kernel
theorem d_Mo_wrong_13 : decode m_Mo_wrong.2.1 13 = .ok (.bipush 46, 2) := by decide +kernel
theorem d_Mo_wrong_15 : decode m_Mo_wrong.2.1 15 = .ok (.if_icmp .ne 9, 3) := by decide +kernel
theorem d_Mo_wrong_18 : decode m_Mo_wrong.2.1 18 = .ok (.iload_n 2, 1) := by decide +kernel
theorem d_Mo_wrong_19 : decode m_Mo_wrong.2.1 19 = .ok (.iconst 1, 1) := by decide +kernel
theorem d_Mo_wrong_20 : decode m_Mo_wrong.2.1 20 = .ok (.isub, 1) := by decide +kernel
theorem d_Mo_wrong_21 : decode m_Mo_wrong.2.1 21 = .ok (.goto 6, 3) := by decide +kernel
theorem d_Mo_wrong_24 : decode m_Mo_wrong.2.1 24 = .ok (.iload_n 2, 1) := by decide +kernel
theorem d_Mo_wrong_25 : decode m_Mo_wrong.2.1 25 = .ok (.iconst 2, 1) := by decide +kernel
theorem d_Mo_wrong_26 : decode m_Mo_wrong.2.1 26 = .ok (.isub, 1) := by decide +kernel
theorem d_Mo_wrong_27 : decode m_Mo_wrong.2.1 27 = .ok (.istore_n 3, 1) := by decide +kernel
theorem d_Mo_wrong_28 : decode m_Mo_wrong.2.1 28 = .ok (.aload_n 0, 1) := by decide +kernel
theorem d_Mo_wrong_29 : decode m_Mo_wrong.2.1 29 = .ok (.getfield 25, 3) := by decide +kernel
theorem d_Mo_wrong_32 : decode m_Mo_wrong.2.1 32 = .ok (.iload_n 3, 1) := by decide +kernel
theorem d_Mo_wrong_33 : decode m_Mo_wrong.2.1 33 = .ok (.iconst 1, 1) := by decide +kernel
theorem d_Mo_wrong_34 : decode m_Mo_wrong.2.1 34 = .ok (.iadd, 1) := by decide +kernel
theorem d_Mo_wrong_35 : decode m_Mo_wrong.2.1 35 = .ok (.iaload, 1) := by decide +kernel
theorem d_Mo_wrong_36 : decode m_Mo_wrong.2.1 36 = .ok (.istore 4, 2) := by decide +kernel
theorem d_Mo_wrong_38 : decode m_Mo_wrong.2.1 38 = .ok (.aload_n 0, 1) := by decide +kernel
theorem d_Mo_wrong_39 : decode m_Mo_wrong.2.1 39 = .ok (.getfield 22, 3) := by decide +kernel
theorem d_Mo_wrong_42 : decode m_Mo_wrong.2.1 42 = .ok (.iload_n 3, 1) := by decide +kernel
theorem d_Mo_wrong_43 : decode m_Mo_wrong.2.1 43 = .ok (.iaload, 1) := by decide +kernel
theorem d_Mo_wrong_44 : decode m_Mo_wrong.2.1 44 = .ok (.iconst 3, 1) := by decide +kernel
theorem d_Mo_wrong_45 : decode m_Mo_wrong.2.1 45 = .ok (.if_icmp .ne 7, 3) := by decide +kernel
theorem d_Mo_wrong_48 : decode m_Mo_wrong.2.1 48 = .ok (.iconst 4, 1) := by decide +kernel
theorem d_Mo_wrong_49 : decode m_Mo_wrong.2.1 49 = .ok (.goto 30, 3) := by decide +kernel
theorem d_Mo_wrong_52 : decode m_Mo_wrong.2.1 52 = .ok (.iload 4, 2) := by decide +kernel
theorem d_Mo_wrong_54 : decode m_Mo_wrong.2.1 54 = .ok (.iconst 0, 1) := by decide +kernel
theorem d_Mo_wrong_55 : decode m_Mo_wrong.2.1 55 = .ok (.aload_n 0, 1) := by decide +kernel
theorem d_Mo_wrong_56 : decode m_Mo_wrong.2.1 56 = .ok (.getfield 37, 3) := by decide +kernel
theorem d_Mo_wrong_59 : decode m_Mo_wrong.2.1 59 = .ok (.aload_n 0, 1) := by decide +kernel
theorem d_Mo_wrong_60 : decode m_Mo_wrong.2.1 60 = .ok (.getfield 25, 3) := by decide +kernel
theorem d_Mo_wrong_63 : decode m_Mo_wrong.2.1 63 = .ok (.iload_n 3, 1) := by decide +kernel
theorem d_Mo_wrong_64 : decode m_Mo_wrong.2.1 64 = .ok (.iaload, 1) := by decide +kernel
theorem d_Mo_wrong_65 : decode m_Mo_wrong.2.1 65 = .ok (.iaload, 1) := by decide +kernel
theorem d_Mo_wrong_66 : decode m_Mo_wrong.2.1 66 = .ok (.iconst 1, 1) := by decide +kernel
theorem d_Mo_wrong_67 : decode m_Mo_wrong.2.1 67 = .ok (.isub, 1) := by decide +kernel
theorem d_Mo_wrong_68 : decode m_Mo_wrong.2.1 68 = .ok (.invokestatic 47, 3) := by decide +kernel
theorem d_Mo_wrong_71 : decode m_Mo_wrong.2.1 71 = .ok (.ifCond .eq 7, 3) := by decide +kernel
theorem d_Mo_wrong_74 : decode m_Mo_wrong.2.1 74 = .ok (.iconst (-1), 1) := by decide +kernel
theorem d_Mo_wrong_75 : decode m_Mo_wrong.2.1 75 = .ok (.goto 4, 3) := by decide +kernel
theorem d_Mo_wrong_78 : decode m_Mo_wrong.2.1 78 = .ok (.iconst 3, 1) := by decide +kernel
theorem d_Mo_wrong_79 : decode m_Mo_wrong.2.1 79 = .ok (.ireturn, 1) := by decide +kernel
theorem d_Mo_wrong_80 : decode m_Mo_wrong.2.1 80 = .ok (.iload_n 1, 1) := by decide +kernel
theorem d_Mo_wrong_81 : decode m_Mo_wrong.2.1 81 = .ok (.sipush 190, 3) := by decide +kernel
theorem d_Mo_wrong_84 : decode m_Mo_wrong.2.1 84 = .ok (.if_icmp .ne 19, 3) := by decide +kernel
theorem d_Mo_wrong_87 : decode m_Mo_wrong.2.1 87 = .ok (.aload_n 0, 1) := by decide +kernel
theorem d_Mo_wrong_88 : decode m_Mo_wrong.2.1 88 = .ok (.getfield 22, 3) := by decide +kernel
theorem d_Mo_wrong_91 : decode m_Mo_wrong.2.1 91 = .ok (.iload_n 2, 1) := by decide +kernel
theorem d_Mo_wrong_92 : decode m_Mo_wrong.2.1 92 = .ok (.iaload, 1) := by decide +kernel
theorem d_Mo_wrong_93 : decode m_Mo_wrong.2.1 93 = .ok (.iconst 3, 1) := by decide +kernel
theorem d_Mo_wrong_94 : decode m_Mo_wrong.2.1 94 = .ok (.if_icmp .ne 7, 3) := by decide +kernel
theorem d_Mo_wrong_97 : decode m_Mo_wrong.2.1 97 = .ok (.iconst 4, 1) := by decide +kernel
theorem d_Mo_wrong_98 : decode m_Mo_wrong.2.1 98 = .ok (.goto 4, 3) := by decide +kernel
theorem d_Mo_wrong_101 : decode m_Mo_wrong.2.1 101 = .ok (.iconst (-1), 1) := by decide +kernel
theorem d_Mo_wrong_102 : decode m_Mo_wrong.2.1 102 = .ok (.ireturn, 1) := by decide +kernel
theorem d_Mo_wrong_103 : decode m_Mo_wrong.2.1 103 = .ok (.iload_n 1, 1) := by decide +kernel
theorem d_Mo_wrong_104 : decode m_Mo_wrong.2.1 104 = .ok (.sipush 188, 3) := by decide +kernel
theorem d_Mo_wrong_107 : decode m_Mo_wrong.2.1 107 = .ok (.if_icmp .ne 33, 3) := by decide +kernel
theorem d_Mo_wrong_110 : decode m_Mo_wrong.2.1 110 = .ok (.aload_n 0, 1) := by decide +kernel
theorem d_Mo_wrong_111 : decode m_Mo_wrong.2.1 111 = .ok (.getfield 25, 3) := by decide +kernel
theorem d_Mo_wrong_114 : decode m_Mo_wrong.2.1 114 = .ok (.iload_n 2, 1) := by decide +kernel
theorem d_Mo_wrong_115 : decode m_Mo_wrong.2.1 115 = .ok (.iaload, 1) := by decide +kernel
theorem d_Mo_wrong_116 : decode m_Mo_wrong.2.1 116 = .ok (.iconst 0, 1) := by decide +kernel
theorem d_Mo_wrong_117 : decode m_Mo_wrong.2.1 117 = .ok (.bipush 8, 2) := by decide +kernel
theorem d_Mo_wrong_119 : decode m_Mo_wrong.2.1 119 = .ok (.invokestatic 47, 3) := by decide +kernel
theorem d_Mo_wrong_122 : decode m_Mo_wrong.2.1 122 = .ok (.ifCond .eq 16, 3) := by decide +kernel
theorem d_Mo_wrong_125 : decode m_Mo_wrong.2.1 125 = .ok (.aload_n 0, 1) := by decide +kernel
theorem d_Mo_wrong_126 : decode m_Mo_wrong.2.1 126 = .ok (.getfield 204, 3) := by decide +kernel
theorem d_Mo_wrong_129 : decode m_Mo_wrong.2.1 129 = .ok (.bipush 8, 2) := by decide +kernel
theorem d_Mo_wrong_131 : decode m_Mo_wrong.2.1 131 = .ok (.if_icmp .ge 7, 3) := by decide +kernel
theorem d_Mo_wrong_134 : decode m_Mo_wrong.2.1 134 = .ok (.iconst (-1), 1) := by decide +kernel
theorem d_Mo_wrong_135 : decode m_Mo_wrong.2.1 135 = .ok (.goto 4, 3) := by decide +kernel
theorem d_Mo_wrong_138 : decode m_Mo_wrong.2.1 138 = .ok (.iconst 5, 1) := by decide +kernel
theorem d_Mo_wrong_139 : decode m_Mo_wrong.2.1 139 = .ok (.ireturn, 1) := by decide +kernel
theorem d_Mo_wrong_140 : decode m_Mo_wrong.2.1 140 = .ok (.iload_n 1, 1) := by decide +kernel
theorem d_Mo_wrong_141 : decode m_Mo_wrong.2.1 141 = .ok (.bipush 108, 2) := by decide +kernel
theorem d_Mo_wrong_143 : decode m_Mo_wrong.2.1 143 = .ok (.if_icmp .ne 18, 3) := by decide +kernel
theorem d_Mo_wrong_146 : decode m_Mo_wrong.2.1 146 = .ok (.aload_n 0, 1) := by decide +kernel
theorem d_Mo_wrong_147 : decode m_Mo_wrong.2.1 147 = .ok (.getfield 25, 3) := by decide +kernel
theorem d_Mo_wrong_150 : decode m_Mo_wrong.2.1 150 = .ok (.iload_n 2, 1) := by decide +kernel
theorem d_Mo_wrong_151 : decode m_Mo_wrong.2.1 151 = .ok (.iaload, 1) := by decide +kernel
theorem d_Mo_wrong_152 : decode m_Mo_wrong.2.1 152 = .ok (.ifCond .ne 7, 3) := by decide +kernel
theorem d_Mo_wrong_155 : decode m_Mo_wrong.2.1 155 = .ok (.iconst 2, 1) := by decide +kernel
theorem d_Mo_wrong_156 : decode m_Mo_wrong.2.1 156 = .ok (.goto 4, 3) := by decide +kernel
theorem d_Mo_wrong_159 : decode m_Mo_wrong.2.1 159 = .ok (.iconst (-1), 1) := by decide +kernel
theorem d_Mo_wrong_160 : decode m_Mo_wrong.2.1 160 = .ok (.ireturn, 1) := by decide +kernel
theorem d_Mo_wrong_161 : decode m_Mo_wrong.2.1 161 = .ok (.iload_n 1, 1) := by decide +kernel
theorem d_Mo_wrong_162 : decode m_Mo_wrong.2.1 162 = .ok (.sipush 184, 3) := by decide +kernel
theorem d_Mo_wrong_165 : decode m_Mo_wrong.2.1 165 = .ok (.if_icmp .ne 16, 3) := by decide +kernel
theorem d_Mo_wrong_168 : decode m_Mo_wrong.2.1 168 = .ok (.aload_n 0, 1) := by decide +kernel
theorem d_Mo_wrong_169 : decode m_Mo_wrong.2.1 169 = .ok (.getfield 210, 3) := by decide +kernel
theorem d_Mo_wrong_172 : decode m_Mo_wrong.2.1 172 = .ok (.iconst 4, 1) := by decide +kernel
theorem d_Mo_wrong_173 : decode m_Mo_wrong.2.1 173 = .ok (.if_icmp .ne 8, 3) := by decide +kernel
theorem d_Mo_wrong_176 : decode m_Mo_wrong.2.1 176 = .ok (.bipush 6, 2) := by decide +kernel
theorem d_Mo_wrong_178 : decode m_Mo_wrong.2.1 178 = .ok (.goto 4, 3) := by decide +kernel
theorem d_Mo_wrong_181 : decode m_Mo_wrong.2.1 181 = .ok (.iconst (-1), 1) := by decide +kernel
theorem d_Mo_wrong_182 : decode m_Mo_wrong.2.1 182 = .ok (.ireturn, 1) := by decide +kernel
theorem d_Mo_enter_0 : decode m_Mo_enter.2.1 0 = .ok (.aload_n 0, 1) := by decide +kernel
theorem d_Mo_enter_1 : decode m_Mo_enter.2.1 1 = .ok (.getfield 210, 3) := by decide +kernel
theorem d_Mo_enter_4 : decode m_Mo_enter.2.1 4 = .ok (.istore_n 3, 1) := by decide +kernel
theorem d_Mo_enter_5 : decode m_Mo_enter.2.1 5 = .ok (.aload_n 0, 1) := by decide +kernel
theorem d_Mo_enter_6 : decode m_Mo_enter.2.1 6 = .ok (.dup, 1) := by decide +kernel
theorem d_Mo_enter_7 : decode m_Mo_enter.2.1 7 = .ok (.getfield 210, 3) := by decide +kernel
theorem d_Mo_enter_10 : decode m_Mo_enter.2.1 10 = .ok (.iconst 1, 1) := by decide +kernel
theorem d_Mo_enter_11 : decode m_Mo_enter.2.1 11 = .ok (.iadd, 1) := by decide +kernel
theorem d_Mo_enter_12 : decode m_Mo_enter.2.1 12 = .ok (.putfield 210, 3) := by decide +kernel
theorem d_Mo_enter_15 : decode m_Mo_enter.2.1 15 = .ok (.aload_n 0, 1) := by decide +kernel
theorem d_Mo_enter_16 : decode m_Mo_enter.2.1 16 = .ok (.getfield 34, 3) := by decide +kernel
theorem d_Mo_enter_19 : decode m_Mo_enter.2.1 19 = .ok (.iload_n 3, 1) := by decide +kernel
theorem d_Mo_enter_20 : decode m_Mo_enter.2.1 20 = .ok (.iload_n 2, 1) := by decide +kernel
theorem d_Mo_enter_21 : decode m_Mo_enter.2.1 21 = .ok (.iastore, 1) := by decide +kernel
theorem d_Mo_enter_22 : decode m_Mo_enter.2.1 22 = .ok (.aload_n 0, 1) := by decide +kernel
theorem d_Mo_enter_23 : decode m_Mo_enter.2.1 23 = .ok (.getfield 31, 3) := by decide +kernel
theorem d_Mo_enter_26 : decode m_Mo_enter.2.1 26 = .ok (.iload_n 3, 1) := by decide +kernel
theorem d_Mo_enter_27 : decode m_Mo_enter.2.1 27 = .ok (.iconst 0, 1) := by decide +kernel
theorem d_Mo_enter_28 : decode m_Mo_enter.2.1 28 = .ok (.iastore, 1) := by decide +kernel
theorem d_Mo_enter_29 : decode m_Mo_enter.2.1 29 = .ok (.aload_n 0, 1) := by decide +kernel
theorem d_Mo_enter_30 : decode m_Mo_enter.2.1 30 = .ok (.iload_n 2, 1) := by decide +kernel
theorem d_Mo_enter_31 : decode m_Mo_enter.2.1 31 = .ok (.invokevirtual 198, 3) := by decide +kernel
theorem d_Mo_enter_34 : decode m_Mo_enter.2.1 34 = .ok (.aload_n 0, 1) := by decide +kernel
theorem d_Mo_enter_35 : decode m_Mo_enter.2.1 35 = .ok (.iload_n 3, 1) := by decide +kernel
theorem d_Mo_enter_36 : decode m_Mo_enter.2.1 36 = .ok (.invokevirtual 169, 3) := by decide +kernel
theorem d_Mo_enter_39 : decode m_Mo_enter.2.1 39 = .ok (.aload_n 0, 1) := by decide +kernel
theorem d_Mo_enter_40 : decode m_Mo_enter.2.1 40 = .ok (.getfield 127, 3) := by decide +kernel
theorem d_Mo_enter_43 : decode m_Mo_enter.2.1 43 = .ok (.iconst 1, 1) := by decide +kernel
theorem d_Mo_enter_44 : decode m_Mo_enter.2.1 44 = .ok (.isub, 1) := by decide +kernel
theorem d_Mo_enter_45 : decode m_Mo_enter.2.1 45 = .ok (.istore 4, 2) := by decide +kernel
theorem d_Mo_enter_47 : decode m_Mo_enter.2.1 47 = .ok (.iload 4, 2) := by decide +kernel
theorem d_Mo_enter_49 : decode m_Mo_enter.2.1 49 = .ok (.ifCond .lt 79, 3) := by decide +kernel
theorem d_Mo_enter_52 : decode m_Mo_enter.2.1 52 = .ok (.aload_n 0, 1) := by decide +kernel
theorem d_Mo_enter_53 : decode m_Mo_enter.2.1 53 = .ok (.getfield 28, 3) := by decide +kernel
theorem d_Mo_enter_56 : decode m_Mo_enter.2.1 56 = .ok (.iload_n 1, 1) := by decide +kernel
theorem d_Mo_enter_57 : decode m_Mo_enter.2.1 57 = .ok (.aload_n 0, 1) := by decide +kernel
theorem d_Mo_enter_58 : decode m_Mo_enter.2.1 58 = .ok (.getfield 28, 3) := by decide +kernel
theorem d_Mo_enter_61 : decode m_Mo_enter.2.1 61 = .ok (.iload_n 1, 1) := by decide +kernel
theorem d_Mo_enter_62 : decode m_Mo_enter.2.1 62 = .ok (.iaload, 1) := by decide +kernel
theorem d_Mo_enter_63 : decode m_Mo_enter.2.1 63 = .ok (.iconst 1, 1) := by decide +kernel
theorem d_Mo_enter_64 : decode m_Mo_enter.2.1 64 = .ok (.isub, 1) := by decide +kernel
theorem d_Mo_enter_65 : decode m_Mo_enter.2.1 65 = .ok (.iastore, 1) := by decide +kernel
theorem d_Mo_enter_66 : decode m_Mo_enter.2.1 66 = .ok (.aload_n 0, 1) := by decide +kernel
theorem d_Mo_enter_67 : decode m_Mo_enter.2.1 67 = .ok (.getfield 16, 3) := by decide +kernel
theorem d_Mo_enter_70 : decode m_Mo_enter.2.1 70 = .ok (.bipush 6, 2) := by decide +kernel
theorem d_Mo_enter_72 : decode m_Mo_enter.2.1 72 = .ok (.iload_n 3, 1) := by decide +kernel
theorem d_Mo_enter_73 : decode m_Mo_enter.2.1 73 = .ok (.imul, 1) := by decide +kernel
theorem d_Mo_enter_74 : decode m_Mo_enter.2.1 74 = .ok (.iload 4, 2) := by decide +kernel
theorem d_Mo_enter_76 : decode m_Mo_enter.2.1 76 = .ok (.iadd, 1) := by decide +kernel
theorem d_Mo_enter_77 : decode m_Mo_enter.2.1 77 = .ok (.aload_n 0, 1) := by decide +kernel
theorem d_Mo_enter_78 : decode m_Mo_enter.2.1 78 = .ok (.getfield 22, 3) := by decide +kernel
theorem d_Mo_enter_81 : decode m_Mo_enter.2.1 81 = .ok (.bipush 6, 2) := by decide +kernel
theorem d_Mo_enter_83 : decode m_Mo_enter.2.1 83 = .ok (.iload_n 1, 1) := by decide +kernel
theorem d_Mo_enter_84 : decode m_Mo_enter.2.1 84 = .ok (.imul, 1) := by decide +kernel
theorem d_Mo_enter_85 : decode m_Mo_enter.2.1 85 = .ok (.aload_n 0, 1) := by decide +kernel
theorem d_Mo_enter_86 : decode m_Mo_enter.2.1 86 = .ok (.getfield 28, 3) := by decide +kernel
theorem d_Mo_enter_89 : decode m_Mo_enter.2.1 89 = .ok (.iload_n 1, 1) := by decide +kernel
end
section
theorem d_Mo_enter_90 : decode m_Mo_enter.2.1 90 = .ok (.iaload, 1) := by decide +kernel
theorem d_Mo_enter_91 : decode m_Mo_enter.2.1 91 = .ok (.iadd, 1) := by decide +kernel
theorem d_Mo_enter_92 : decode m_Mo_enter.2.1 92 = .ok (.iaload, 1) := by decide +kernel
theorem d_Mo_enter_93 : decode m_Mo_enter.2.1 93 = .ok (.iastore, 1) := by decide +kernel
theorem d_Mo_enter_94 : decode m_Mo_enter.2.1 94 = .ok (.aload_n 0, 1) := by decide +kernel
theorem d_Mo_enter_95 : decode m_Mo_enter.2.1 95 = .ok (.getfield 19, 3) := by decide +kernel
theorem d_Mo_enter_98 : decode m_Mo_enter.2.1 98 = .ok (.bipush 6, 2) := by decide +kernel
theorem d_Mo_enter_100 : decode m_Mo_enter.2.1 100 = .ok (.iload_n 3, 1) := by decide +kernel
theorem d_Mo_enter_101 : decode m_Mo_enter.2.1 101 = .ok (.imul, 1) := by decide +kernel
theorem d_Mo_enter_102 : decode m_Mo_enter.2.1 102 = .ok (.iload 4, 2) := by decide +kernel
theorem d_Mo_enter_104 : decode m_Mo_enter.2.1 104 = .ok (.iadd, 1) := by decide +kernel
theorem d_Mo_enter_105 : decode m_Mo_enter.2.1 105 = .ok (.aload_n 0, 1) := by decide +kernel
theorem d_Mo_enter_106 : decode m_Mo_enter.2.1 106 = .ok (.getfield 25, 3) := by decide +kernel
theorem d_Mo_enter_109 : decode m_Mo_enter.2.1 109 = .ok (.bipush 6, 2) := by decide +kernel
theorem d_Mo_enter_111 : decode m_Mo_enter.2.1 111 = .ok (.iload_n 1, 1) := by decide +kernel
theorem d_Mo_enter_112 : decode m_Mo_enter.2.1 112 = .ok (.imul, 1) := by decide +kernel
theorem d_Mo_enter_113 : decode m_Mo_enter.2.1 113 = .ok (.aload_n 0, 1) := by decide +kernel
theorem d_Mo_enter_114 : decode m_Mo_enter.2.1 114 = .ok (.getfield 28, 3) := by decide +kernel
theorem d_Mo_enter_117 : decode m_Mo_enter.2.1 117 = .ok (.iload_n 1, 1) := by decide +kernel
theorem d_Mo_enter_118 : decode m_Mo_enter.2.1 118 = .ok (.iaload, 1) := by decide +kernel
theorem d_Mo_enter_119 : decode m_Mo_enter.2.1 119 = .ok (.iadd, 1) := by decide +kernel
theorem d_Mo_enter_120 : decode m_Mo_enter.2.1 120 = .ok (.iaload, 1) := by decide +kernel
theorem d_Mo_enter_121 : decode m_Mo_enter.2.1 121 = .ok (.iastore, 1) := by decide +kernel
theorem d_Mo_enter_122 : decode m_Mo_enter.2.1 122 = .ok (.iinc 4 (-1), 3) := by decide +kernel
theorem d_Mo_enter_125 : decode m_Mo_enter.2.1 125 = .ok (.goto (-78), 3) := by decide +kernel
theorem d_Mo_enter_128 : decode m_Mo_enter.2.1 128 = .ok (.return_, 1) := by decide +kernel
theorem d_Mo_leave_0 : decode m_Mo_leave.2.1 0 = .ok (.aload_n 0, 1) := by decide +kernel
theorem d_Mo_leave_1 : decode m_Mo_leave.2.1 1 = .ok (.dup, 1) := by decide +kernel
theorem d_Mo_leave_2 : decode m_Mo_leave.2.1 2 = .ok (.getfield 210, 3) := by decide +kernel
theorem d_Mo_leave_5 : decode m_Mo_leave.2.1 5 = .ok (.iconst 1, 1) := by decide +kernel
theorem d_Mo_leave_6 : decode m_Mo_leave.2.1 6 = .ok (.isub, 1) := by decide +kernel
theorem d_Mo_leave_7 : decode m_Mo_leave.2.1 7 = .ok (.putfield 210, 3) := by decide +kernel
theorem d_Mo_leave_10 : decode m_Mo_leave.2.1 10 = .ok (.aload_n 0, 1) := by decide +kernel
theorem d_Mo_leave_11 : decode m_Mo_leave.2.1 11 = .ok (.getfield 210, 3) := by decide +kernel
theorem d_Mo_leave_14 : decode m_Mo_leave.2.1 14 = .ok (.ifCond .le 29, 3) := by decide +kernel
theorem d_Mo_leave_17 : decode m_Mo_leave.2.1 17 = .ok (.iload_n 2, 1) := by decide +kernel
theorem d_Mo_leave_18 : decode m_Mo_leave.2.1 18 = .ok (.sipush 177, 3) := by decide +kernel
theorem d_Mo_leave_21 : decode m_Mo_leave.2.1 21 = .ok (.if_icmp .eq 22, 3) := by decide +kernel
theorem d_Mo_leave_24 : decode m_Mo_leave.2.1 24 = .ok (.aload_n 0, 1) := by decide +kernel
theorem d_Mo_leave_25 : decode m_Mo_leave.2.1 25 = .ok (.iload_n 1, 1) := by decide +kernel
theorem d_Mo_leave_26 : decode m_Mo_leave.2.1 26 = .ok (.iconst 1, 1) := by decide +kernel
theorem d_Mo_leave_27 : decode m_Mo_leave.2.1 27 = .ok (.isub, 1) := by decide +kernel
theorem d_Mo_leave_28 : decode m_Mo_leave.2.1 28 = .ok (.aload_n 0, 1) := by decide +kernel
theorem d_Mo_leave_29 : decode m_Mo_leave.2.1 29 = .ok (.getfield 22, 3) := by decide +kernel
theorem d_Mo_leave_32 : decode m_Mo_leave.2.1 32 = .ok (.iload_n 3, 1) := by decide +kernel
theorem d_Mo_leave_33 : decode m_Mo_leave.2.1 33 = .ok (.iaload, 1) := by decide +kernel
theorem d_Mo_leave_34 : decode m_Mo_leave.2.1 34 = .ok (.aload_n 0, 1) := by decide +kernel
theorem d_Mo_leave_35 : decode m_Mo_leave.2.1 35 = .ok (.getfield 25, 3) := by decide +kernel
theorem d_Mo_leave_38 : decode m_Mo_leave.2.1 38 = .ok (.iload_n 3, 1) := by decide +kernel
theorem d_Mo_leave_39 : decode m_Mo_leave.2.1 39 = .ok (.iaload, 1) := by decide +kernel
theorem d_Mo_leave_40 : decode m_Mo_leave.2.1 40 = .ok (.invokevirtual 166, 3) := by decide +kernel
theorem d_Mo_leave_43 : decode m_Mo_leave.2.1 43 = .ok (.aload_n 0, 1) := by decide +kernel
theorem d_Mo_leave_44 : decode m_Mo_leave.2.1 44 = .ok (.getfield 210, 3) := by decide +kernel
theorem d_Mo_leave_47 : decode m_Mo_leave.2.1 47 = .ok (.ifCond .le 5, 3) := by decide +kernel
theorem d_Mo_leave_50 : decode m_Mo_leave.2.1 50 = .ok (.iconst (-1), 1) := by decide +kernel
theorem d_Mo_leave_51 : decode m_Mo_leave.2.1 51 = .ok (.ireturn, 1) := by decide +kernel
theorem d_Mo_leave_52 : decode m_Mo_leave.2.1 52 = .ok (.iload_n 2, 1) := by decide +kernel
theorem d_Mo_leave_53 : decode m_Mo_leave.2.1 53 = .ok (.sipush 177, 3) := by decide +kernel
theorem d_Mo_leave_56 : decode m_Mo_leave.2.1 56 = .ok (.if_icmp .ne 11, 3) := by decide +kernel
theorem d_Mo_leave_59 : decode m_Mo_leave.2.1 59 = .ok (.aload_n 0, 1) := by decide +kernel
theorem d_Mo_leave_60 : decode m_Mo_leave.2.1 60 = .ok (.iconst 0, 1) := by decide +kernel
theorem d_Mo_leave_61 : decode m_Mo_leave.2.1 61 = .ok (.putfield 237, 3) := by decide +kernel
theorem d_Mo_leave_64 : decode m_Mo_leave.2.1 64 = .ok (.goto 52, 3) := by decide +kernel
theorem d_Mo_leave_67 : decode m_Mo_leave.2.1 67 = .ok (.iload_n 2, 1) := by decide +kernel
theorem d_Mo_leave_68 : decode m_Mo_leave.2.1 68 = .ok (.sipush 172, 3) := by decide +kernel
theorem d_Mo_leave_71 : decode m_Mo_leave.2.1 71 = .ok (.if_icmp .ne 16, 3) := by decide +kernel
theorem d_Mo_leave_74 : decode m_Mo_leave.2.1 74 = .ok (.aload_n 0, 1) := by decide +kernel
theorem d_Mo_leave_75 : decode m_Mo_leave.2.1 75 = .ok (.aload_n 0, 1) := by decide +kernel
theorem d_Mo_leave_76 : decode m_Mo_leave.2.1 76 = .ok (.getfield 25, 3) := by decide +kernel
theorem d_Mo_leave_79 : decode m_Mo_leave.2.1 79 = .ok (.iload_n 3, 1) := by decide +kernel
theorem d_Mo_leave_80 : decode m_Mo_leave.2.1 80 = .ok (.iaload, 1) := by decide +kernel
theorem d_Mo_leave_81 : decode m_Mo_leave.2.1 81 = .ok (.putfield 237, 3) := by decide +kernel
theorem d_Mo_leave_84 : decode m_Mo_leave.2.1 84 = .ok (.goto 32, 3) := by decide +kernel
theorem d_Mo_leave_87 : decode m_Mo_leave.2.1 87 = .ok (.aload_n 0, 1) := by decide +kernel
theorem d_Mo_leave_88 : decode m_Mo_leave.2.1 88 = .ok (.aload_n 0, 1) := by decide +kernel
theorem d_Mo_leave_89 : decode m_Mo_leave.2.1 89 = .ok (.getfield 22, 3) := by decide +kernel
theorem d_Mo_leave_92 : decode m_Mo_leave.2.1 92 = .ok (.iload_n 3, 1) := by decide +kernel
theorem d_Mo_leave_93 : decode m_Mo_leave.2.1 93 = .ok (.iaload, 1) := by decide +kernel
theorem d_Mo_leave_94 : decode m_Mo_leave.2.1 94 = .ok (.iconst 3, 1) := by decide +kernel
theorem d_Mo_leave_95 : decode m_Mo_leave.2.1 95 = .ok (.if_icmp .ne 7, 3) := by decide +kernel
theorem d_Mo_leave_98 : decode m_Mo_leave.2.1 98 = .ok (.iconst (-1), 1) := by decide +kernel
theorem d_Mo_leave_99 : decode m_Mo_leave.2.1 99 = .ok (.goto 14, 3) := by decide +kernel
theorem d_Mo_leave_102 : decode m_Mo_leave.2.1 102 = .ok (.aload_n 0, 1) := by decide +kernel
theorem d_Mo_leave_103 : decode m_Mo_leave.2.1 103 = .ok (.getfield 37, 3) := by decide +kernel
theorem d_Mo_leave_106 : decode m_Mo_leave.2.1 106 = .ok (.aload_n 0, 1) := by decide +kernel
theorem d_Mo_leave_107 : decode m_Mo_leave.2.1 107 = .ok (.getfield 25, 3) := by decide +kernel
theorem d_Mo_leave_110 : decode m_Mo_leave.2.1 110 = .ok (.iload_n 3, 1) := by decide +kernel
theorem d_Mo_leave_111 : decode m_Mo_leave.2.1 111 = .ok (.iaload, 1) := by decide +kernel
theorem d_Mo_leave_112 : decode m_Mo_leave.2.1 112 = .ok (.iaload, 1) := by decide +kernel
theorem d_Mo_leave_113 : decode m_Mo_leave.2.1 113 = .ok (.putfield 237, 3) := by decide +kernel
theorem d_Mo_leave_116 : decode m_Mo_leave.2.1 116 = .ok (.iconst 0, 1) := by decide +kernel
theorem d_Mo_leave_117 : decode m_Mo_leave.2.1 117 = .ok (.ireturn, 1) := by decide +kernel
theorem d_Mo_goes_0 : decode m_Mo_goes.2.1 0 = .ok (.iload_n 1, 1) := by decide +kernel
theorem d_Mo_goes_1 : decode m_Mo_goes.2.1 1 = .ok (.sipush 167, 3) := by decide +kernel
theorem d_Mo_goes_4 : decode m_Mo_goes.2.1 4 = .ok (.if_icmp .ne 5, 3) := by decide +kernel
theorem d_Mo_goes_7 : decode m_Mo_goes.2.1 7 = .ok (.iconst 1, 1) := by decide +kernel
theorem d_Mo_goes_8 : decode m_Mo_goes.2.1 8 = .ok (.ireturn, 1) := by decide +kernel
theorem d_Mo_goes_9 : decode m_Mo_goes.2.1 9 = .ok (.iload_n 1, 1) := by decide +kernel
theorem d_Mo_goes_10 : decode m_Mo_goes.2.1 10 = .ok (.sipush 167, 3) := by decide +kernel
theorem d_Mo_goes_13 : decode m_Mo_goes.2.1 13 = .ok (.if_icmp .le 39, 3) := by decide +kernel
theorem d_Mo_goes_16 : decode m_Mo_goes.2.1 16 = .ok (.aload_n 0, 1) := by decide +kernel
theorem d_Mo_goes_17 : decode m_Mo_goes.2.1 17 = .ok (.getfield 22, 3) := by decide +kernel
theorem d_Mo_goes_20 : decode m_Mo_goes.2.1 20 = .ok (.iload_n 2, 1) := by decide +kernel
theorem d_Mo_goes_21 : decode m_Mo_goes.2.1 21 = .ok (.iaload, 1) := by decide +kernel
theorem d_Mo_goes_22 : decode m_Mo_goes.2.1 22 = .ok (.iconst 3, 1) := by decide +kernel
theorem d_Mo_goes_23 : decode m_Mo_goes.2.1 23 = .ok (.if_icmp .ne 7, 3) := by decide +kernel
theorem d_Mo_goes_26 : decode m_Mo_goes.2.1 26 = .ok (.iconst 1, 1) := by decide +kernel
theorem d_Mo_goes_27 : decode m_Mo_goes.2.1 27 = .ok (.goto 4, 3) := by decide +kernel
theorem d_Mo_goes_30 : decode m_Mo_goes.2.1 30 = .ok (.iconst 0, 1) := by decide +kernel
theorem d_Mo_goes_31 : decode m_Mo_goes.2.1 31 = .ok (.iload_n 1, 1) := by decide +kernel
theorem d_Mo_goes_32 : decode m_Mo_goes.2.1 32 = .ok (.sipush 198, 3) := by decide +kernel
theorem d_Mo_goes_35 : decode m_Mo_goes.2.1 35 = .ok (.if_icmp .ne 7, 3) := by decide +kernel
theorem d_Mo_goes_38 : decode m_Mo_goes.2.1 38 = .ok (.iconst 1, 1) := by decide +kernel
theorem d_Mo_goes_39 : decode m_Mo_goes.2.1 39 = .ok (.goto 4, 3) := by decide +kernel
theorem d_Mo_goes_42 : decode m_Mo_goes.2.1 42 = .ok (.iconst 0, 1) := by decide +kernel
theorem d_Mo_goes_43 : decode m_Mo_goes.2.1 43 = .ok (.if_icmp .ne 7, 3) := by decide +kernel
theorem d_Mo_goes_46 : decode m_Mo_goes.2.1 46 = .ok (.iconst 1, 1) := by decide +kernel
theorem d_Mo_goes_47 : decode m_Mo_goes.2.1 47 = .ok (.goto 4, 3) := by decide +kernel
theorem d_Mo_goes_50 : decode m_Mo_goes.2.1 50 = .ok (.iconst 0, 1) := by decide +kernel
theorem d_Mo_goes_51 : decode m_Mo_goes.2.1 51 = .ok (.ireturn, 1) := by decide +kernel
theorem d_Mo_goes_52 : decode m_Mo_goes.2.1 52 = .ok (.iload_n 1, 1) := by decide +kernel
theorem d_Mo_goes_53 : decode m_Mo_goes.2.1 53 = .ok (.sipush 159, 3) := by decide +kernel
theorem d_Mo_goes_56 : decode m_Mo_goes.2.1 56 = .ok (.if_icmp .ge 12, 3) := by decide +kernel
theorem d_Mo_goes_59 : decode m_Mo_goes.2.1 59 = .ok (.aload_n 0, 1) := by decide +kernel
theorem d_Mo_goes_60 : decode m_Mo_goes.2.1 60 = .ok (.getfield 25, 3) := by decide +kernel
theorem d_Mo_goes_63 : decode m_Mo_goes.2.1 63 = .ok (.iload_n 2, 1) := by decide +kernel
theorem d_Mo_goes_64 : decode m_Mo_goes.2.1 64 = .ok (.iaload, 1) := by decide +kernel
theorem d_Mo_goes_65 : decode m_Mo_goes.2.1 65 = .ok (.goto 11, 3) := by decide +kernel
theorem d_Mo_goes_68 : decode m_Mo_goes.2.1 68 = .ok (.aload_n 0, 1) := by decide +kernel
theorem d_Mo_goes_69 : decode m_Mo_goes.2.1 69 = .ok (.getfield 25, 3) := by decide +kernel
theorem d_Mo_goes_72 : decode m_Mo_goes.2.1 72 = .ok (.iload_n 2, 1) := by decide +kernel
theorem d_Mo_goes_73 : decode m_Mo_goes.2.1 73 = .ok (.iconst 1, 1) := by decide +kernel
theorem d_Mo_goes_74 : decode m_Mo_goes.2.1 74 = .ok (.isub, 1) := by decide +kernel
theorem d_Mo_goes_75 : decode m_Mo_goes.2.1 75 = .ok (.iaload, 1) := by decide +kernel
theorem d_Mo_goes_76 : decode m_Mo_goes.2.1 76 = .ok (.istore_n 3, 1) := by decide +kernel
theorem d_Mo_goes_77 : decode m_Mo_goes.2.1 77 = .ok (.iload_n 1, 1) := by decide +kernel
theorem d_Mo_goes_78 : decode m_Mo_goes.2.1 78 = .ok (.sipush 159, 3) := by decide +kernel
theorem d_Mo_goes_81 : decode m_Mo_goes.2.1 81 = .ok (.if_icmp .ge 7, 3) := by decide +kernel
theorem d_Mo_goes_84 : decode m_Mo_goes.2.1 84 = .ok (.iconst 0, 1) := by decide +kernel
theorem d_Mo_goes_85 : decode m_Mo_goes.2.1 85 = .ok (.goto 9, 3) := by decide +kernel
theorem d_Mo_goes_88 : decode m_Mo_goes.2.1 88 = .ok (.aload_n 0, 1) := by decide +kernel
theorem d_Mo_goes_89 : decode m_Mo_goes.2.1 89 = .ok (.getfield 25, 3) := by decide +kernel
theorem d_Mo_goes_92 : decode m_Mo_goes.2.1 92 = .ok (.iload_n 2, 1) := by decide +kernel
theorem d_Mo_goes_93 : decode m_Mo_goes.2.1 93 = .ok (.iaload, 1) := by decide +kernel
theorem d_Mo_goes_94 : decode m_Mo_goes.2.1 94 = .ok (.istore 4, 2) := by decide +kernel
theorem d_Mo_goes_96 : decode m_Mo_goes.2.1 96 = .ok (.iload_n 1, 1) := by decide +kernel
theorem d_Mo_goes_97 : decode m_Mo_goes.2.1 97 = .ok (.sipush 159, 3) := by decide +kernel
theorem d_Mo_goes_100 : decode m_Mo_goes.2.1 100 = .ok (.if_icmp .ge 11, 3) := by decide +kernel
theorem d_Mo_goes_103 : decode m_Mo_goes.2.1 103 = .ok (.iload_n 1, 1) := by decide +kernel
theorem d_Mo_goes_104 : decode m_Mo_goes.2.1 104 = .ok (.sipush 153, 3) := by decide +kernel
theorem d_Mo_goes_107 : decode m_Mo_goes.2.1 107 = .ok (.isub, 1) := by decide +kernel
theorem d_Mo_goes_108 : decode m_Mo_goes.2.1 108 = .ok (.goto 8, 3) := by decide +kernel
theorem d_Mo_goes_111 : decode m_Mo_goes.2.1 111 = .ok (.iload_n 1, 1) := by decide +kernel
theorem d_Mo_goes_112 : decode m_Mo_goes.2.1 112 = .ok (.sipush 159, 3) := by decide +kernel
theorem d_Mo_goes_115 : decode m_Mo_goes.2.1 115 = .ok (.isub, 1) := by decide +kernel
theorem d_Mo_goes_116 : decode m_Mo_goes.2.1 116 = .ok (.istore 5, 2) := by decide +kernel
theorem d_Mo_goes_118 : decode m_Mo_goes.2.1 118 = .ok (.iload 5, 2) := by decide +kernel
theorem d_Mo_goes_120 : decode m_Mo_goes.2.1 120 = .ok (.iconst 2, 1) := by decide +kernel
theorem d_Mo_goes_121 : decode m_Mo_goes.2.1 121 = .ok (.if_icmp .eq 9, 3) := by decide +kernel
theorem d_Mo_goes_124 : decode m_Mo_goes.2.1 124 = .ok (.iload 5, 2) := by decide +kernel
theorem d_Mo_goes_126 : decode m_Mo_goes.2.1 126 = .ok (.iconst 3, 1) := by decide +kernel
theorem d_Mo_goes_127 : decode m_Mo_goes.2.1 127 = .ok (.if_icmp .ne 7, 3) := by decide +kernel
theorem d_Mo_goes_130 : decode m_Mo_goes.2.1 130 = .ok (.iconst 1, 1) := by decide +kernel
theorem d_Mo_goes_131 : decode m_Mo_goes.2.1 131 = .ok (.goto 4, 3) := by decide +kernel
theorem d_Mo_goes_134 : decode m_Mo_goes.2.1 134 = .ok (.iconst 0, 1) := by decide +kernel
theorem d_Mo_goes_135 : decode m_Mo_goes.2.1 135 = .ok (.istore 6, 2) := by decide +kernel
theorem d_Mo_goes_137 : decode m_Mo_goes.2.1 137 = .ok (.iload 5, 2) := by decide +kernel
theorem d_Mo_goes_139 : decode m_Mo_goes.2.1 139 = .ok (.iconst 2, 1) := by decide +kernel
theorem d_Mo_goes_140 : decode m_Mo_goes.2.1 140 = .ok (.if_icmp .ge 17, 3) := by decide +kernel
theorem d_Mo_goes_143 : decode m_Mo_goes.2.1 143 = .ok (.iload_n 3, 1) := by decide +kernel
theorem d_Mo_goes_144 : decode m_Mo_goes.2.1 144 = .ok (.iload 4, 2) := by decide +kernel
theorem d_Mo_goes_146 : decode m_Mo_goes.2.1 146 = .ok (.if_icmp .ne 7, 3) := by decide +kernel
theorem d_Mo_goes_149 : decode m_Mo_goes.2.1 149 = .ok (.iconst 1, 1) := by decide +kernel
theorem d_Mo_goes_150 : decode m_Mo_goes.2.1 150 = .ok (.goto 37, 3) := by decide +kernel
theorem d_Mo_goes_153 : decode m_Mo_goes.2.1 153 = .ok (.iconst 0, 1) := by decide +kernel
theorem d_Mo_goes_154 : decode m_Mo_goes.2.1 154 = .ok (.goto 33, 3) := by decide +kernel
theorem d_Mo_goes_157 : decode m_Mo_goes.2.1 157 = .ok (.iload 6, 2) := by decide +kernel
theorem d_Mo_goes_159 : decode m_Mo_goes.2.1 159 = .ok (.ifCond .eq 17, 3) := by decide +kernel
theorem d_Mo_goes_162 : decode m_Mo_goes.2.1 162 = .ok (.iload_n 3, 1) := by decide +kernel
theorem d_Mo_goes_163 : decode m_Mo_goes.2.1 163 = .ok (.iload 4, 2) := by decide +kernel
theorem d_Mo_goes_165 : decode m_Mo_goes.2.1 165 = .ok (.if_icmp .ge 7, 3) := by decide +kernel
theorem d_Mo_goes_168 : decode m_Mo_goes.2.1 168 = .ok (.iconst 1, 1) := by decide +kernel
theorem d_Mo_goes_169 : decode m_Mo_goes.2.1 169 = .ok (.goto 18, 3) := by decide +kernel
theorem d_Mo_goes_172 : decode m_Mo_goes.2.1 172 = .ok (.iconst 0, 1) := by decide +kernel
theorem d_Mo_goes_173 : decode m_Mo_goes.2.1 173 = .ok (.goto 14, 3) := by decide +kernel
theorem d_Mo_goes_176 : decode m_Mo_goes.2.1 176 = .ok (.iload_n 3, 1) := by decide +kernel
theorem d_Mo_goes_177 : decode m_Mo_goes.2.1 177 = .ok (.iload 4, 2) := by decide +kernel
theorem d_Mo_goes_179 : decode m_Mo_goes.2.1 179 = .ok (.if_icmp .le 7, 3) := by decide +kernel
theorem d_Mo_goes_182 : decode m_Mo_goes.2.1 182 = .ok (.iconst 1, 1) := by decide +kernel
theorem d_Mo_goes_183 : decode m_Mo_goes.2.1 183 = .ok (.goto 4, 3) := by decide +kernel
theorem d_Mo_goes_186 : decode m_Mo_goes.2.1 186 = .ok (.iconst 0, 1) := by decide +kernel
theorem d_Mo_goes_187 : decode m_Mo_goes.2.1 187 = .ok (.istore 7, 2) := by decide +kernel
theorem d_Mo_goes_189 : decode m_Mo_goes.2.1 189 = .ok (.iload 7, 2) := by decide +kernel
theorem d_Mo_goes_191 : decode m_Mo_goes.2.1 191 = .ok (.iload 5, 2) := by decide +kernel
theorem d_Mo_goes_193 : decode m_Mo_goes.2.1 193 = .ok (.iconst 2, 1) := by decide +kernel
theorem d_Mo_goes_194 : decode m_Mo_goes.2.1 194 = .ok (.irem, 1) := by decide +kernel
theorem d_Mo_goes_195 : decode m_Mo_goes.2.1 195 = .ok (.ifCond .ne 7, 3) := by decide +kernel
theorem d_Mo_goes_198 : decode m_Mo_goes.2.1 198 = .ok (.iconst 1, 1) := by decide +kernel
theorem d_Mo_goes_199 : decode m_Mo_goes.2.1 199 = .ok (.goto 4, 3) := by decide +kernel
theorem d_Mo_goes_202 : decode m_Mo_goes.2.1 202 = .ok (.iconst 0, 1) := by decide +kernel
theorem d_Mo_goes_203 : decode m_Mo_goes.2.1 203 = .ok (.if_icmp .ne 7, 3) := by decide +kernel
theorem d_Mo_goes_206 : decode m_Mo_goes.2.1 206 = .ok (.iconst 1, 1) := by decide +kernel
theorem d_Mo_goes_207 : decode m_Mo_goes.2.1 207 = .ok (.goto 4, 3) := by decide +kernel
theorem d_Mo_goes_210 : decode m_Mo_goes.2.1 210 = .ok (.iconst 0, 1) := by decide +kernel
theorem d_Mo_goes_211 : decode m_Mo_goes.2.1 211 = .ok (.ireturn, 1) := by decide +kernel
theorem d_Mo_work_0 : decode m_Mo_work.2.1 0 = .ok (.bipush 6, 2) := by decide +kernel
theorem d_Mo_work_2 : decode m_Mo_work.2.1 2 = .ok (.iload_n 1, 1) := by decide +kernel
theorem d_Mo_work_3 : decode m_Mo_work.2.1 3 = .ok (.imul, 1) := by decide +kernel
theorem d_Mo_work_4 : decode m_Mo_work.2.1 4 = .ok (.iload_n 3, 1) := by decide +kernel
theorem d_Mo_work_5 : decode m_Mo_work.2.1 5 = .ok (.invokestatic 55, 3) := by decide +kernel
theorem d_Mo_work_8 : decode m_Mo_work.2.1 8 = .ok (.ifCond .eq 19, 3) := by decide +kernel
theorem d_Mo_work_11 : decode m_Mo_work.2.1 11 = .ok (.aload_n 0, 1) := by decide +kernel
theorem d_Mo_work_12 : decode m_Mo_work.2.1 12 = .ok (.getfield 13, 3) := by decide +kernel
theorem d_Mo_work_15 : decode m_Mo_work.2.1 15 = .ok (.aload_n 0, 1) := by decide +kernel
theorem d_Mo_work_16 : decode m_Mo_work.2.1 16 = .ok (.getfield 139, 3) := by decide +kernel
theorem d_Mo_work_19 : decode m_Mo_work.2.1 19 = .ok (.iload_n 2, 1) := by decide +kernel
theorem d_Mo_work_20 : decode m_Mo_work.2.1 20 = .ok (.iadd, 1) := by decide +kernel
theorem d_Mo_work_21 : decode m_Mo_work.2.1 21 = .ok (.iconst 1, 1) := by decide +kernel
theorem d_Mo_work_22 : decode m_Mo_work.2.1 22 = .ok (.iadd, 1) := by decide +kernel
theorem d_Mo_work_23 : decode m_Mo_work.2.1 23 = .ok (.iaload, 1) := by decide +kernel
theorem d_Mo_work_24 : decode m_Mo_work.2.1 24 = .ok (.goto 4, 3) := by decide +kernel
theorem d_Mo_work_27 : decode m_Mo_work.2.1 27 = .ok (.iconst 0, 1) := by decide +kernel
theorem d_Mo_work_28 : decode m_Mo_work.2.1 28 = .ok (.iadd, 1) := by decide +kernel
theorem d_Mo_work_29 : decode m_Mo_work.2.1 29 = .ok (.istore 5, 2) := by decide +kernel
theorem d_Mo_work_31 : decode m_Mo_work.2.1 31 = .ok (.aload_n 0, 1) := by decide +kernel
theorem d_Mo_work_32 : decode m_Mo_work.2.1 32 = .ok (.getfield 139, 3) := by decide +kernel
theorem d_Mo_work_35 : decode m_Mo_work.2.1 35 = .ok (.iload_n 2, 1) := by decide +kernel
theorem d_Mo_work_36 : decode m_Mo_work.2.1 36 = .ok (.iadd, 1) := by decide +kernel
theorem d_Mo_work_37 : decode m_Mo_work.2.1 37 = .ok (.iconst 1, 1) := by decide +kernel
theorem d_Mo_work_38 : decode m_Mo_work.2.1 38 = .ok (.iadd, 1) := by decide +kernel
theorem d_Mo_work_39 : decode m_Mo_work.2.1 39 = .ok (.istore 6, 2) := by decide +kernel
theorem d_Mo_work_41 : decode m_Mo_work.2.1 41 = .ok (.aload_n 0, 1) := by decide +kernel
theorem d_Mo_work_42 : decode m_Mo_work.2.1 42 = .ok (.getfield 28, 3) := by decide +kernel
theorem d_Mo_work_45 : decode m_Mo_work.2.1 45 = .ok (.iload_n 1, 1) := by decide +kernel
theorem d_Mo_work_46 : decode m_Mo_work.2.1 46 = .ok (.iaload, 1) := by decide +kernel
theorem d_Mo_work_47 : decode m_Mo_work.2.1 47 = .ok (.ifCond .le 13, 3) := by decide +kernel
theorem d_Mo_work_50 : decode m_Mo_work.2.1 50 = .ok (.aload_n 0, 1) := by decide +kernel
theorem d_Mo_work_51 : decode m_Mo_work.2.1 51 = .ok (.getfield 25, 3) := by decide +kernel
theorem d_Mo_work_54 : decode m_Mo_work.2.1 54 = .ok (.iload 4, 2) := by decide +kernel
theorem d_Mo_work_56 : decode m_Mo_work.2.1 56 = .ok (.iaload, 1) := by decide +kernel
theorem d_Mo_work_57 : decode m_Mo_work.2.1 57 = .ok (.goto 4, 3) := by decide +kernel
theorem d_Mo_work_60 : decode m_Mo_work.2.1 60 = .ok (.iconst 0, 1) := by decide +kernel
theorem d_Mo_work_61 : decode m_Mo_work.2.1 61 = .ok (.istore 7, 2) := by decide +kernel
theorem d_Mo_work_63 : decode m_Mo_work.2.1 63 = .ok (.aload_n 0, 1) := by decide +kernel
theorem d_Mo_work_64 : decode m_Mo_work.2.1 64 = .ok (.getfield 28, 3) := by decide +kernel
theorem d_Mo_work_67 : decode m_Mo_work.2.1 67 = .ok (.iload_n 1, 1) := by decide +kernel
theorem d_Mo_work_68 : decode m_Mo_work.2.1 68 = .ok (.iaload, 1) := by decide +kernel
theorem d_Mo_work_69 : decode m_Mo_work.2.1 69 = .ok (.ifCond .le 13, 3) := by decide +kernel
theorem d_Mo_work_72 : decode m_Mo_work.2.1 72 = .ok (.aload_n 0, 1) := by decide +kernel
theorem d_Mo_work_73 : decode m_Mo_work.2.1 73 = .ok (.getfield 22, 3) := by decide +kernel
theorem d_Mo_work_76 : decode m_Mo_work.2.1 76 = .ok (.iload 4, 2) := by decide +kernel
theorem d_Mo_work_78 : decode m_Mo_work.2.1 78 = .ok (.iaload, 1) := by decide +kernel
theorem d_Mo_work_79 : decode m_Mo_work.2.1 79 = .ok (.goto 4, 3) := by decide +kernel
theorem d_Mo_work_82 : decode m_Mo_work.2.1 82 = .ok (.iconst 0, 1) := by decide +kernel
theorem d_Mo_work_83 : decode m_Mo_work.2.1 83 = .ok (.istore 8, 2) := by decide +kernel
theorem d_Mo_work_85 : decode m_Mo_work.2.1 85 = .ok (.aload_n 0, 1) := by decide +kernel
theorem d_Mo_work_86 : decode m_Mo_work.2.1 86 = .ok (.getfield 28, 3) := by decide +kernel
theorem d_Mo_work_89 : decode m_Mo_work.2.1 89 = .ok (.iload_n 1, 1) := by decide +kernel
theorem d_Mo_work_90 : decode m_Mo_work.2.1 90 = .ok (.iaload, 1) := by decide +kernel
theorem d_Mo_work_91 : decode m_Mo_work.2.1 91 = .ok (.iconst 1, 1) := by decide +kernel
theorem d_Mo_work_92 : decode m_Mo_work.2.1 92 = .ok (.if_icmp .le 15, 3) := by decide +kernel
theorem d_Mo_work_95 : decode m_Mo_work.2.1 95 = .ok (.aload_n 0, 1) := by decide +kernel
theorem d_Mo_work_96 : decode m_Mo_work.2.1 96 = .ok (.getfield 25, 3) := by decide +kernel
theorem d_Mo_work_99 : decode m_Mo_work.2.1 99 = .ok (.iload 4, 2) := by decide +kernel
theorem d_Mo_work_101 : decode m_Mo_work.2.1 101 = .ok (.iconst 1, 1) := by decide +kernel
theorem d_Mo_work_102 : decode m_Mo_work.2.1 102 = .ok (.isub, 1) := by decide +kernel
theorem d_Mo_work_103 : decode m_Mo_work.2.1 103 = .ok (.iaload, 1) := by decide +kernel
theorem d_Mo_work_104 : decode m_Mo_work.2.1 104 = .ok (.goto 4, 3) := by decide +kernel
theorem d_Mo_work_107 : decode m_Mo_work.2.1 107 = .ok (.iconst 0, 1) := by decide +kernel
theorem d_Mo_work_108 : decode m_Mo_work.2.1 108 = .ok (.istore 9, 2) := by decide +kernel
theorem d_Mo_work_110 : decode m_Mo_work.2.1 110 = .ok (.aload_n 0, 1) := by decide +kernel
theorem d_Mo_work_111 : decode m_Mo_work.2.1 111 = .ok (.getfield 28, 3) := by decide +kernel
theorem d_Mo_work_114 : decode m_Mo_work.2.1 114 = .ok (.iload_n 1, 1) := by decide +kernel
theorem d_Mo_work_115 : decode m_Mo_work.2.1 115 = .ok (.iaload, 1) := by decide +kernel
theorem d_Mo_work_116 : decode m_Mo_work.2.1 116 = .ok (.iconst 1, 1) := by decide +kernel
theorem d_Mo_work_117 : decode m_Mo_work.2.1 117 = .ok (.if_icmp .le 15, 3) := by decide +kernel
theorem d_Mo_work_120 : decode m_Mo_work.2.1 120 = .ok (.aload_n 0, 1) := by decide +kernel
theorem d_Mo_work_121 : decode m_Mo_work.2.1 121 = .ok (.getfield 22, 3) := by decide +kernel
theorem d_Mo_work_124 : decode m_Mo_work.2.1 124 = .ok (.iload 4, 2) := by decide +kernel
theorem d_Mo_work_126 : decode m_Mo_work.2.1 126 = .ok (.iconst 1, 1) := by decide +kernel
theorem d_Mo_work_127 : decode m_Mo_work.2.1 127 = .ok (.isub, 1) := by decide +kernel
theorem d_Mo_work_128 : decode m_Mo_work.2.1 128 = .ok (.iaload, 1) := by decide +kernel
theorem d_Mo_work_129 : decode m_Mo_work.2.1 129 = .ok (.goto 4, 3) := by decide +kernel
theorem d_Mo_work_132 : decode m_Mo_work.2.1 132 = .ok (.iconst 0, 1) := by decide +kernel
theorem d_Mo_work_133 : decode m_Mo_work.2.1 133 = .ok (.istore 10, 2) := by decide +kernel
theorem d_Mo_work_135 : decode m_Mo_work.2.1 135 = .ok (.aload_n 0, 1) := by decide +kernel
theorem d_Mo_work_136 : decode m_Mo_work.2.1 136 = .ok (.getfield 28, 3) := by decide +kernel
theorem d_Mo_work_139 : decode m_Mo_work.2.1 139 = .ok (.iload_n 1, 1) := by decide +kernel
theorem d_Mo_work_140 : decode m_Mo_work.2.1 140 = .ok (.iaload, 1) := by decide +kernel
theorem d_Mo_work_141 : decode m_Mo_work.2.1 141 = .ok (.iconst 2, 1) := by decide +kernel
theorem d_Mo_work_142 : decode m_Mo_work.2.1 142 = .ok (.if_icmp .le 15, 3) := by decide +kernel
theorem d_Mo_work_145 : decode m_Mo_work.2.1 145 = .ok (.aload_n 0, 1) := by decide +kernel
theorem d_Mo_work_146 : decode m_Mo_work.2.1 146 = .ok (.getfield 25, 3) := by decide +kernel
theorem d_Mo_work_149 : decode m_Mo_work.2.1 149 = .ok (.iload 4, 2) := by decide +kernel
theorem d_Mo_work_151 : decode m_Mo_work.2.1 151 = .ok (.iconst 2, 1) := by decide +kernel
theorem d_Mo_work_152 : decode m_Mo_work.2.1 152 = .ok (.isub, 1) := by decide +kernel
theorem d_Mo_work_153 : decode m_Mo_work.2.1 153 = .ok (.iaload, 1) := by decide +kernel
theorem d_Mo_work_154 : decode m_Mo_work.2.1 154 = .ok (.goto 4, 3) := by decide +kernel
theorem d_Mo_work_157 : decode m_Mo_work.2.1 157 = .ok (.iconst 0, 1) := by decide +kernel
theorem d_Mo_work_158 : decode m_Mo_work.2.1 158 = .ok (.istore 11, 2) := by decide +kernel
theorem d_Mo_work_160 : decode m_Mo_work.2.1 160 = .ok (.aload_n 0, 1) := by decide +kernel
theorem d_Mo_work_161 : decode m_Mo_work.2.1 161 = .ok (.getfield 28, 3) := by decide +kernel
theorem d_Mo_work_164 : decode m_Mo_work.2.1 164 = .ok (.iload_n 1, 1) := by decide +kernel
theorem d_Mo_work_165 : decode m_Mo_work.2.1 165 = .ok (.aload_n 0, 1) := by decide +kernel
theorem d_Mo_work_166 : decode m_Mo_work.2.1 166 = .ok (.getfield 28, 3) := by decide +kernel
theorem d_Mo_work_169 : decode m_Mo_work.2.1 169 = .ok (.iload_n 1, 1) := by decide +kernel
theorem d_Mo_work_170 : decode m_Mo_work.2.1 170 = .ok (.iaload, 1) := by decide +kernel
theorem d_Mo_work_171 : decode m_Mo_work.2.1 171 = .ok (.aload_n 0, 1) := by decide +kernel
theorem d_Mo_work_172 : decode m_Mo_work.2.1 172 = .ok (.iload_n 2, 1) := by decide +kernel
theorem d_Mo_work_173 : decode m_Mo_work.2.1 173 = .ok (.invokevirtual 154, 3) := by decide +kernel
theorem d_Mo_work_176 : decode m_Mo_work.2.1 176 = .ok (.isub, 1) := by decide +kernel
theorem d_Mo_work_177 : decode m_Mo_work.2.1 177 = .ok (.iastore, 1) := by decide +kernel
theorem d_Mo_work_178 : decode m_Mo_work.2.1 178 = .ok (.iload_n 3, 1) := by decide +kernel
theorem d_Mo_work_179 : decode m_Mo_work.2.1 179 = .ok (.lookupswitch 217 #[(21, 81), (25, 81), (54, 103), (58, 103), (79, 154), (87, 172), (89, 175), (95, 196), (132, 124)], 81) := by decide +kernel
theorem d_Mo_work_260 : decode m_Mo_work.2.1 260 = .ok (.aload_n 0, 1) := by decide +kernel
theorem d_Mo_work_261 : decode m_Mo_work.2.1 261 = .ok (.iload_n 1, 1) := by decide +kernel
theorem d_Mo_work_262 : decode m_Mo_work.2.1 262 = .ok (.aload_n 0, 1) := by decide +kernel
theorem d_Mo_work_263 : decode m_Mo_work.2.1 263 = .ok (.getfield 16, 3) := by decide +kernel
theorem d_Mo_work_266 : decode m_Mo_work.2.1 266 = .ok (.iload 5, 2) := by decide +kernel
theorem d_Mo_work_268 : decode m_Mo_work.2.1 268 = .ok (.iaload, 1) := by decide +kernel
theorem d_Mo_work_269 : decode m_Mo_work.2.1 269 = .ok (.aload_n 0, 1) := by decide +kernel
theorem d_Mo_work_270 : decode m_Mo_work.2.1 270 = .ok (.getfield 19, 3) := by decide +kernel
theorem d_Mo_work_273 : decode m_Mo_work.2.1 273 = .ok (.iload 5, 2) := by decide +kernel
theorem d_Mo_work_275 : decode m_Mo_work.2.1 275 = .ok (.iaload, 1) := by decide +kernel
theorem d_Mo_work_276 : decode m_Mo_work.2.1 276 = .ok (.invokevirtual 166, 3) := by decide +kernel
theorem d_Mo_work_279 : decode m_Mo_work.2.1 279 = .ok (.goto 137, 3) := by decide +kernel
theorem d_Mo_work_282 : decode m_Mo_work.2.1 282 = .ok (.aload_n 0, 1) := by decide +kernel
theorem d_Mo_work_283 : decode m_Mo_work.2.1 283 = .ok (.getfield 16, 3) := by decide +kernel
theorem d_Mo_work_286 : decode m_Mo_work.2.1 286 = .ok (.iload 5, 2) := by decide +kernel
theorem d_Mo_work_288 : decode m_Mo_work.2.1 288 = .ok (.iload 8, 2) := by decide +kernel
theorem d_Mo_work_290 : decode m_Mo_work.2.1 290 = .ok (.iastore, 1) := by decide +kernel
theorem d_Mo_work_291 : decode m_Mo_work.2.1 291 = .ok (.aload_n 0, 1) := by decide +kernel
theorem d_Mo_work_292 : decode m_Mo_work.2.1 292 = .ok (.getfield 19, 3) := by decide +kernel
theorem d_Mo_work_295 : decode m_Mo_work.2.1 295 = .ok (.iload 5, 2) := by decide +kernel
theorem d_Mo_work_297 : decode m_Mo_work.2.1 297 = .ok (.iload 7, 2) := by decide +kernel
theorem d_Mo_work_299 : decode m_Mo_work.2.1 299 = .ok (.iastore, 1) := by decide +kernel
theorem d_Mo_work_300 : decode m_Mo_work.2.1 300 = .ok (.goto 116, 3) := by decide +kernel
theorem d_Mo_work_303 : decode m_Mo_work.2.1 303 = .ok (.aload_n 0, 1) := by decide +kernel
theorem d_Mo_work_304 : decode m_Mo_work.2.1 304 = .ok (.getfield 19, 3) := by decide +kernel
theorem d_Mo_work_307 : decode m_Mo_work.2.1 307 = .ok (.iload 5, 2) := by decide +kernel
theorem d_Mo_work_309 : decode m_Mo_work.2.1 309 = .ok (.aload_n 0, 1) := by decide +kernel
theorem d_Mo_work_310 : decode m_Mo_work.2.1 310 = .ok (.getfield 19, 3) := by decide +kernel
theorem d_Mo_work_313 : decode m_Mo_work.2.1 313 = .ok (.iload 5, 2) := by decide +kernel
theorem d_Mo_work_315 : decode m_Mo_work.2.1 315 = .ok (.iaload, 1) := by decide +kernel
theorem d_Mo_work_316 : decode m_Mo_work.2.1 316 = .ok (.aload_n 0, 1) := by decide +kernel
theorem d_Mo_work_317 : decode m_Mo_work.2.1 317 = .ok (.getfield 13, 3) := by decide +kernel
theorem d_Mo_work_320 : decode m_Mo_work.2.1 320 = .ok (.iload 6, 2) := by decide +kernel
theorem d_Mo_work_322 : decode m_Mo_work.2.1 322 = .ok (.iconst 1, 1) := by decide +kernel
theorem d_Mo_work_323 : decode m_Mo_work.2.1 323 = .ok (.iadd, 1) := by decide +kernel
theorem d_Mo_work_324 : decode m_Mo_work.2.1 324 = .ok (.iaload, 1) := by decide +kernel
theorem d_Mo_work_325 : decode m_Mo_work.2.1 325 = .ok (.invokestatic 240, 3) := by decide +kernel
theorem d_Mo_work_328 : decode m_Mo_work.2.1 328 = .ok (.iadd, 1) := by decide +kernel
theorem d_Mo_work_329 : decode m_Mo_work.2.1 329 = .ok (.iastore, 1) := by decide +kernel
theorem d_Mo_work_330 : decode m_Mo_work.2.1 330 = .ok (.goto 86, 3) := by decide +kernel
theorem d_Mo_work_333 : decode m_Mo_work.2.1 333 = .ok (.aload_n 0, 1) := by decide +kernel
theorem d_Mo_work_334 : decode m_Mo_work.2.1 334 = .ok (.getfield 40, 3) := by decide +kernel
theorem d_Mo_work_337 : decode m_Mo_work.2.1 337 = .ok (.bipush 8, 2) := by decide +kernel
theorem d_Mo_work_339 : decode m_Mo_work.2.1 339 = .ok (.iload 11, 2) := by decide +kernel
theorem d_Mo_work_341 : decode m_Mo_work.2.1 341 = .ok (.imul, 1) := by decide +kernel
theorem d_Mo_work_342 : decode m_Mo_work.2.1 342 = .ok (.iload 9, 2) := by decide +kernel
theorem d_Mo_work_344 : decode m_Mo_work.2.1 344 = .ok (.iadd, 1) := by decide +kernel
theorem d_Mo_work_345 : decode m_Mo_work.2.1 345 = .ok (.iload 7, 2) := by decide +kernel
theorem d_Mo_work_347 : decode m_Mo_work.2.1 347 = .ok (.iastore, 1) := by decide +kernel
theorem d_Mo_work_348 : decode m_Mo_work.2.1 348 = .ok (.goto 68, 3) := by decide +kernel
theorem d_Mo_work_351 : decode m_Mo_work.2.1 351 = .ok (.goto 65, 3) := by decide +kernel
theorem d_Mo_work_354 : decode m_Mo_work.2.1 354 = .ok (.aload_n 0, 1) := by decide +kernel
theorem d_Mo_work_355 : decode m_Mo_work.2.1 355 = .ok (.iload_n 1, 1) := by decide +kernel
theorem d_Mo_work_356 : decode m_Mo_work.2.1 356 = .ok (.iload 8, 2) := by decide +kernel
theorem d_Mo_work_358 : decode m_Mo_work.2.1 358 = .ok (.iload 7, 2) := by decide +kernel
theorem d_Mo_work_360 : decode m_Mo_work.2.1 360 = .ok (.invokevirtual 166, 3) := by decide +kernel
theorem d_Mo_work_363 : decode m_Mo_work.2.1 363 = .ok (.aload_n 0, 1) := by decide +kernel
theorem d_Mo_work_364 : decode m_Mo_work.2.1 364 = .ok (.iload_n 1, 1) := by decide +kernel
theorem d_Mo_work_365 : decode m_Mo_work.2.1 365 = .ok (.iload 8, 2) := by decide +kernel
theorem d_Mo_work_367 : decode m_Mo_work.2.1 367 = .ok (.iload 7, 2) := by decide +kernel
theorem d_Mo_work_369 : decode m_Mo_work.2.1 369 = .ok (.invokevirtual 166, 3) := by decide +kernel
theorem d_Mo_work_372 : decode m_Mo_work.2.1 372 = .ok (.goto 44, 3) := by decide +kernel
theorem d_Mo_work_375 : decode m_Mo_work.2.1 375 = .ok (.aload_n 0, 1) := by decide +kernel
theorem d_Mo_work_376 : decode m_Mo_work.2.1 376 = .ok (.iload_n 1, 1) := by decide +kernel
theorem d_Mo_work_377 : decode m_Mo_work.2.1 377 = .ok (.iload 8, 2) := by decide +kernel
theorem d_Mo_work_379 : decode m_Mo_work.2.1 379 = .ok (.iload 7, 2) := by decide +kernel
theorem d_Mo_work_381 : decode m_Mo_work.2.1 381 = .ok (.invokevirtual 166, 3) := by decide +kernel
theorem d_Mo_work_384 : decode m_Mo_work.2.1 384 = .ok (.aload_n 0, 1) := by decide +kernel
theorem d_Mo_work_385 : decode m_Mo_work.2.1 385 = .ok (.iload_n 1, 1) := by decide +kernel
theorem d_Mo_work_386 : decode m_Mo_work.2.1 386 = .ok (.iload 10, 2) := by decide +kernel
theorem d_Mo_work_388 : decode m_Mo_work.2.1 388 = .ok (.iload 9, 2) := by decide +kernel
theorem d_Mo_work_390 : decode m_Mo_work.2.1 390 = .ok (.invokevirtual 166, 3) := by decide +kernel
theorem d_Mo_work_393 : decode m_Mo_work.2.1 393 = .ok (.goto 23, 3) := by decide +kernel
theorem d_Mo_work_396 : decode m_Mo_work.2.1 396 = .ok (.aload_n 0, 1) := by decide +kernel
theorem d_Mo_work_397 : decode m_Mo_work.2.1 397 = .ok (.iload_n 1, 1) := by decide +kernel
theorem d_Mo_work_398 : decode m_Mo_work.2.1 398 = .ok (.iload_n 3, 1) := by decide +kernel
theorem d_Mo_work_399 : decode m_Mo_work.2.1 399 = .ok (.invokestatic 151, 3) := by decide +kernel
theorem d_Mo_work_402 : decode m_Mo_work.2.1 402 = .ok (.aload_n 0, 1) := by decide +kernel
theorem d_Mo_work_403 : decode m_Mo_work.2.1 403 = .ok (.iload_n 3, 1) := by decide +kernel
theorem d_Mo_work_404 : decode m_Mo_work.2.1 404 = .ok (.iload 6, 2) := by decide +kernel
theorem d_Mo_work_406 : decode m_Mo_work.2.1 406 = .ok (.iload 9, 2) := by decide +kernel
theorem d_Mo_work_408 : decode m_Mo_work.2.1 408 = .ok (.iload 7, 2) := by decide +kernel
theorem d_Mo_work_410 : decode m_Mo_work.2.1 410 = .ok (.invokevirtual 243, 3) := by decide +kernel
theorem d_Mo_work_413 : decode m_Mo_work.2.1 413 = .ok (.invokevirtual 166, 3) := by decide +kernel
theorem d_Mo_work_416 : decode m_Mo_work.2.1 416 = .ok (.return_, 1) := by decide +kernel
theorem d_Mo_small_0 : decode m_Mo_small.2.1 0 = .ok (.iload_n 0, 1) := by decide +kernel
theorem d_Mo_small_1 : decode m_Mo_small.2.1 1 = .ok (.bipush 127, 2) := by decide +kernel
theorem d_Mo_small_3 : decode m_Mo_small.2.1 3 = .ok (.if_icmp .le 11, 3) := by decide +kernel
theorem d_Mo_small_6 : decode m_Mo_small.2.1 6 = .ok (.iload_n 0, 1) := by decide +kernel
theorem d_Mo_small_7 : decode m_Mo_small.2.1 7 = .ok (.sipush 256, 3) := by decide +kernel
theorem d_Mo_small_10 : decode m_Mo_small.2.1 10 = .ok (.isub, 1) := by decide +kernel
theorem d_Mo_small_11 : decode m_Mo_small.2.1 11 = .ok (.goto 4, 3) := by decide +kernel
theorem d_Mo_small_14 : decode m_Mo_small.2.1 14 = .ok (.iload_n 0, 1) := by decide +kernel
theorem d_Mo_small_15 : decode m_Mo_small.2.1 15 = .ok (.ireturn, 1) := by decide +kernel
theorem d_Mo_value_0 : decode m_Mo_value.2.1 0 = .ok (.iload_n 1, 1) := by decide +kernel
theorem d_Mo_value_1 : decode m_Mo_value.2.1 1 = .ok (.lookupswitch 158 #[(1, 91), (16, 93), (18, 103), (46, 114), (96, 127), (100, 132), (104, 137), (108, 142), (116, 147), (188, 151)], 91) := by decide +kernel
theorem d_Mo_value_92 : decode m_Mo_value.2.1 92 = .ok (.iconst 0, 1) := by decide +kernel
theorem d_Mo_value_93 : decode m_Mo_value.2.1 93 = .ok (.ireturn, 1) := by decide +kernel
theorem d_Mo_value_94 : decode m_Mo_value.2.1 94 = .ok (.aload_n 0, 1) := by decide +kernel
theorem d_Mo_value_95 : decode m_Mo_value.2.1 95 = .ok (.getfield 13, 3) := by decide +kernel
theorem d_Mo_value_98 : decode m_Mo_value.2.1 98 = .ok (.iload_n 2, 1) := by decide +kernel
theorem d_Mo_value_99 : decode m_Mo_value.2.1 99 = .ok (.iaload, 1) := by decide +kernel
theorem d_Mo_value_100 : decode m_Mo_value.2.1 100 = .ok (.invokestatic 240, 3) := by decide +kernel
theorem d_Mo_value_103 : decode m_Mo_value.2.1 103 = .ok (.ireturn, 1) := by decide +kernel
theorem d_Mo_value_104 : decode m_Mo_value.2.1 104 = .ok (.aload_n 0, 1) := by decide +kernel
theorem d_Mo_value_105 : decode m_Mo_value.2.1 105 = .ok (.aload_n 0, 1) := by decide +kernel
theorem d_Mo_value_106 : decode m_Mo_value.2.1 106 = .ok (.getfield 13, 3) := by decide +kernel
theorem d_Mo_value_109 : decode m_Mo_value.2.1 109 = .ok (.iload_n 2, 1) := by decide +kernel
theorem d_Mo_value_110 : decode m_Mo_value.2.1 110 = .ok (.iaload, 1) := by decide +kernel
theorem d_Mo_value_111 : decode m_Mo_value.2.1 111 = .ok (.invokevirtual 247, 3) := by decide +kernel
theorem d_Mo_value_114 : decode m_Mo_value.2.1 114 = .ok (.ireturn, 1) := by decide +kernel
theorem d_Mo_value_115 : decode m_Mo_value.2.1 115 = .ok (.aload_n 0, 1) := by decide +kernel
theorem d_Mo_value_116 : decode m_Mo_value.2.1 116 = .ok (.getfield 40, 3) := by decide +kernel
theorem d_Mo_value_119 : decode m_Mo_value.2.1 119 = .ok (.bipush 8, 2) := by decide +kernel
theorem d_Mo_value_121 : decode m_Mo_value.2.1 121 = .ok (.iload_n 3, 1) := by decide +kernel
theorem d_Mo_value_122 : decode m_Mo_value.2.1 122 = .ok (.imul, 1) := by decide +kernel
theorem d_Mo_value_123 : decode m_Mo_value.2.1 123 = .ok (.iload 4, 2) := by decide +kernel
theorem d_Mo_value_125 : decode m_Mo_value.2.1 125 = .ok (.iadd, 1) := by decide +kernel
theorem d_Mo_value_126 : decode m_Mo_value.2.1 126 = .ok (.iaload, 1) := by decide +kernel
theorem d_Mo_value_127 : decode m_Mo_value.2.1 127 = .ok (.ireturn, 1) := by decide +kernel
theorem d_Mo_value_128 : decode m_Mo_value.2.1 128 = .ok (.iload_n 3, 1) := by decide +kernel
theorem d_Mo_value_129 : decode m_Mo_value.2.1 129 = .ok (.iload 4, 2) := by decide +kernel
theorem d_Mo_value_131 : decode m_Mo_value.2.1 131 = .ok (.iadd, 1) := by decide +kernel
theorem d_Mo_value_132 : decode m_Mo_value.2.1 132 = .ok (.ireturn, 1) := by decide +kernel
theorem d_Mo_value_133 : decode m_Mo_value.2.1 133 = .ok (.iload_n 3, 1) := by decide +kernel
theorem d_Mo_value_134 : decode m_Mo_value.2.1 134 = .ok (.iload 4, 2) := by decide +kernel
theorem d_Mo_value_136 : decode m_Mo_value.2.1 136 = .ok (.isub, 1) := by decide +kernel
theorem d_Mo_value_137 : decode m_Mo_value.2.1 137 = .ok (.ireturn, 1) := by decide +kernel
theorem d_Mo_value_138 : decode m_Mo_value.2.1 138 = .ok (.iload_n 3, 1) := by decide +kernel
theorem d_Mo_value_139 : decode m_Mo_value.2.1 139 = .ok (.iload 4, 2) := by decide +kernel
theorem d_Mo_value_141 : decode m_Mo_value.2.1 141 = .ok (.imul, 1) := by decide +kernel
theorem d_Mo_value_142 : decode m_Mo_value.2.1 142 = .ok (.ireturn, 1) := by decide +kernel
theorem d_Mo_value_143 : decode m_Mo_value.2.1 143 = .ok (.iload_n 3, 1) := by decide +kernel
theorem d_Mo_value_144 : decode m_Mo_value.2.1 144 = .ok (.iload 4, 2) := by decide +kernel
theorem d_Mo_value_146 : decode m_Mo_value.2.1 146 = .ok (.idiv, 1) := by decide +kernel
theorem d_Mo_value_147 : decode m_Mo_value.2.1 147 = .ok (.ireturn, 1) := by decide +kernel
theorem d_Mo_value_148 : decode m_Mo_value.2.1 148 = .ok (.iload 4, 2) := by decide +kernel
theorem d_Mo_value_150 : decode m_Mo_value.2.1 150 = .ok (.ineg, 1) := by decide +kernel
theorem d_Mo_value_151 : decode m_Mo_value.2.1 151 = .ok (.ireturn, 1) := by decide +kernel
theorem d_Mo_value_152 : decode m_Mo_value.2.1 152 = .ok (.aload_n 0, 1) := by decide +kernel
theorem d_Mo_value_153 : decode m_Mo_value.2.1 153 = .ok (.iload 4, 2) := by decide +kernel
theorem d_Mo_value_155 : decode m_Mo_value.2.1 155 = .ok (.invokevirtual 207, 3) := by decide +kernel
theorem d_Mo_value_158 : decode m_Mo_value.2.1 158 = .ok (.ireturn, 1) := by decide +kernel
theorem d_Mo_value_159 : decode m_Mo_value.2.1 159 = .ok (.aload_n 0, 1) := by decide +kernel
theorem d_Mo_value_160 : decode m_Mo_value.2.1 160 = .ok (.getfield 37, 3) := by decide +kernel
theorem d_Mo_value_163 : decode m_Mo_value.2.1 163 = .ok (.iload 4, 2) := by decide +kernel
theorem d_Mo_value_165 : decode m_Mo_value.2.1 165 = .ok (.iaload, 1) := by decide +kernel
theorem d_Mo_value_166 : decode m_Mo_value.2.1 166 = .ok (.ireturn, 1) := by decide +kernel
theorem d_Mo_result_0 : decode m_Mo_result.2.1 0 = .ok (.aload_n 0, 1) := by decide +kernel
theorem d_Mo_result_1 : decode m_Mo_result.2.1 1 = .ok (.iconst 0, 1) := by decide +kernel
theorem d_Mo_result_2 : decode m_Mo_result.2.1 2 = .ok (.putfield 43, 3) := by decide +kernel
theorem d_Mo_result_5 : decode m_Mo_result.2.1 5 = .ok (.aload_n 0, 1) := by decide +kernel
theorem d_Mo_result_6 : decode m_Mo_result.2.1 6 = .ok (.getfield 237, 3) := by decide +kernel
theorem d_Mo_result_9 : decode m_Mo_result.2.1 9 = .ok (.ireturn, 1) := by decide +kernel
theorem d_Mo_steps_0 : decode m_Mo_steps.2.1 0 = .ok (.aload_n 0, 1) := by decide +kernel
theorem d_Mo_steps_1 : decode m_Mo_steps.2.1 1 = .ok (.iconst 0, 1) := by decide +kernel
theorem d_Mo_steps_2 : decode m_Mo_steps.2.1 2 = .ok (.putfield 43, 3) := by decide +kernel
theorem d_Mo_steps_5 : decode m_Mo_steps.2.1 5 = .ok (.aload_n 0, 1) := by decide +kernel
theorem d_Mo_steps_6 : decode m_Mo_steps.2.1 6 = .ok (.getfield 212, 3) := by decide +kernel
theorem d_Mo_steps_9 : decode m_Mo_steps.2.1 9 = .ok (.ireturn, 1) := by decide +kernel
end
section
/-! the cells: 0 the object, 1 its typed file, 2 and 13 the programs, 24 reader, 26 checker, 32 machine, 58 the reference -/
def j_skl : List jj_Sh := [
  .inr (0, [some (some 1), none, some none, some none, some (some 24), some (some 26), some (some 32)]),
  .inl (0, 240, fun z => z),
  .inr (1, [some (some 3), none, none, none, none, some (some 4)]),
  .inl (0, 240, fun z => z),
  .inl (2, 4, fun k => 2 + 3 + 2 * k),
  .inr (2, [none, none, none, none, none, none, none, none, some (some 6)]),
  .inl (0, 8, fun z => z),
  .inr (2, [none, none, none, none, none, none, none, none, some (some 8)]),
  .inl (0, 8, fun z => z),
  .inr (2, [none, none, none, none, none, none, none, none, some (some 10)]),
  .inl (0, 8, fun z => z),
  .inr (2, [none, none, none, none, none, none, none, none, some (some 12)]),
  .inl (0, 8, fun z => z),
  .inr (1, [some (some 14), none, none, none, none, some (some 15)]),
  .inl (0, 240, fun z => z),
  .inl (2, 4, fun k => 13 + 3 + 2 * k),
  .inr (2, [none, none, none, none, none, none, none, none, some (some 17)]),
  .inl (0, 8, fun z => z),
  .inr (2, [none, none, none, none, none, none, none, none, some (some 19)]),
  .inl (0, 8, fun z => z),
  .inr (2, [none, none, none, none, none, none, none, none, some (some 21)]),
  .inl (0, 8, fun z => z),
  .inr (2, [none, none, none, none, none, none, none, none, some (some 23)]),
  .inl (0, 8, fun z => z),
  .inr (3, [none, none, some (some 25)]),
  .inl (1, 60, fun z => z),
  .inr (5, [some (some 27), none]),
  .inr (4, [some (some 28), some (some 29), some (some 30), some (some 31), none]),
  .inl (0, 6, fun z => z),
  .inl (0, 6, fun z => z),
  .inl (0, 6, fun z => z),
  .inl (0, 6, fun z => z),
  .inr (6, [none, none, some (some 33), some (some 54), some (some 55), none, some (some 56), some (some 57), none]),
  .inl (3, 4, fun k => 32 + 2 + 5 * k),
  .inr (4, [some (some 35), some (some 36), some (some 37), some (some 38), none]),
  .inl (0, 6, fun z => z),
  .inl (0, 6, fun z => z),
  .inl (0, 6, fun z => z),
  .inl (0, 6, fun z => z),
  .inr (4, [some (some 40), some (some 41), some (some 42), some (some 43), none]),
  .inl (0, 6, fun z => z),
  .inl (0, 6, fun z => z),
  .inl (0, 6, fun z => z),
  .inl (0, 6, fun z => z),
  .inr (4, [some (some 45), some (some 46), some (some 47), some (some 48), none]),
  .inl (0, 6, fun z => z),
  .inl (0, 6, fun z => z),
  .inl (0, 6, fun z => z),
  .inl (0, 6, fun z => z),
  .inr (4, [some (some 50), some (some 51), some (some 52), some (some 53), none]),
  .inl (0, 6, fun z => z),
  .inl (0, 6, fun z => z),
  .inl (0, 6, fun z => z),
  .inl (0, 6, fun z => z),
  .inl (0, 4, fun z => z),
  .inl (0, 4, fun z => z),
  .inl (0, 64, fun z => z),
  .inl (0, 8, fun z => z),
  .inr (7, [none, none, some (some 59), none, none, none, none, some (some 60), none, none, none, none, none, none, some (some 61), some (some 62), some (some 63), some (some 64), some (some 65), some (some 66), some (some 67), none, none, none, some (some 68), some (some 69), none, none]),
  .inl (0, 240, fun z => z),
  .inl (0, 240, fun z => z),
  .inl (0, 24, fun z => z),
  .inl (0, 24, fun z => z),
  .inl (0, 24, fun z => z),
  .inl (0, 24, fun z => z),
  .inl (0, 4, fun z => z),
  .inl (0, 4, fun z => z),
  .inl (0, 4, fun z => z),
  .inl (0, 8, fun z => z),
  .inl (0, 64, fun z => z)]
def j_sk (i : Nat) : jj_Sh := j_skl.getD i (.inl (0, 0, fun z => z))
def Y0 : jj_Y := (j_sk, 70, j_cl, [.int, .boolean, .object "VerifiedCode$Method", .object "VerifiedCode$State"], j_W)
def bo_VC (i : Nat) : Bool := i == 0
def o_VC (i : Nat) : Prop := bo_VC i = true
theorem ob_VC {i : Nat} (h : bo_VC i = true) : o_VC i := h
theorem oc_VC {i : Nat} (h : o_VC i) : i = 0 := by
  simpa [o_VC, bo_VC, or_assoc] using h
theorem lt_VC {i : Nat} (h : o_VC i) : i < 2 ^ 31 := by
  have := oc_VC h
  omega
theorem sh_VC {i : Nat} (h : o_VC i) : Y0.1 i = .inr (0, [some (some (i + 1)), none, some none, some none, some (some (i + 24)), some (some (i + 26)), some (some (i + 32))]) ∧ i < Y0.2.1 := by
  rcases oc_VC h with rfl <;> exact ⟨rfl, by decide⟩
def bo_Pr (i : Nat) : Bool := i == 2 || i == 13
def o_Pr (i : Nat) : Prop := bo_Pr i = true
theorem ob_Pr {i : Nat} (h : bo_Pr i = true) : o_Pr i := h
theorem oc_Pr {i : Nat} (h : o_Pr i) : i = 2 ∨ i = 13 := by
  simpa [o_Pr, bo_Pr, or_assoc] using h
theorem lt_Pr {i : Nat} (h : o_Pr i) : i < 2 ^ 31 := by
  have := oc_Pr h
  omega
theorem sh_Pr {i : Nat} (h : o_Pr i) : Y0.1 i = .inr (1, [some (some (i + 1)), none, none, none, none, some (some (i + 2))]) ∧ i < Y0.2.1 := by
  rcases oc_Pr h with rfl | rfl <;> exact ⟨rfl, by decide⟩
def bo_Me (i : Nat) : Bool := i == 5 || i == 7 || i == 9 || i == 11 || i == 16 || i == 18 || i == 20 || i == 22
def o_Me (i : Nat) : Prop := bo_Me i = true
theorem ob_Me {i : Nat} (h : bo_Me i = true) : o_Me i := h
theorem oc_Me {i : Nat} (h : o_Me i) : i = 5 ∨ i = 7 ∨ i = 9 ∨ i = 11 ∨ i = 16 ∨ i = 18 ∨ i = 20 ∨ i = 22 := by
  simpa [o_Me, bo_Me, or_assoc] using h
theorem lt_Me {i : Nat} (h : o_Me i) : i < 2 ^ 31 := by
  have := oc_Me h
  omega
theorem sh_Me {i : Nat} (h : o_Me i) : Y0.1 i = .inr (2, [none, none, none, none, none, none, none, none, some (some (i + 1))]) ∧ i < Y0.2.1 := by
  rcases oc_Me h with rfl | rfl | rfl | rfl | rfl | rfl | rfl | rfl <;> exact ⟨rfl, by decide⟩
def bo_Rd (i : Nat) : Bool := i == 24
def o_Rd (i : Nat) : Prop := bo_Rd i = true
theorem ob_Rd {i : Nat} (h : bo_Rd i = true) : o_Rd i := h
theorem oc_Rd {i : Nat} (h : o_Rd i) : i = 24 := by
  simpa [o_Rd, bo_Rd, or_assoc] using h
theorem lt_Rd {i : Nat} (h : o_Rd i) : i < 2 ^ 31 := by
  have := oc_Rd h
  omega
theorem sh_Rd {i : Nat} (h : o_Rd i) : Y0.1 i = .inr (3, [none, none, some (some (i + 1))]) ∧ i < Y0.2.1 := by
  rcases oc_Rd h with rfl <;> exact ⟨rfl, by decide⟩
def bo_St (i : Nat) : Bool := i == 27 || i == 34 || i == 39 || i == 44 || i == 49
def o_St (i : Nat) : Prop := bo_St i = true
theorem ob_St {i : Nat} (h : bo_St i = true) : o_St i := h
theorem oc_St {i : Nat} (h : o_St i) : i = 27 ∨ i = 34 ∨ i = 39 ∨ i = 44 ∨ i = 49 := by
  simpa [o_St, bo_St, or_assoc] using h
theorem lt_St {i : Nat} (h : o_St i) : i < 2 ^ 31 := by
  have := oc_St h
  omega
theorem sh_St {i : Nat} (h : o_St i) : Y0.1 i = .inr (4, [some (some (i + 1)), some (some (i + 2)), some (some (i + 3)), some (some (i + 4)), none]) ∧ i < Y0.2.1 := by
  rcases oc_St h with rfl | rfl | rfl | rfl | rfl <;> exact ⟨rfl, by decide⟩
def bo_Ck (i : Nat) : Bool := i == 26
def o_Ck (i : Nat) : Prop := bo_Ck i = true
theorem ob_Ck {i : Nat} (h : bo_Ck i = true) : o_Ck i := h
theorem oc_Ck {i : Nat} (h : o_Ck i) : i = 26 := by
  simpa [o_Ck, bo_Ck, or_assoc] using h
theorem lt_Ck {i : Nat} (h : o_Ck i) : i < 2 ^ 31 := by
  have := oc_Ck h
  omega
theorem sh_Ck {i : Nat} (h : o_Ck i) : Y0.1 i = .inr (5, [some (some (i + 1)), none]) ∧ i < Y0.2.1 := by
  rcases oc_Ck h with rfl <;> exact ⟨rfl, by decide⟩
def bo_Ma (i : Nat) : Bool := i == 32
def o_Ma (i : Nat) : Prop := bo_Ma i = true
theorem ob_Ma {i : Nat} (h : bo_Ma i = true) : o_Ma i := h
theorem oc_Ma {i : Nat} (h : o_Ma i) : i = 32 := by
  simpa [o_Ma, bo_Ma, or_assoc] using h
theorem lt_Ma {i : Nat} (h : o_Ma i) : i < 2 ^ 31 := by
  have := oc_Ma h
  omega
theorem sh_Ma {i : Nat} (h : o_Ma i) : Y0.1 i = .inr (6, [none, none, some (some (i + 1)), some (some (i + 22)), some (some (i + 23)), none, some (some (i + 24)), some (some (i + 25)), none]) ∧ i < Y0.2.1 := by
  rcases oc_Ma h with rfl <;> exact ⟨rfl, by decide⟩
def bo_Mo (i : Nat) : Bool := i == 58
def o_Mo (i : Nat) : Prop := bo_Mo i = true
theorem ob_Mo {i : Nat} (h : bo_Mo i = true) : o_Mo i := h
theorem oc_Mo {i : Nat} (h : o_Mo i) : i = 58 := by
  simpa [o_Mo, bo_Mo, or_assoc] using h
theorem lt_Mo {i : Nat} (h : o_Mo i) : i < 2 ^ 31 := by
  have := oc_Mo h
  omega
theorem sh_Mo {i : Nat} (h : o_Mo i) : Y0.1 i = .inr (7, [none, none, some (some (i + 1)), none, none, none, none, some (some (i + 2)), none, none, none, none, none, none, some (some (i + 3)), some (some (i + 4)), some (some (i + 5)), some (some (i + 6)), some (some (i + 7)), some (some (i + 8)), some (some (i + 9)), none, none, none, some (some (i + 10)), some (some (i + 11)), none, none]) ∧ i < Y0.2.1 := by
  rcases oc_Mo h with rfl <;> exact ⟨rfl, by decide⟩
def oA (k n i : Nat) : Prop := i < Y0.2.1 ∧ Y0.1 i = .inl (k, n, fun z => z)
theorem ar_VC_typed {i : Nat} (h : o_VC i) : oA 0 240 (i + 1) := by
  rcases oc_VC h with rfl <;> exact ⟨by decide, rfl⟩
theorem ro_VC_reader {i : Nat} (h : o_VC i) : o_Rd (i + 24) := by
  rcases oc_VC h with rfl <;> rfl
theorem ro_VC_checker {i : Nat} (h : o_VC i) : o_Ck (i + 26) := by
  rcases oc_VC h with rfl <;> rfl
theorem ro_VC_machine {i : Nat} (h : o_VC i) : o_Ma (i + 32) := by
  rcases oc_VC h with rfl <;> rfl
theorem ar_Pr_file {i : Nat} (h : o_Pr i) : oA 0 240 (i + 1) := by
  rcases oc_Pr h with rfl | rfl <;> exact ⟨by decide, rfl⟩
theorem pa_Pr_parts {i : Nat} (h : o_Pr i) : i + 2 < Y0.2.1 ∧ Y0.1 (i + 2) = .inl (2, 4, fun k => i + 3 + 2 * k) := by
  rcases oc_Pr h with rfl | rfl <;> exact ⟨by decide, rfl⟩
theorem el_Pr_parts {i : Nat} (h : o_Pr i) {j : Int32} (hj : jj_inb j 4 = true) : o_Me (i + 3 + 2 * j.toNatClampNeg) := by
  have h1 := oc_Pr h
  simp only [jj_inb, Bool.and_eq_true, decide_eq_true_eq] at hj
  simp only [o_Me, bo_Me, Bool.or_eq_true, beq_iff_eq]
  omega
theorem ar_Me_framesAt {i : Nat} (h : o_Me i) : oA 0 8 (i + 1) := by
  rcases oc_Me h with rfl | rfl | rfl | rfl | rfl | rfl | rfl | rfl <;> exact ⟨by decide, rfl⟩
theorem ar_Rd_begins {i : Nat} (h : o_Rd i) : oA 1 60 (i + 1) := by
  rcases oc_Rd h with rfl <;> exact ⟨by decide, rfl⟩
theorem ar_St_placeKinds {i : Nat} (h : o_St i) : oA 0 6 (i + 1) := by
  rcases oc_St h with rfl | rfl | rfl | rfl | rfl <;> exact ⟨by decide, rfl⟩
theorem ar_St_placeValues {i : Nat} (h : o_St i) : oA 0 6 (i + 2) := by
  rcases oc_St h with rfl | rfl | rfl | rfl | rfl <;> exact ⟨by decide, rfl⟩
theorem ar_St_kinds {i : Nat} (h : o_St i) : oA 0 6 (i + 3) := by
  rcases oc_St h with rfl | rfl | rfl | rfl | rfl <;> exact ⟨by decide, rfl⟩
theorem ar_St_values {i : Nat} (h : o_St i) : oA 0 6 (i + 4) := by
  rcases oc_St h with rfl | rfl | rfl | rfl | rfl <;> exact ⟨by decide, rfl⟩
theorem ro_Ck_state {i : Nat} (h : o_Ck i) : o_St (i + 1) := by
  rcases oc_Ck h with rfl <;> rfl
theorem pa_Ma_states {i : Nat} (h : o_Ma i) : i + 1 < Y0.2.1 ∧ Y0.1 (i + 1) = .inl (3, 4, fun k => i + 2 + 5 * k) := by
  rcases oc_Ma h with rfl <;> exact ⟨by decide, rfl⟩
theorem el_Ma_states {i : Nat} (h : o_Ma i) {j : Int32} (hj : jj_inb j 4 = true) : o_St (i + 2 + 5 * j.toNatClampNeg) := by
  have h1 := oc_Ma h
  simp only [jj_inb, Bool.and_eq_true, decide_eq_true_eq] at hj
  simp only [o_St, bo_St, Bool.or_eq_true, beq_iff_eq]
  omega
theorem ar_Ma_running {i : Nat} (h : o_Ma i) : oA 0 4 (i + 22) := by
  rcases oc_Ma h with rfl <;> exact ⟨by decide, rfl⟩
theorem ar_Ma_offsets {i : Nat} (h : o_Ma i) : oA 0 4 (i + 23) := by
  rcases oc_Ma h with rfl <;> exact ⟨by decide, rfl⟩
theorem ar_Ma_elements {i : Nat} (h : o_Ma i) : oA 0 64 (i + 24) := by
  rcases oc_Ma h with rfl <;> exact ⟨by decide, rfl⟩
theorem ar_Ma_lengths {i : Nat} (h : o_Ma i) : oA 0 8 (i + 25) := by
  rcases oc_Ma h with rfl <;> exact ⟨by decide, rfl⟩
theorem ar_Mo_file {i : Nat} (h : o_Mo i) : oA 0 240 (i + 1) := by
  rcases oc_Mo h with rfl <;> exact ⟨by decide, rfl⟩
theorem ar_Mo_kept {i : Nat} (h : o_Mo i) : oA 0 240 (i + 2) := by
  rcases oc_Mo h with rfl <;> exact ⟨by decide, rfl⟩
theorem ar_Mo_placeKind {i : Nat} (h : o_Mo i) : oA 0 24 (i + 3) := by
  rcases oc_Mo h with rfl <;> exact ⟨by decide, rfl⟩
theorem ar_Mo_placeValue {i : Nat} (h : o_Mo i) : oA 0 24 (i + 4) := by
  rcases oc_Mo h with rfl <;> exact ⟨by decide, rfl⟩
theorem ar_Mo_stackKind {i : Nat} (h : o_Mo i) : oA 0 24 (i + 5) := by
  rcases oc_Mo h with rfl <;> exact ⟨by decide, rfl⟩
theorem ar_Mo_stackValue {i : Nat} (h : o_Mo i) : oA 0 24 (i + 6) := by
  rcases oc_Mo h with rfl <;> exact ⟨by decide, rfl⟩
theorem ar_Mo_height {i : Nat} (h : o_Mo i) : oA 0 4 (i + 7) := by
  rcases oc_Mo h with rfl <;> exact ⟨by decide, rfl⟩
theorem ar_Mo_where {i : Nat} (h : o_Mo i) : oA 0 4 (i + 8) := by
  rcases oc_Mo h with rfl <;> exact ⟨by decide, rfl⟩
theorem ar_Mo_which {i : Nat} (h : o_Mo i) : oA 0 4 (i + 9) := by
  rcases oc_Mo h with rfl <;> exact ⟨by decide, rfl⟩
theorem ar_Mo_rowSize {i : Nat} (h : o_Mo i) : oA 0 8 (i + 10) := by
  rcases oc_Mo h with rfl <;> exact ⟨by decide, rfl⟩
theorem ar_Mo_cells {i : Nat} (h : o_Mo i) : oA 0 64 (i + 11) := by
  rcases oc_Mo h with rfl <;> exact ⟨by decide, rfl⟩
def boA (k n i : Nat) : Bool := match k, n with
  | 0, 240 => i == 1
  | _, _ => false
theorem ob_A {k n i : Nat} (h : boA k n i = true) : oA k n i := by
  unfold boA at h
  split at h
  · have e : i = 1 := by simpa using h
    subst e
    exact ⟨by decide, rfl⟩
  · cases h
theorem jc_a_m1 (u : Int32) : u + Int32.ofInt (-1) = u + (-1) := rfl
theorem jc_a_1 (u : Int32) : u + Int32.ofInt 1 = u + 1 := rfl
theorem jc_b_6 : (Int8.ofInt 6).toInt32 = 6 := by decide
theorem jc_b_7 : (Int8.ofInt 7).toInt32 = 7 := by decide
theorem jc_b_8 : (Int8.ofInt 8).toInt32 = 8 := by decide
theorem jc_b_16 : (Int8.ofInt 16).toInt32 = 16 := by decide
theorem jc_b_18 : (Int8.ofInt 18).toInt32 = 18 := by decide
theorem jc_b_21 : (Int8.ofInt 21).toInt32 = 21 := by decide
theorem jc_b_24 : (Int8.ofInt 24).toInt32 = 24 := by decide
theorem jc_b_25 : (Int8.ofInt 25).toInt32 = 25 := by decide
theorem jc_b_46 : (Int8.ofInt 46).toInt32 = 46 := by decide
theorem jc_b_54 : (Int8.ofInt 54).toInt32 = 54 := by decide
theorem jc_b_58 : (Int8.ofInt 58).toInt32 = 58 := by decide
theorem jc_b_60 : (Int8.ofInt 60).toInt32 = 60 := by decide
theorem jc_b_79 : (Int8.ofInt 79).toInt32 = 79 := by decide
theorem jc_b_89 : (Int8.ofInt 89).toInt32 = 89 := by decide
theorem jc_b_95 : (Int8.ofInt 95).toInt32 = 95 := by decide
theorem jc_b_108 : (Int8.ofInt 108).toInt32 = 108 := by decide
theorem jc_b_127 : (Int8.ofInt 127).toInt32 = 127 := by decide
theorem jc_i_m1 : Int32.ofInt (-1) = (-1) := by decide
theorem jc_i_0 : Int32.ofInt 0 = 0 := by decide
theorem jc_i_1 : Int32.ofInt 1 = 1 := by decide
theorem jc_i_2 : Int32.ofInt 2 = 2 := by decide
theorem jc_i_3 : Int32.ofInt 3 = 3 := by decide
theorem jc_i_4 : Int32.ofInt 4 = 4 := by decide
theorem jc_i_5 : Int32.ofInt 5 = 5 := by decide
theorem jc_s_128 : (Int16.ofInt 128).toInt32 = 128 := by decide
theorem jc_s_132 : (Int16.ofInt 132).toInt32 = 132 := by decide
theorem jc_s_153 : (Int16.ofInt 153).toInt32 = 153 := by decide
theorem jc_s_158 : (Int16.ofInt 158).toInt32 = 158 := by decide
theorem jc_s_159 : (Int16.ofInt 159).toInt32 = 159 := by decide
theorem jc_s_167 : (Int16.ofInt 167).toInt32 = 167 := by decide
theorem jc_s_172 : (Int16.ofInt 172).toInt32 = 172 := by decide
theorem jc_s_176 : (Int16.ofInt 176).toInt32 = 176 := by decide
theorem jc_s_177 : (Int16.ofInt 177).toInt32 = 177 := by decide
theorem jc_s_184 : (Int16.ofInt 184).toInt32 = 184 := by decide
theorem jc_s_188 : (Int16.ofInt 188).toInt32 = 188 := by decide
theorem jc_s_190 : (Int16.ofInt 190).toInt32 = 190 := by decide
theorem jc_s_198 : (Int16.ofInt 198).toInt32 = 198 := by decide
theorem jc_s_199 : (Int16.ofInt 199).toInt32 = 199 := by decide
theorem jc_s_200 : (Int16.ofInt 200).toInt32 = 200 := by decide
theorem jc_s_202 : (Int16.ofInt 202).toInt32 = 202 := by decide
theorem jc_s_240 : (Int16.ofInt 240).toInt32 = 240 := by decide
theorem jc_s_255 : (Int16.ofInt 255).toInt32 = 255 := by decide
theorem jc_s_256 : (Int16.ofInt 256).toInt32 = 256 := by decide
theorem jc_s_32767 : (Int16.ofInt 32767).toInt32 = 32767 := by decide
end
section
theorem ji_VC : ∀ w ∈ u_ws jR_VC jF_VC 7, w ∈ j_W := jj_all 7 (fun k hk => by
  match k, hk with
  | 0, _ => exact (jw_1 (List.mem_of_getElem? (i := 215) rfl) rfl)
  | 1, _ => exact (jw_1 (List.mem_of_getElem? (i := 217) rfl) rfl)
  | 2, _ => exact (jw_1 (List.mem_of_getElem? (i := 219) rfl) rfl)
  | 3, _ => exact (jw_1 (List.mem_of_getElem? (i := 221) rfl) rfl)
  | 4, _ => exact (jw_1 (List.mem_of_getElem? (i := 223) rfl) rfl)
  | 5, _ => exact (jw_1 (List.mem_of_getElem? (i := 225) rfl) rfl)
  | 6, _ => exact (jw_1 (List.mem_of_getElem? (i := 227) rfl) rfl)
  | _ + 7, hk => exact absurd hk (by omega))
theorem ji_Pr : ∀ w ∈ u_ws jR_Pr jF_Pr 6, w ∈ j_W := jj_all 6 (fun k hk => by
  match k, hk with
  | 0, _ => exact (jw_1 (List.mem_of_getElem? (i := 99) rfl) rfl)
  | 1, _ => exact (jw_1 (List.mem_of_getElem? (i := 101) rfl) rfl)
  | 2, _ => exact (jw_1 (List.mem_of_getElem? (i := 103) rfl) rfl)
  | 3, _ => exact (jw_1 (List.mem_of_getElem? (i := 105) rfl) rfl)
  | 4, _ => exact (jw_1 (List.mem_of_getElem? (i := 107) rfl) rfl)
  | 5, _ => exact (jw_1 (List.mem_of_getElem? (i := 109) rfl) rfl)
  | _ + 6, hk => exact absurd hk (by omega))
theorem ji_Me : ∀ w ∈ u_ws jR_Me jF_Me 9, w ∈ j_W := jj_all 9 (fun k hk => by
  match k, hk with
  | 0, _ => exact (jw_1 (List.mem_of_getElem? (i := 64) rfl) rfl)
  | 1, _ => exact (jw_1 (List.mem_of_getElem? (i := 66) rfl) rfl)
  | 2, _ => exact (jw_1 (List.mem_of_getElem? (i := 68) rfl) rfl)
  | 3, _ => exact (jw_1 (List.mem_of_getElem? (i := 70) rfl) rfl)
  | 4, _ => exact (jw_1 (List.mem_of_getElem? (i := 72) rfl) rfl)
  | 5, _ => exact (jw_1 (List.mem_of_getElem? (i := 74) rfl) rfl)
  | 6, _ => exact (jw_1 (List.mem_of_getElem? (i := 76) rfl) rfl)
  | 7, _ => exact (jw_1 (List.mem_of_getElem? (i := 78) rfl) rfl)
  | 8, _ => exact (jw_1 (List.mem_of_getElem? (i := 80) rfl) rfl)
  | _ + 9, hk => exact absurd hk (by omega))
theorem ji_Rd : ∀ w ∈ u_ws jR_Rd jF_Rd 3, w ∈ j_W := jj_all 3 (fun k hk => by
  match k, hk with
  | 0, _ => exact (jw_1 (List.mem_of_getElem? (i := 122) rfl) rfl)
  | 1, _ => exact (jw_1 (List.mem_of_getElem? (i := 124) rfl) rfl)
  | 2, _ => exact (jw_1 (List.mem_of_getElem? (i := 126) rfl) rfl)
  | _ + 3, hk => exact absurd hk (by omega))
theorem ji_St : ∀ w ∈ u_ws jR_St jF_St 5, w ∈ j_W := jj_all 5 (fun k hk => by
  match k, hk with
  | 0, _ => exact (jw_1 (List.mem_of_getElem? (i := 151) rfl) rfl)
  | 1, _ => exact (jw_1 (List.mem_of_getElem? (i := 153) rfl) rfl)
  | 2, _ => exact (jw_1 (List.mem_of_getElem? (i := 155) rfl) rfl)
  | 3, _ => exact (jw_1 (List.mem_of_getElem? (i := 157) rfl) rfl)
  | 4, _ => exact (jw_1 (List.mem_of_getElem? (i := 159) rfl) rfl)
  | _ + 5, hk => exact absurd hk (by omega))
theorem ji_Ck : ∀ w ∈ u_ws jR_Ck jF_Ck 2, w ∈ j_W := jj_all 2 (fun k hk => by
  match k, hk with
  | 0, _ => exact (jw_1 (List.mem_of_getElem? (i := 164) rfl) rfl)
  | 1, _ => exact (jw_1 (List.mem_of_getElem? (i := 166) rfl) rfl)
  | _ + 2, hk => exact absurd hk (by omega))
theorem ji_Ma : ∀ w ∈ u_ws jR_Ma jF_Ma 9, w ∈ j_W := jj_all 9 (fun k hk => by
  match k, hk with
  | 0, _ => exact (jw_1 (List.mem_of_getElem? (i := 189) rfl) rfl)
  | 1, _ => exact (jw_1 (List.mem_of_getElem? (i := 191) rfl) rfl)
  | 2, _ => exact (jw_1 (List.mem_of_getElem? (i := 193) rfl) rfl)
  | 3, _ => exact (jw_1 (List.mem_of_getElem? (i := 195) rfl) rfl)
  | 4, _ => exact (jw_1 (List.mem_of_getElem? (i := 197) rfl) rfl)
  | 5, _ => exact (jw_1 (List.mem_of_getElem? (i := 199) rfl) rfl)
  | 6, _ => exact (jw_1 (List.mem_of_getElem? (i := 201) rfl) rfl)
  | 7, _ => exact (jw_1 (List.mem_of_getElem? (i := 203) rfl) rfl)
  | 8, _ => exact (jw_1 (List.mem_of_getElem? (i := 205) rfl) rfl)
  | _ + 9, hk => exact absurd hk (by omega))
theorem ji_Mo : ∀ w ∈ u_ws jR_Mo jF_Mo 28, w ∈ j_W := jj_all 28 (fun k hk => by
  match k, hk with
  | 0, _ => exact (jw_4 (List.mem_of_getElem? (i := 56) rfl) rfl)
  | 1, _ => exact (jw_4 (List.mem_of_getElem? (i := 58) rfl) rfl)
  | 2, _ => exact (jw_4 (List.mem_of_getElem? (i := 60) rfl) rfl)
  | 3, _ => exact (jw_4 (List.mem_of_getElem? (i := 62) rfl) rfl)
  | 4, _ => exact (jw_4 (List.mem_of_getElem? (i := 64) rfl) rfl)
  | 5, _ => exact (jw_4 (List.mem_of_getElem? (i := 66) rfl) rfl)
  | 6, _ => exact (jw_4 (List.mem_of_getElem? (i := 68) rfl) rfl)
  | 7, _ => exact (jw_4 (List.mem_of_getElem? (i := 70) rfl) rfl)
  | 8, _ => exact (jw_4 (List.mem_of_getElem? (i := 72) rfl) rfl)
  | 9, _ => exact (jw_4 (List.mem_of_getElem? (i := 74) rfl) rfl)
  | 10, _ => exact (jw_4 (List.mem_of_getElem? (i := 76) rfl) rfl)
  | 11, _ => exact (jw_4 (List.mem_of_getElem? (i := 78) rfl) rfl)
  | 12, _ => exact (jw_4 (List.mem_of_getElem? (i := 80) rfl) rfl)
  | 13, _ => exact (jw_4 (List.mem_of_getElem? (i := 82) rfl) rfl)
  | 14, _ => exact (jw_4 (List.mem_of_getElem? (i := 84) rfl) rfl)
  | 15, _ => exact (jw_4 (List.mem_of_getElem? (i := 86) rfl) rfl)
  | 16, _ => exact (jw_4 (List.mem_of_getElem? (i := 88) rfl) rfl)
  | 17, _ => exact (jw_4 (List.mem_of_getElem? (i := 90) rfl) rfl)
  | 18, _ => exact (jw_4 (List.mem_of_getElem? (i := 92) rfl) rfl)
  | 19, _ => exact (jw_4 (List.mem_of_getElem? (i := 94) rfl) rfl)
  | 20, _ => exact (jw_4 (List.mem_of_getElem? (i := 96) rfl) rfl)
  | 21, _ => exact (jw_4 (List.mem_of_getElem? (i := 98) rfl) rfl)
  | 22, _ => exact (jw_4 (List.mem_of_getElem? (i := 100) rfl) rfl)
  | 23, _ => exact (jw_4 (List.mem_of_getElem? (i := 102) rfl) rfl)
  | 24, _ => exact (jw_4 (List.mem_of_getElem? (i := 104) rfl) rfl)
  | 25, _ => exact (jw_4 (List.mem_of_getElem? (i := 106) rfl) rfl)
  | 26, _ => exact (jw_4 (List.mem_of_getElem? (i := 108) rfl) rfl)
  | 27, _ => exact (jw_4 (List.mem_of_getElem? (i := 110) rfl) rfl)
  | _ + 28, hk => exact absurd hk (by omega))
theorem fk_Ck_103 : jj_fk Y0 "VerifiedCode$Checker" 103 4 0 := ⟨jR_St, jF_St, 5, rfl, by decide, ji_St, (jw_1 (List.mem_of_getElem? (i := 143) rfl) rfl)⟩
theorem fk_Ck_111 : jj_fk Y0 "VerifiedCode$Checker" 111 4 2 := ⟨jR_St, jF_St, 5, rfl, by decide, ji_St, (jw_1 (List.mem_of_getElem? (i := 147) rfl) rfl)⟩
theorem fk_Ck_12 : jj_fk Y0 "VerifiedCode$Checker" 12 5 0 := ⟨jR_Ck, jF_Ck, 2, rfl, by decide, ji_Ck, (jw_1 (List.mem_of_getElem? (i := 162) rfl) rfl)⟩
theorem fk_Ck_150 : jj_fk Y0 "VerifiedCode$Checker" 150 2 2 := ⟨jR_Me, jF_Me, 9, rfl, by decide, ji_Me, (jw_1 (List.mem_of_getElem? (i := 45) rfl) rfl)⟩
theorem fk_Ck_21 : jj_fk Y0 "VerifiedCode$Checker" 21 2 0 := ⟨jR_Me, jF_Me, 9, rfl, by decide, ji_Me, (jw_1 (List.mem_of_getElem? (i := 39) rfl) rfl)⟩
theorem fk_Ck_37 : jj_fk Y0 "VerifiedCode$Checker" 37 5 1 := ⟨jR_Ck, jF_Ck, 2, rfl, by decide, ji_Ck, (jw_1 (List.mem_of_getElem? (i := 163) rfl) rfl)⟩
theorem fk_Ck_41 : jj_fk Y0 "VerifiedCode$Checker" 41 2 6 := ⟨jR_Me, jF_Me, 9, rfl, by decide, ji_Me, (jw_1 (List.mem_of_getElem? (i := 56) rfl) rfl)⟩
theorem fk_Ck_83 : jj_fk Y0 "VerifiedCode$Checker" 83 2 4 := ⟨jR_Me, jF_Me, 9, rfl, by decide, ji_Me, (jw_1 (List.mem_of_getElem? (i := 51) rfl) rfl)⟩
theorem fk_Ck_90 : jj_fk Y0 "VerifiedCode$Checker" 90 4 4 := ⟨jR_St, jF_St, 5, rfl, by decide, ji_St, (jw_1 (List.mem_of_getElem? (i := 150) rfl) rfl)⟩
theorem fk_Ma_11 : jj_fk Y0 "VerifiedCode$Machine" 11 6 2 := ⟨jR_Ma, jF_Ma, 9, rfl, by decide, ji_Ma, (jw_1 (List.mem_of_getElem? (i := 182) rfl) rfl)⟩
theorem fk_Ma_173 : jj_fk Y0 "VerifiedCode$Machine" 173 4 1 := ⟨jR_St, jF_St, 5, rfl, by decide, ji_St, (jw_1 (List.mem_of_getElem? (i := 145) rfl) rfl)⟩
theorem fk_Ma_18 : jj_fk Y0 "VerifiedCode$Machine" 18 6 3 := ⟨jR_Ma, jF_Ma, 9, rfl, by decide, ji_Ma, (jw_1 (List.mem_of_getElem? (i := 183) rfl) rfl)⟩
theorem fk_Ma_22 : jj_fk Y0 "VerifiedCode$Machine" 22 6 4 := ⟨jR_Ma, jF_Ma, 9, rfl, by decide, ji_Ma, (jw_1 (List.mem_of_getElem? (i := 184) rfl) rfl)⟩
theorem fk_Ma_25 : jj_fk Y0 "VerifiedCode$Machine" 25 6 6 := ⟨jR_Ma, jF_Ma, 9, rfl, by decide, ji_Ma, (jw_1 (List.mem_of_getElem? (i := 186) rfl) rfl)⟩
theorem fk_Ma_28 : jj_fk Y0 "VerifiedCode$Machine" 28 6 7 := ⟨jR_Ma, jF_Ma, 9, rfl, by decide, ji_Ma, (jw_1 (List.mem_of_getElem? (i := 187) rfl) rfl)⟩
theorem fk_Ma_31 : jj_fk Y0 "VerifiedCode$Machine" 31 6 1 := ⟨jR_Ma, jF_Ma, 9, rfl, by decide, ji_Ma, (jw_1 (List.mem_of_getElem? (i := 180) rfl) rfl)⟩
theorem fk_Ma_35 : jj_fk Y0 "VerifiedCode$Machine" 35 6 8 := ⟨jR_Ma, jF_Ma, 9, rfl, by decide, ji_Ma, (jw_1 (List.mem_of_getElem? (i := 188) rfl) rfl)⟩
theorem fk_Ma_38 : jj_fk Y0 "VerifiedCode$Machine" 38 6 5 := ⟨jR_Ma, jF_Ma, 9, rfl, by decide, ji_Ma, (jw_1 (List.mem_of_getElem? (i := 185) rfl) rfl)⟩
theorem fk_Ma_45 : jj_fk Y0 "VerifiedCode$Machine" 45 1 5 := ⟨jR_Pr, jF_Pr, 6, rfl, by decide, ji_Pr, (jw_1 (List.mem_of_getElem? (i := 96) rfl) rfl)⟩
theorem fk_Ma_51 : jj_fk Y0 "VerifiedCode$Machine" 51 2 0 := ⟨jR_Me, jF_Me, 9, rfl, by decide, ji_Me, (jw_1 (List.mem_of_getElem? (i := 40) rfl) rfl)⟩
theorem fk_Ma_79 : jj_fk Y0 "VerifiedCode$Machine" 79 2 6 := ⟨jR_Me, jF_Me, 9, rfl, by decide, ji_Me, (jw_1 (List.mem_of_getElem? (i := 57) rfl) rfl)⟩
theorem fk_Pr_17 : jj_fk Y0 "VerifiedCode$Program" 17 1 5 := ⟨jR_Pr, jF_Pr, 6, rfl, by decide, ji_Pr, (jw_1 (List.mem_of_getElem? (i := 95) rfl) rfl)⟩
theorem fk_Pr_32 : jj_fk Y0 "VerifiedCode$Program" 32 1 3 := ⟨jR_Pr, jF_Pr, 6, rfl, by decide, ji_Pr, (jw_1 (List.mem_of_getElem? (i := 91) rfl) rfl)⟩
theorem fk_Pr_35 : jj_fk Y0 "VerifiedCode$Program" 35 2 1 := ⟨jR_Me, jF_Me, 9, rfl, by decide, ji_Me, (jw_1 (List.mem_of_getElem? (i := 43) rfl) rfl)⟩
theorem fk_Pr_38 : jj_fk Y0 "VerifiedCode$Program" 38 2 5 := ⟨jR_Me, jF_Me, 9, rfl, by decide, ji_Me, (jw_1 (List.mem_of_getElem? (i := 54) rfl) rfl)⟩
theorem fk_Pr_47 : jj_fk Y0 "VerifiedCode$Program" 47 2 8 := ⟨jR_Me, jF_Me, 9, rfl, by decide, ji_Me, (jw_1 (List.mem_of_getElem? (i := 62) rfl) rfl)⟩
theorem fk_Pr_50 : jj_fk Y0 "VerifiedCode$Program" 50 2 4 := ⟨jR_Me, jF_Me, 9, rfl, by decide, ji_Me, (jw_1 (List.mem_of_getElem? (i := 53) rfl) rfl)⟩
theorem fk_Pr_53 : jj_fk Y0 "VerifiedCode$Program" 53 2 7 := ⟨jR_Me, jF_Me, 9, rfl, by decide, ji_Me, (jw_1 (List.mem_of_getElem? (i := 60) rfl) rfl)⟩
theorem fk_Pr_65 : jj_fk Y0 "VerifiedCode$Program" 65 2 0 := ⟨jR_Me, jF_Me, 9, rfl, by decide, ji_Me, (jw_1 (List.mem_of_getElem? (i := 42) rfl) rfl)⟩
theorem fk_Pr_79 : jj_fk Y0 "VerifiedCode$Program" 79 2 2 := ⟨jR_Me, jF_Me, 9, rfl, by decide, ji_Me, (jw_1 (List.mem_of_getElem? (i := 48) rfl) rfl)⟩
theorem fk_Pr_9 : jj_fk Y0 "VerifiedCode$Program" 9 1 0 := ⟨jR_Pr, jF_Pr, 6, rfl, by decide, ji_Pr, (jw_1 (List.mem_of_getElem? (i := 84) rfl) rfl)⟩
theorem fk_Rd_116 : jj_fk Y0 "VerifiedCode$Reader" 116 2 7 := ⟨jR_Me, jF_Me, 9, rfl, by decide, ji_Me, (jw_1 (List.mem_of_getElem? (i := 59) rfl) rfl)⟩
theorem fk_Rd_119 : jj_fk Y0 "VerifiedCode$Reader" 119 2 8 := ⟨jR_Me, jF_Me, 9, rfl, by decide, ji_Me, (jw_1 (List.mem_of_getElem? (i := 63) rfl) rfl)⟩
theorem fk_Rd_15 : jj_fk Y0 "VerifiedCode$Reader" 15 3 0 := ⟨jR_Rd, jF_Rd, 3, rfl, by decide, ji_Rd, (jw_1 (List.mem_of_getElem? (i := 118) rfl) rfl)⟩
theorem fk_Rd_27 : jj_fk Y0 "VerifiedCode$Reader" 27 3 1 := ⟨jR_Rd, jF_Rd, 3, rfl, by decide, ji_Rd, (jw_1 (List.mem_of_getElem? (i := 120) rfl) rfl)⟩
theorem fk_Rd_30 : jj_fk Y0 "VerifiedCode$Reader" 30 1 4 := ⟨jR_Pr, jF_Pr, 6, rfl, by decide, ji_Pr, (jw_1 (List.mem_of_getElem? (i := 93) rfl) rfl)⟩
theorem fk_Rd_35 : jj_fk Y0 "VerifiedCode$Reader" 35 1 5 := ⟨jR_Pr, jF_Pr, 6, rfl, by decide, ji_Pr, (jw_1 (List.mem_of_getElem? (i := 97) rfl) rfl)⟩
theorem fk_Rd_43 : jj_fk Y0 "VerifiedCode$Reader" 43 1 1 := ⟨jR_Pr, jF_Pr, 6, rfl, by decide, ji_Pr, (jw_1 (List.mem_of_getElem? (i := 88) rfl) rfl)⟩
theorem fk_Rd_46 : jj_fk Y0 "VerifiedCode$Reader" 46 1 0 := ⟨jR_Pr, jF_Pr, 6, rfl, by decide, ji_Pr, (jw_1 (List.mem_of_getElem? (i := 85) rfl) rfl)⟩
theorem fk_Rd_50 : jj_fk Y0 "VerifiedCode$Reader" 50 1 2 := ⟨jR_Pr, jF_Pr, 6, rfl, by decide, ji_Pr, (jw_1 (List.mem_of_getElem? (i := 90) rfl) rfl)⟩
theorem fk_Rd_75 : jj_fk Y0 "VerifiedCode$Reader" 75 2 0 := ⟨jR_Me, jF_Me, 9, rfl, by decide, ji_Me, (jw_1 (List.mem_of_getElem? (i := 41) rfl) rfl)⟩
theorem fk_Rd_86 : jj_fk Y0 "VerifiedCode$Reader" 86 2 3 := ⟨jR_Me, jF_Me, 9, rfl, by decide, ji_Me, (jw_1 (List.mem_of_getElem? (i := 49) rfl) rfl)⟩
theorem fk_Rd_89 : jj_fk Y0 "VerifiedCode$Reader" 89 2 4 := ⟨jR_Me, jF_Me, 9, rfl, by decide, ji_Me, (jw_1 (List.mem_of_getElem? (i := 52) rfl) rfl)⟩
theorem fk_Rd_9 : jj_fk Y0 "VerifiedCode$Reader" 9 3 2 := ⟨jR_Rd, jF_Rd, 3, rfl, by decide, ji_Rd, (jw_1 (List.mem_of_getElem? (i := 121) rfl) rfl)⟩
theorem fk_Rd_92 : jj_fk Y0 "VerifiedCode$Reader" 92 2 6 := ⟨jR_Me, jF_Me, 9, rfl, by decide, ji_Me, (jw_1 (List.mem_of_getElem? (i := 58) rfl) rfl)⟩
theorem fk_Rd_95 : jj_fk Y0 "VerifiedCode$Reader" 95 2 5 := ⟨jR_Me, jF_Me, 9, rfl, by decide, ji_Me, (jw_1 (List.mem_of_getElem? (i := 55) rfl) rfl)⟩
theorem fk_St_15 : jj_fk Y0 "VerifiedCode$State" 15 4 1 := ⟨jR_St, jF_St, 5, rfl, by decide, ji_St, (jw_1 (List.mem_of_getElem? (i := 144) rfl) rfl)⟩
theorem fk_St_18 : jj_fk Y0 "VerifiedCode$State" 18 4 2 := ⟨jR_St, jF_St, 5, rfl, by decide, ji_St, (jw_1 (List.mem_of_getElem? (i := 146) rfl) rfl)⟩
theorem fk_St_21 : jj_fk Y0 "VerifiedCode$State" 21 4 3 := ⟨jR_St, jF_St, 5, rfl, by decide, ji_St, (jw_1 (List.mem_of_getElem? (i := 148) rfl) rfl)⟩
theorem fk_St_28 : jj_fk Y0 "VerifiedCode$State" 28 4 4 := ⟨jR_St, jF_St, 5, rfl, by decide, ji_St, (jw_1 (List.mem_of_getElem? (i := 149) rfl) rfl)⟩
theorem fk_St_73 : jj_fk Y0 "VerifiedCode$State" 73 2 2 := ⟨jR_Me, jF_Me, 9, rfl, by decide, ji_Me, (jw_1 (List.mem_of_getElem? (i := 47) rfl) rfl)⟩
theorem fk_St_84 : jj_fk Y0 "VerifiedCode$State" 84 2 3 := ⟨jR_Me, jF_Me, 9, rfl, by decide, ji_Me, (jw_1 (List.mem_of_getElem? (i := 50) rfl) rfl)⟩
theorem fk_St_9 : jj_fk Y0 "VerifiedCode$State" 9 4 0 := ⟨jR_St, jF_St, 5, rfl, by decide, ji_St, (jw_1 (List.mem_of_getElem? (i := 142) rfl) rfl)⟩
theorem fk_VC_113 : jj_fk Y0 "VerifiedCode" 113 6 0 := ⟨jR_Ma, jF_Ma, 9, rfl, by decide, ji_Ma, (jw_1 (List.mem_of_getElem? (i := 179) rfl) rfl)⟩
theorem fk_VC_116 : jj_fk Y0 "VerifiedCode" 116 6 1 := ⟨jR_Ma, jF_Ma, 9, rfl, by decide, ji_Ma, (jw_1 (List.mem_of_getElem? (i := 181) rfl) rfl)⟩
theorem fk_VC_16 : jj_fk Y0 "VerifiedCode" 16 0 2 := ⟨jR_VC, jF_VC, 7, rfl, by decide, ji_VC, (jw_1 (List.mem_of_getElem? (i := 210) rfl) rfl)⟩
theorem fk_VC_20 : jj_fk Y0 "VerifiedCode" 20 0 3 := ⟨jR_VC, jF_VC, 7, rfl, by decide, ji_VC, (jw_1 (List.mem_of_getElem? (i := 211) rfl) rfl)⟩
theorem fk_VC_26 : jj_fk Y0 "VerifiedCode" 26 0 4 := ⟨jR_VC, jF_VC, 7, rfl, by decide, ji_VC, (jw_1 (List.mem_of_getElem? (i := 212) rfl) rfl)⟩
theorem fk_VC_33 : jj_fk Y0 "VerifiedCode" 33 0 5 := ⟨jR_VC, jF_VC, 7, rfl, by decide, ji_VC, (jw_1 (List.mem_of_getElem? (i := 213) rfl) rfl)⟩
theorem fk_VC_40 : jj_fk Y0 "VerifiedCode" 40 0 6 := ⟨jR_VC, jF_VC, 7, rfl, by decide, ji_VC, (jw_1 (List.mem_of_getElem? (i := 214) rfl) rfl)⟩
theorem fk_VC_51 : jj_fk Y0 "VerifiedCode" 51 0 1 := ⟨jR_VC, jF_VC, 7, rfl, by decide, ji_VC, (jw_1 (List.mem_of_getElem? (i := 209) rfl) rfl)⟩
theorem fk_VC_75 : jj_fk Y0 "VerifiedCode" 75 3 0 := ⟨jR_Rd, jF_Rd, 3, rfl, by decide, ji_Rd, (jw_1 (List.mem_of_getElem? (i := 119) rfl) rfl)⟩
theorem fk_VC_78 : jj_fk Y0 "VerifiedCode" 78 1 4 := ⟨jR_Pr, jF_Pr, 6, rfl, by decide, ji_Pr, (jw_1 (List.mem_of_getElem? (i := 94) rfl) rfl)⟩
theorem fk_VC_83 : jj_fk Y0 "VerifiedCode" 83 1 0 := ⟨jR_Pr, jF_Pr, 6, rfl, by decide, ji_Pr, (jw_1 (List.mem_of_getElem? (i := 86) rfl) rfl)⟩
theorem fk_VC_86 : jj_fk Y0 "VerifiedCode" 86 1 1 := ⟨jR_Pr, jF_Pr, 6, rfl, by decide, ji_Pr, (jw_1 (List.mem_of_getElem? (i := 89) rfl) rfl)⟩
theorem fk_VC_9 : jj_fk Y0 "VerifiedCode" 9 0 0 := ⟨jR_VC, jF_VC, 7, rfl, by decide, ji_VC, (jw_1 (List.mem_of_getElem? (i := 208) rfl) rfl)⟩
theorem fk_VC_97 : jj_fk Y0 "VerifiedCode" 97 1 5 := ⟨jR_Pr, jF_Pr, 6, rfl, by decide, ji_Pr, (jw_1 (List.mem_of_getElem? (i := 98) rfl) rfl)⟩
theorem fk_Mo_102 : jj_fk Y0 "VerifiedCodeModel" 102 7 5 := ⟨jR_Mo, jF_Mo, 28, rfl, by decide, ji_Mo, (jw_4 (List.mem_of_getElem? (i := 33) rfl) rfl)⟩
theorem fk_Mo_105 : jj_fk Y0 "VerifiedCodeModel" 105 7 6 := ⟨jR_Mo, jF_Mo, 28, rfl, by decide, ji_Mo, (jw_4 (List.mem_of_getElem? (i := 34) rfl) rfl)⟩
theorem fk_Mo_124 : jj_fk Y0 "VerifiedCodeModel" 124 7 8 := ⟨jR_Mo, jF_Mo, 28, rfl, by decide, ji_Mo, (jw_4 (List.mem_of_getElem? (i := 36) rfl) rfl)⟩
theorem fk_Mo_127 : jj_fk Y0 "VerifiedCodeModel" 127 7 9 := ⟨jR_Mo, jF_Mo, 28, rfl, by decide, ji_Mo, (jw_4 (List.mem_of_getElem? (i := 37) rfl) rfl)⟩
theorem fk_Mo_13 : jj_fk Y0 "VerifiedCodeModel" 13 7 7 := ⟨jR_Mo, jF_Mo, 28, rfl, by decide, ji_Mo, (jw_4 (List.mem_of_getElem? (i := 35) rfl) rfl)⟩
theorem fk_Mo_130 : jj_fk Y0 "VerifiedCodeModel" 130 7 10 := ⟨jR_Mo, jF_Mo, 28, rfl, by decide, ji_Mo, (jw_4 (List.mem_of_getElem? (i := 38) rfl) rfl)⟩
theorem fk_Mo_133 : jj_fk Y0 "VerifiedCodeModel" 133 7 11 := ⟨jR_Mo, jF_Mo, 28, rfl, by decide, ji_Mo, (jw_4 (List.mem_of_getElem? (i := 39) rfl) rfl)⟩
theorem fk_Mo_136 : jj_fk Y0 "VerifiedCodeModel" 136 7 12 := ⟨jR_Mo, jF_Mo, 28, rfl, by decide, ji_Mo, (jw_4 (List.mem_of_getElem? (i := 40) rfl) rfl)⟩
theorem fk_Mo_139 : jj_fk Y0 "VerifiedCodeModel" 139 7 13 := ⟨jR_Mo, jF_Mo, 28, rfl, by decide, ji_Mo, (jw_4 (List.mem_of_getElem? (i := 41) rfl) rfl)⟩
theorem fk_Mo_16 : jj_fk Y0 "VerifiedCodeModel" 16 7 14 := ⟨jR_Mo, jF_Mo, 28, rfl, by decide, ji_Mo, (jw_4 (List.mem_of_getElem? (i := 42) rfl) rfl)⟩
theorem fk_Mo_163 : jj_fk Y0 "VerifiedCodeModel" 163 7 22 := ⟨jR_Mo, jF_Mo, 28, rfl, by decide, ji_Mo, (jw_4 (List.mem_of_getElem? (i := 50) rfl) rfl)⟩
theorem fk_Mo_19 : jj_fk Y0 "VerifiedCodeModel" 19 7 15 := ⟨jR_Mo, jF_Mo, 28, rfl, by decide, ji_Mo, (jw_4 (List.mem_of_getElem? (i := 43) rfl) rfl)⟩
theorem fk_Mo_204 : jj_fk Y0 "VerifiedCodeModel" 204 7 23 := ⟨jR_Mo, jF_Mo, 28, rfl, by decide, ji_Mo, (jw_4 (List.mem_of_getElem? (i := 51) rfl) rfl)⟩
theorem fk_Mo_210 : jj_fk Y0 "VerifiedCodeModel" 210 7 21 := ⟨jR_Mo, jF_Mo, 28, rfl, by decide, ji_Mo, (jw_4 (List.mem_of_getElem? (i := 49) rfl) rfl)⟩
theorem fk_Mo_212 : jj_fk Y0 "VerifiedCodeModel" 212 7 26 := ⟨jR_Mo, jF_Mo, 28, rfl, by decide, ji_Mo, (jw_4 (List.mem_of_getElem? (i := 54) rfl) rfl)⟩
theorem fk_Mo_22 : jj_fk Y0 "VerifiedCodeModel" 22 7 16 := ⟨jR_Mo, jF_Mo, 28, rfl, by decide, ji_Mo, (jw_4 (List.mem_of_getElem? (i := 44) rfl) rfl)⟩
theorem fk_Mo_237 : jj_fk Y0 "VerifiedCodeModel" 237 7 27 := ⟨jR_Mo, jF_Mo, 28, rfl, by decide, ji_Mo, (jw_4 (List.mem_of_getElem? (i := 55) rfl) rfl)⟩
theorem fk_Mo_25 : jj_fk Y0 "VerifiedCodeModel" 25 7 17 := ⟨jR_Mo, jF_Mo, 28, rfl, by decide, ji_Mo, (jw_4 (List.mem_of_getElem? (i := 45) rfl) rfl)⟩
theorem fk_Mo_28 : jj_fk Y0 "VerifiedCodeModel" 28 7 18 := ⟨jR_Mo, jF_Mo, 28, rfl, by decide, ji_Mo, (jw_4 (List.mem_of_getElem? (i := 46) rfl) rfl)⟩
theorem fk_Mo_31 : jj_fk Y0 "VerifiedCodeModel" 31 7 19 := ⟨jR_Mo, jF_Mo, 28, rfl, by decide, ji_Mo, (jw_4 (List.mem_of_getElem? (i := 47) rfl) rfl)⟩
theorem fk_Mo_34 : jj_fk Y0 "VerifiedCodeModel" 34 7 20 := ⟨jR_Mo, jF_Mo, 28, rfl, by decide, ji_Mo, (jw_4 (List.mem_of_getElem? (i := 48) rfl) rfl)⟩
theorem fk_Mo_37 : jj_fk Y0 "VerifiedCodeModel" 37 7 24 := ⟨jR_Mo, jF_Mo, 28, rfl, by decide, ji_Mo, (jw_4 (List.mem_of_getElem? (i := 52) rfl) rfl)⟩
theorem fk_Mo_40 : jj_fk Y0 "VerifiedCodeModel" 40 7 25 := ⟨jR_Mo, jF_Mo, 28, rfl, by decide, ji_Mo, (jw_4 (List.mem_of_getElem? (i := 53) rfl) rfl)⟩
theorem fk_Mo_43 : jj_fk Y0 "VerifiedCodeModel" 43 7 0 := ⟨jR_Mo, jF_Mo, 28, rfl, by decide, ji_Mo, (jw_4 (List.mem_of_getElem? (i := 28) rfl) rfl)⟩
theorem fk_Mo_61 : jj_fk Y0 "VerifiedCodeModel" 61 7 1 := ⟨jR_Mo, jF_Mo, 28, rfl, by decide, ji_Mo, (jw_4 (List.mem_of_getElem? (i := 29) rfl) rfl)⟩
theorem fk_Mo_64 : jj_fk Y0 "VerifiedCodeModel" 64 7 4 := ⟨jR_Mo, jF_Mo, 28, rfl, by decide, ji_Mo, (jw_4 (List.mem_of_getElem? (i := 32) rfl) rfl)⟩
theorem fk_Mo_68 : jj_fk Y0 "VerifiedCodeModel" 68 7 3 := ⟨jR_Mo, jF_Mo, 28, rfl, by decide, ji_Mo, (jw_4 (List.mem_of_getElem? (i := 31) rfl) rfl)⟩
theorem fk_Mo_7 : jj_fk Y0 "VerifiedCodeModel" 7 7 2 := ⟨jR_Mo, jF_Mo, 28, rfl, by decide, ji_Mo, (jw_4 (List.mem_of_getElem? (i := 30) rfl) rfl)⟩
theorem lc_Pr_45 : Cond.constant "VerifiedCode$Program" 45 32768 ∈ j_W := (jw_2 (List.mem_of_getElem? (i := 72) rfl) rfl)
theorem lc_Pr_46 : Cond.constant "VerifiedCode$Program" 46 65536 ∈ j_W := (jw_2 (List.mem_of_getElem? (i := 73) rfl) rfl)
theorem lc_Mo_83 : Cond.constant "VerifiedCodeModel" 83 65536 ∈ j_W := (jw_4 (List.mem_of_getElem? (i := 183) rfl) rfl)
theorem pk_VC_16 : jj_pk Y0 "VerifiedCode" 16 0 2 (.object "VerifiedCode$Program") := ⟨jR_VC, jF_VC, 7, jt_VC, rfl, by decide, ji_VC, (jw_1 (List.mem_of_getElem? (i := 210) rfl) rfl), jt_VC_ok, jn_VC, rfl, by decide +kernel⟩
theorem pk_VC_20 : jj_pk Y0 "VerifiedCode" 20 0 3 (.object "VerifiedCode$Program") := ⟨jR_VC, jF_VC, 7, jt_VC, rfl, by decide, ji_VC, (jw_1 (List.mem_of_getElem? (i := 211) rfl) rfl), jt_VC_ok, jn_VC, rfl, by decide +kernel⟩
theorem pk_VC_51 : jj_pk Y0 "VerifiedCode" 51 0 1 .int := ⟨jR_VC, jF_VC, 7, jt_VC, rfl, by decide, ji_VC, (jw_1 (List.mem_of_getElem? (i := 209) rfl) rfl), jt_VC_ok, jn_VC, rfl, by decide +kernel⟩
theorem pk_Ck_37 : jj_pk Y0 "VerifiedCode$Checker" 37 5 1 .boolean := ⟨jR_Ck, jF_Ck, 2, jt_Ck, rfl, by decide, ji_Ck, (jw_1 (List.mem_of_getElem? (i := 163) rfl) rfl), jt_Ck_ok, jn_Ck, rfl, by decide +kernel⟩
theorem pk_Ck_90 : jj_pk Y0 "VerifiedCode$Checker" 90 4 4 .int := ⟨jR_St, jF_St, 5, jt_St, rfl, by decide, ji_St, (jw_1 (List.mem_of_getElem? (i := 150) rfl) rfl), jt_St_ok, jn_St, rfl, by decide +kernel⟩
theorem pk_Ma_31 : jj_pk Y0 "VerifiedCode$Machine" 31 6 1 .int := ⟨jR_Ma, jF_Ma, 9, jt_Ma, rfl, by decide, ji_Ma, (jw_1 (List.mem_of_getElem? (i := 180) rfl) rfl), jt_Ma_ok, jn_Ma, rfl, by decide +kernel⟩
theorem pk_Ma_35 : jj_pk Y0 "VerifiedCode$Machine" 35 6 8 .int := ⟨jR_Ma, jF_Ma, 9, jt_Ma, rfl, by decide, ji_Ma, (jw_1 (List.mem_of_getElem? (i := 188) rfl) rfl), jt_Ma_ok, jn_Ma, rfl, by decide +kernel⟩
theorem pk_Ma_38 : jj_pk Y0 "VerifiedCode$Machine" 38 6 5 .int := ⟨jR_Ma, jF_Ma, 9, jt_Ma, rfl, by decide, ji_Ma, (jw_1 (List.mem_of_getElem? (i := 185) rfl) rfl), jt_Ma_ok, jn_Ma, rfl, by decide +kernel⟩
theorem pk_Ma_150 : jj_pk Y0 "VerifiedCode$Machine" 150 6 0 .int := ⟨jR_Ma, jF_Ma, 9, jt_Ma, rfl, by decide, ji_Ma, (jw_1 (List.mem_of_getElem? (i := 178) rfl) rfl), jt_Ma_ok, jn_Ma, rfl, by decide +kernel⟩
theorem pk_Pr_28 : jj_pk Y0 "VerifiedCode$Program" 28 1 1 .int := ⟨jR_Pr, jF_Pr, 6, jt_Pr, rfl, by decide, ji_Pr, (jw_1 (List.mem_of_getElem? (i := 87) rfl) rfl), jt_Pr_ok, jn_Pr, rfl, by decide +kernel⟩
theorem pk_Rd_15 : jj_pk Y0 "VerifiedCode$Reader" 15 3 0 .int := ⟨jR_Rd, jF_Rd, 3, jt_Rd, rfl, by decide, ji_Rd, (jw_1 (List.mem_of_getElem? (i := 118) rfl) rfl), jt_Rd_ok, jn_Rd, rfl, by decide +kernel⟩
theorem pk_Rd_27 : jj_pk Y0 "VerifiedCode$Reader" 27 3 1 .int := ⟨jR_Rd, jF_Rd, 3, jt_Rd, rfl, by decide, ji_Rd, (jw_1 (List.mem_of_getElem? (i := 120) rfl) rfl), jt_Rd_ok, jn_Rd, rfl, by decide +kernel⟩
theorem pk_Rd_30 : jj_pk Y0 "VerifiedCode$Reader" 30 1 4 .int := ⟨jR_Pr, jF_Pr, 6, jt_Pr, rfl, by decide, ji_Pr, (jw_1 (List.mem_of_getElem? (i := 93) rfl) rfl), jt_Pr_ok, jn_Pr, rfl, by decide +kernel⟩
theorem pk_Rd_50 : jj_pk Y0 "VerifiedCode$Reader" 50 1 2 .int := ⟨jR_Pr, jF_Pr, 6, jt_Pr, rfl, by decide, ji_Pr, (jw_1 (List.mem_of_getElem? (i := 90) rfl) rfl), jt_Pr_ok, jn_Pr, rfl, by decide +kernel⟩
theorem pk_Rd_53 : jj_pk Y0 "VerifiedCode$Reader" 53 1 3 .int := ⟨jR_Pr, jF_Pr, 6, jt_Pr, rfl, by decide, ji_Pr, (jw_1 (List.mem_of_getElem? (i := 92) rfl) rfl), jt_Pr_ok, jn_Pr, rfl, by decide +kernel⟩
theorem pk_Rd_75 : jj_pk Y0 "VerifiedCode$Reader" 75 2 0 .int := ⟨jR_Me, jF_Me, 9, jt_Me, rfl, by decide, ji_Me, (jw_1 (List.mem_of_getElem? (i := 41) rfl) rfl), jt_Me_ok, jn_Me, rfl, by decide +kernel⟩
theorem pk_Rd_80 : jj_pk Y0 "VerifiedCode$Reader" 80 2 1 .int := ⟨jR_Me, jF_Me, 9, jt_Me, rfl, by decide, ji_Me, (jw_1 (List.mem_of_getElem? (i := 44) rfl) rfl), jt_Me_ok, jn_Me, rfl, by decide +kernel⟩
theorem pk_Rd_83 : jj_pk Y0 "VerifiedCode$Reader" 83 2 2 .int := ⟨jR_Me, jF_Me, 9, jt_Me, rfl, by decide, ji_Me, (jw_1 (List.mem_of_getElem? (i := 46) rfl) rfl), jt_Me_ok, jn_Me, rfl, by decide +kernel⟩
theorem pk_Rd_86 : jj_pk Y0 "VerifiedCode$Reader" 86 2 3 .int := ⟨jR_Me, jF_Me, 9, jt_Me, rfl, by decide, ji_Me, (jw_1 (List.mem_of_getElem? (i := 49) rfl) rfl), jt_Me_ok, jn_Me, rfl, by decide +kernel⟩
theorem pk_Rd_89 : jj_pk Y0 "VerifiedCode$Reader" 89 2 4 .int := ⟨jR_Me, jF_Me, 9, jt_Me, rfl, by decide, ji_Me, (jw_1 (List.mem_of_getElem? (i := 52) rfl) rfl), jt_Me_ok, jn_Me, rfl, by decide +kernel⟩
theorem pk_Rd_92 : jj_pk Y0 "VerifiedCode$Reader" 92 2 6 .int := ⟨jR_Me, jF_Me, 9, jt_Me, rfl, by decide, ji_Me, (jw_1 (List.mem_of_getElem? (i := 58) rfl) rfl), jt_Me_ok, jn_Me, rfl, by decide +kernel⟩
theorem pk_Rd_95 : jj_pk Y0 "VerifiedCode$Reader" 95 2 5 .int := ⟨jR_Me, jF_Me, 9, jt_Me, rfl, by decide, ji_Me, (jw_1 (List.mem_of_getElem? (i := 55) rfl) rfl), jt_Me_ok, jn_Me, rfl, by decide +kernel⟩
theorem pk_Rd_116 : jj_pk Y0 "VerifiedCode$Reader" 116 2 7 .int := ⟨jR_Me, jF_Me, 9, jt_Me, rfl, by decide, ji_Me, (jw_1 (List.mem_of_getElem? (i := 59) rfl) rfl), jt_Me_ok, jn_Me, rfl, by decide +kernel⟩
theorem pk_St_28 : jj_pk Y0 "VerifiedCode$State" 28 4 4 .int := ⟨jR_St, jF_St, 5, jt_St, rfl, by decide, ji_St, (jw_1 (List.mem_of_getElem? (i := 149) rfl) rfl), jt_St_ok, jn_St, rfl, by decide +kernel⟩
theorem pk_Mo_43 : jj_pk Y0 "VerifiedCodeModel" 43 7 0 .int := ⟨jR_Mo, jF_Mo, 28, jt_Mo, rfl, by decide, ji_Mo, (jw_4 (List.mem_of_getElem? (i := 28) rfl) rfl), jt_Mo_ok, jn_Mo, rfl, by decide +kernel⟩
theorem pk_Mo_61 : jj_pk Y0 "VerifiedCodeModel" 61 7 1 .int := ⟨jR_Mo, jF_Mo, 28, jt_Mo, rfl, by decide, ji_Mo, (jw_4 (List.mem_of_getElem? (i := 29) rfl) rfl), jt_Mo_ok, jn_Mo, rfl, by decide +kernel⟩
theorem pk_Mo_64 : jj_pk Y0 "VerifiedCodeModel" 64 7 4 .boolean := ⟨jR_Mo, jF_Mo, 28, jt_Mo, rfl, by decide, ji_Mo, (jw_4 (List.mem_of_getElem? (i := 32) rfl) rfl), jt_Mo_ok, jn_Mo, rfl, by decide +kernel⟩
theorem pk_Mo_68 : jj_pk Y0 "VerifiedCodeModel" 68 7 3 .int := ⟨jR_Mo, jF_Mo, 28, jt_Mo, rfl, by decide, ji_Mo, (jw_4 (List.mem_of_getElem? (i := 31) rfl) rfl), jt_Mo_ok, jn_Mo, rfl, by decide +kernel⟩
theorem pk_Mo_102 : jj_pk Y0 "VerifiedCodeModel" 102 7 5 .boolean := ⟨jR_Mo, jF_Mo, 28, jt_Mo, rfl, by decide, ji_Mo, (jw_4 (List.mem_of_getElem? (i := 33) rfl) rfl), jt_Mo_ok, jn_Mo, rfl, by decide +kernel⟩
theorem pk_Mo_105 : jj_pk Y0 "VerifiedCodeModel" 105 7 6 .int := ⟨jR_Mo, jF_Mo, 28, jt_Mo, rfl, by decide, ji_Mo, (jw_4 (List.mem_of_getElem? (i := 34) rfl) rfl), jt_Mo_ok, jn_Mo, rfl, by decide +kernel⟩
theorem pk_Mo_124 : jj_pk Y0 "VerifiedCodeModel" 124 7 8 .int := ⟨jR_Mo, jF_Mo, 28, jt_Mo, rfl, by decide, ji_Mo, (jw_4 (List.mem_of_getElem? (i := 36) rfl) rfl), jt_Mo_ok, jn_Mo, rfl, by decide +kernel⟩
theorem pk_Mo_127 : jj_pk Y0 "VerifiedCodeModel" 127 7 9 .int := ⟨jR_Mo, jF_Mo, 28, jt_Mo, rfl, by decide, ji_Mo, (jw_4 (List.mem_of_getElem? (i := 37) rfl) rfl), jt_Mo_ok, jn_Mo, rfl, by decide +kernel⟩
theorem pk_Mo_130 : jj_pk Y0 "VerifiedCodeModel" 130 7 10 .int := ⟨jR_Mo, jF_Mo, 28, jt_Mo, rfl, by decide, ji_Mo, (jw_4 (List.mem_of_getElem? (i := 38) rfl) rfl), jt_Mo_ok, jn_Mo, rfl, by decide +kernel⟩
theorem pk_Mo_133 : jj_pk Y0 "VerifiedCodeModel" 133 7 11 .int := ⟨jR_Mo, jF_Mo, 28, jt_Mo, rfl, by decide, ji_Mo, (jw_4 (List.mem_of_getElem? (i := 39) rfl) rfl), jt_Mo_ok, jn_Mo, rfl, by decide +kernel⟩
theorem pk_Mo_136 : jj_pk Y0 "VerifiedCodeModel" 136 7 12 .int := ⟨jR_Mo, jF_Mo, 28, jt_Mo, rfl, by decide, ji_Mo, (jw_4 (List.mem_of_getElem? (i := 40) rfl) rfl), jt_Mo_ok, jn_Mo, rfl, by decide +kernel⟩
theorem pk_Mo_139 : jj_pk Y0 "VerifiedCodeModel" 139 7 13 .int := ⟨jR_Mo, jF_Mo, 28, jt_Mo, rfl, by decide, ji_Mo, (jw_4 (List.mem_of_getElem? (i := 41) rfl) rfl), jt_Mo_ok, jn_Mo, rfl, by decide +kernel⟩
theorem pk_Mo_163 : jj_pk Y0 "VerifiedCodeModel" 163 7 22 .boolean := ⟨jR_Mo, jF_Mo, 28, jt_Mo, rfl, by decide, ji_Mo, (jw_4 (List.mem_of_getElem? (i := 50) rfl) rfl), jt_Mo_ok, jn_Mo, rfl, by decide +kernel⟩
theorem pk_Mo_204 : jj_pk Y0 "VerifiedCodeModel" 204 7 23 .int := ⟨jR_Mo, jF_Mo, 28, jt_Mo, rfl, by decide, ji_Mo, (jw_4 (List.mem_of_getElem? (i := 51) rfl) rfl), jt_Mo_ok, jn_Mo, rfl, by decide +kernel⟩
theorem pk_Mo_210 : jj_pk Y0 "VerifiedCodeModel" 210 7 21 .int := ⟨jR_Mo, jF_Mo, 28, jt_Mo, rfl, by decide, ji_Mo, (jw_4 (List.mem_of_getElem? (i := 49) rfl) rfl), jt_Mo_ok, jn_Mo, rfl, by decide +kernel⟩
theorem pk_Mo_212 : jj_pk Y0 "VerifiedCodeModel" 212 7 26 .int := ⟨jR_Mo, jF_Mo, 28, jt_Mo, rfl, by decide, ji_Mo, (jw_4 (List.mem_of_getElem? (i := 54) rfl) rfl), jt_Mo_ok, jn_Mo, rfl, by decide +kernel⟩
theorem pk_Mo_237 : jj_pk Y0 "VerifiedCodeModel" 237 7 27 .int := ⟨jR_Mo, jF_Mo, 28, jt_Mo, rfl, by decide, ji_Mo, (jw_4 (List.mem_of_getElem? (i := 55) rfl) rfl), jt_Mo_ok, jn_Mo, rfl, by decide +kernel⟩
theorem cm_VC_isGoodFor : jj_cm Y0 m_VC_isGoodFor 2 := ⟨(jw_1 (List.mem_of_getElem? (i := 1) rfl) rfl), (jw_3 (List.mem_of_getElem? (i := 41) rfl) rfl), ⟨by decide, by decide, by decide +kernel⟩, by decide⟩
theorem cm_Ck_change : jj_cm Y0 m_Ck_change 3 := ⟨(jw_1 (List.mem_of_getElem? (i := 5) rfl) rfl), (jw_3 (List.mem_of_getElem? (i := 107) rfl) rfl), ⟨by decide, by decide, by decide +kernel⟩, by decide⟩
theorem cm_Ck_entersFrame : jj_cm Y0 m_Ck_entersFrame 3 := ⟨(jw_1 (List.mem_of_getElem? (i := 5) rfl) rfl), (jw_3 (List.mem_of_getElem? (i := 21) rfl) rfl), ⟨by decide, by decide, by decide +kernel⟩, by decide⟩
theorem cm_Ck_firstRefused : jj_cm Y0 m_Ck_firstRefused 2 := ⟨(jw_1 (List.mem_of_getElem? (i := 5) rfl) rfl), (jw_3 (List.mem_of_getElem? (i := 3) rfl) rfl), ⟨by decide, by decide, by decide +kernel⟩, by decide⟩
theorem cm_Ck_isGoodForFrame : jj_cm Y0 m_Ck_isGoodForFrame 3 := ⟨(jw_1 (List.mem_of_getElem? (i := 5) rfl) rfl), (jw_3 (List.mem_of_getElem? (i := 30) rfl) rfl), ⟨by decide, by decide, by decide +kernel⟩, by decide⟩
theorem cm_Ck_mayGoToTarget : jj_cm Y0 m_Ck_mayGoToTarget 3 := ⟨(jw_1 (List.mem_of_getElem? (i := 5) rfl) rfl), (jw_3 (List.mem_of_getElem? (i := 152) rfl) rfl), ⟨by decide, by decide, by decide +kernel⟩, by decide⟩
theorem cm_Ck_typePut : jj_cm Y0 m_Ck_typePut 3 := ⟨(jw_1 (List.mem_of_getElem? (i := 5) rfl) rfl), (jw_3 (List.mem_of_getElem? (i := 147) rfl) rfl), ⟨by decide, by decide, by decide +kernel⟩, by decide⟩
theorem cm_In_hasPlace : jj_cm Y0 m_In_hasPlace 1 := ⟨(jw_1 (List.mem_of_getElem? (i := 16) rfl) rfl), (jw_2 (List.mem_of_getElem? (i := 53) rfl) rfl), ⟨by decide, by decide, by decide +kernel⟩, by decide⟩
theorem cm_In_hasTarget : jj_cm Y0 m_In_hasTarget 1 := ⟨(jw_1 (List.mem_of_getElem? (i := 16) rfl) rfl), (jw_2 (List.mem_of_getElem? (i := 46) rfl) rfl), ⟨by decide, by decide, by decide +kernel⟩, by decide⟩
theorem cm_In_isReturn : jj_cm Y0 m_In_isReturn 1 := ⟨(jw_1 (List.mem_of_getElem? (i := 16) rfl) rfl), (jw_3 (List.mem_of_getElem? (i := 93) rfl) rfl), ⟨by decide, by decide, by decide +kernel⟩, by decide⟩
theorem cm_In_length : jj_cm Y0 m_In_length 1 := ⟨(jw_1 (List.mem_of_getElem? (i := 16) rfl) rfl), (jw_2 (List.mem_of_getElem? (i := 43) rfl) rfl), ⟨by decide, by decide, by decide +kernel⟩, by decide⟩
theorem cm_In_puts : jj_cm Y0 m_In_puts 1 := ⟨(jw_1 (List.mem_of_getElem? (i := 16) rfl) rfl), (jw_3 (List.mem_of_getElem? (i := 103) rfl) rfl), ⟨by decide, by decide, by decide +kernel⟩, by decide⟩
theorem cm_In_takes : jj_cm Y0 m_In_takes 1 := ⟨(jw_1 (List.mem_of_getElem? (i := 16) rfl) rfl), (jw_3 (List.mem_of_getElem? (i := 65) rfl) rfl), ⟨by decide, by decide, by decide +kernel⟩, by decide⟩
theorem cm_In_typeOfPlace : jj_cm Y0 m_In_typeOfPlace 1 := ⟨(jw_1 (List.mem_of_getElem? (i := 16) rfl) rfl), (jw_3 (List.mem_of_getElem? (i := 90) rfl) rfl), ⟨by decide, by decide, by decide +kernel⟩, by decide⟩
theorem cm_In_typeOfReturn : jj_cm Y0 m_In_typeOfReturn 1 := ⟨(jw_1 (List.mem_of_getElem? (i := 16) rfl) rfl), (jw_3 (List.mem_of_getElem? (i := 96) rfl) rfl), ⟨by decide, by decide, by decide +kernel⟩, by decide⟩
theorem cm_In_typeTaken : jj_cm Y0 m_In_typeTaken 2 := ⟨(jw_1 (List.mem_of_getElem? (i := 16) rfl) rfl), (jw_3 (List.mem_of_getElem? (i := 77) rfl) rfl), ⟨by decide, by decide, by decide +kernel⟩, by decide⟩
theorem cm_Ma_begin : jj_cm Y0 m_Ma_begin 5 := ⟨(jw_1 (List.mem_of_getElem? (i := 7) rfl) rfl), (jw_3 (List.mem_of_getElem? (i := 170) rfl) rfl), ⟨by decide, by decide, by decide +kernel⟩, by decide⟩
theorem cm_Ma_call : jj_cm Y0 m_Ma_call 2 := ⟨(jw_1 (List.mem_of_getElem? (i := 7) rfl) rfl), (jw_3 (List.mem_of_getElem? (i := 223) rfl) rfl), ⟨by decide, by decide, by decide +kernel⟩, by decide⟩
theorem cm_Ma_doAlone : jj_cm Y0 m_Ma_doAlone 2 := ⟨(jw_1 (List.mem_of_getElem? (i := 7) rfl) rfl), (jw_4 (List.mem_of_getElem? (i := 11) rfl) rfl), ⟨by decide, by decide, by decide +kernel⟩, by decide⟩
theorem cm_Ma_doOne : jj_cm Y0 m_Ma_doOne 1 := ⟨(jw_1 (List.mem_of_getElem? (i := 7) rfl) rfl), (jw_3 (List.mem_of_getElem? (i := 193) rfl) rfl), ⟨by decide, by decide, by decide +kernel⟩, by decide⟩
theorem cm_Ma_doWithOperand : jj_cm Y0 m_Ma_doWithOperand 4 := ⟨(jw_1 (List.mem_of_getElem? (i := 7) rfl) rfl), (jw_3 (List.mem_of_getElem? (i := 237) rfl) rfl), ⟨by decide, by decide, by decide +kernel⟩, by decide⟩
theorem cm_Ma_enter : jj_cm Y0 m_Ma_enter 1 := ⟨(jw_1 (List.mem_of_getElem? (i := 7) rfl) rfl), (jw_3 (List.mem_of_getElem? (i := 174) rfl) rfl), ⟨by decide, by decide, by decide +kernel⟩, by decide⟩
theorem cm_Ma_goToEnd : jj_cm Y0 m_Ma_goToEnd 1 := ⟨(jw_1 (List.mem_of_getElem? (i := 7) rfl) rfl), (jw_3 (List.mem_of_getElem? (i := 189) rfl) rfl), ⟨by decide, by decide, by decide +kernel⟩, by decide⟩
theorem cm_Ma_goesToTarget : jj_cm Y0 m_Ma_goesToTarget 2 := ⟨(jw_1 (List.mem_of_getElem? (i := 7) rfl) rfl), (jw_3 (List.mem_of_getElem? (i := 228) rfl) rfl), ⟨by decide, by decide, by decide +kernel⟩, by decide⟩
theorem cm_Ma_holds : jj_cm Y0 m_Ma_holds 3 := ⟨(jw_1 (List.mem_of_getElem? (i := 7) rfl) rfl), (jw_3 (List.mem_of_getElem? (i := 232) rfl) rfl), ⟨by decide, by decide, by decide +kernel⟩, by decide⟩
theorem cm_Ma_leave : jj_cm Y0 m_Ma_leave 2 := ⟨(jw_1 (List.mem_of_getElem? (i := 7) rfl) rfl), (jw_3 (List.mem_of_getElem? (i := 210) rfl) rfl), ⟨by decide, by decide, by decide +kernel⟩, by decide⟩
theorem cm_Ma_newRow : jj_cm Y0 m_Ma_newRow 1 := ⟨(jw_1 (List.mem_of_getElem? (i := 7) rfl) rfl), (jw_3 (List.mem_of_getElem? (i := 185) rfl) rfl), ⟨by decide, by decide, by decide +kernel⟩, by decide⟩
theorem cm_Ma_reckoned : jj_cm Y0 m_Ma_reckoned 3 := ⟨(jw_1 (List.mem_of_getElem? (i := 7) rfl) rfl), (jw_4 (List.mem_of_getElem? (i := 21) rfl) rfl), ⟨by decide, by decide, by decide +kernel⟩, by decide⟩
theorem cm_Ma_resultOf : jj_cm Y0 m_Ma_resultOf 2 := ⟨(jw_1 (List.mem_of_getElem? (i := 7) rfl) rfl), (jw_3 (List.mem_of_getElem? (i := 216) rfl) rfl), ⟨by decide, by decide, by decide +kernel⟩, by decide⟩
theorem cm_Ma_setArgument : jj_cm Y0 m_Ma_setArgument 3 := ⟨(jw_1 (List.mem_of_getElem? (i := 7) rfl) rfl), (jw_3 (List.mem_of_getElem? (i := 179) rfl) rfl), ⟨by decide, by decide, by decide +kernel⟩, by decide⟩
theorem cm_Ma_storeElement : jj_cm Y0 m_Ma_storeElement 1 := ⟨(jw_1 (List.mem_of_getElem? (i := 7) rfl) rfl), (jw_4 (List.mem_of_getElem? (i := 17) rfl) rfl), ⟨by decide, by decide, by decide +kernel⟩, by decide⟩
theorem cm_Ma_trouble : jj_cm Y0 m_Ma_trouble 2 := ⟨(jw_1 (List.mem_of_getElem? (i := 7) rfl) rfl), (jw_3 (List.mem_of_getElem? (i := 199) rfl) rfl), ⟨by decide, by decide, by decide +kernel⟩, by decide⟩
theorem cm_Ma_troubleOfElement : jj_cm Y0 m_Ma_troubleOfElement 2 := ⟨(jw_1 (List.mem_of_getElem? (i := 7) rfl) rfl), (jw_3 (List.mem_of_getElem? (i := 205) rfl) rfl), ⟨by decide, by decide, by decide +kernel⟩, by decide⟩
theorem cm_Pr_called : jj_cm Y0 m_Pr_called 2 := ⟨(jw_1 (List.mem_of_getElem? (i := 2) rfl) rfl), (jw_3 (List.mem_of_getElem? (i := 62) rfl) rfl), ⟨by decide, by decide, by decide +kernel⟩, by decide⟩
theorem cm_Pr_code : jj_cm Y0 m_Pr_code 2 := ⟨(jw_1 (List.mem_of_getElem? (i := 2) rfl) rfl), (jw_2 (List.mem_of_getElem? (i := 65) rfl) rfl), ⟨by decide, by decide, by decide +kernel⟩, by decide⟩
theorem cm_Pr_constant : jj_cm Y0 m_Pr_constant 1 := ⟨(jw_1 (List.mem_of_getElem? (i := 2) rfl) rfl), (jw_4 (List.mem_of_getElem? (i := 5) rfl) rfl), ⟨by decide, by decide, by decide +kernel⟩, by decide⟩
theorem cm_Pr_frameAt : jj_cm Y0 m_Pr_frameAt 2 := ⟨(jw_1 (List.mem_of_getElem? (i := 2) rfl) rfl), (jw_3 (List.mem_of_getElem? (i := 25) rfl) rfl), ⟨by decide, by decide, by decide +kernel⟩, by decide⟩
theorem cm_Pr_frameHeight : jj_cm Y0 m_Pr_frameHeight 2 := ⟨(jw_1 (List.mem_of_getElem? (i := 2) rfl) rfl), (jw_3 (List.mem_of_getElem? (i := 34) rfl) rfl), ⟨by decide, by decide, by decide +kernel⟩, by decide⟩
theorem cm_Pr_frameOffset : jj_cm Y0 m_Pr_frameOffset 2 := ⟨(jw_1 (List.mem_of_getElem? (i := 2) rfl) rfl), (jw_2 (List.mem_of_getElem? (i := 85) rfl) rfl), ⟨by decide, by decide, by decide +kernel⟩, by decide⟩
theorem cm_Pr_framePlace : jj_cm Y0 m_Pr_framePlace 3 := ⟨(jw_1 (List.mem_of_getElem? (i := 2) rfl) rfl), (jw_3 (List.mem_of_getElem? (i := 38) rfl) rfl), ⟨by decide, by decide, by decide +kernel⟩, by decide⟩
theorem cm_Pr_frameValue : jj_cm Y0 m_Pr_frameValue 3 := ⟨(jw_1 (List.mem_of_getElem? (i := 2) rfl) rfl), (jw_3 (List.mem_of_getElem? (i := 45) rfl) rfl), ⟨by decide, by decide, by decide +kernel⟩, by decide⟩
theorem cm_Pr_operand : jj_cm Y0 m_Pr_operand 2 := ⟨(jw_1 (List.mem_of_getElem? (i := 2) rfl) rfl), (jw_3 (List.mem_of_getElem? (i := 87) rfl) rfl), ⟨by decide, by decide, by decide +kernel⟩, by decide⟩
theorem cm_Pr_parameterType : jj_cm Y0 m_Pr_parameterType 2 := ⟨(jw_1 (List.mem_of_getElem? (i := 2) rfl) rfl), (jw_3 (List.mem_of_getElem? (i := 15) rfl) rfl), ⟨by decide, by decide, by decide +kernel⟩, by decide⟩
theorem cm_Pr_putCount : jj_cm Y0 m_Pr_putCount 2 := ⟨(jw_1 (List.mem_of_getElem? (i := 2) rfl) rfl), (jw_3 (List.mem_of_getElem? (i := 100) rfl) rfl), ⟨by decide, by decide, by decide +kernel⟩, by decide⟩
theorem cm_Pr_signedByte : jj_cm Y0 m_Pr_signedByte 2 := ⟨(jw_1 (List.mem_of_getElem? (i := 2) rfl) rfl), (jw_4 (List.mem_of_getElem? (i := 1) rfl) rfl), ⟨by decide, by decide, by decide +kernel⟩, by decide⟩
theorem cm_Pr_takeFile : jj_cm Y0 m_Pr_takeFile 2 := ⟨(jw_1 (List.mem_of_getElem? (i := 2) rfl) rfl), (jw_2 (List.mem_of_getElem? (i := 5) rfl) rfl), ⟨by decide, by decide, by decide +kernel⟩, by decide⟩
theorem cm_Pr_takenCount : jj_cm Y0 m_Pr_takenCount 2 := ⟨(jw_1 (List.mem_of_getElem? (i := 2) rfl) rfl), (jw_3 (List.mem_of_getElem? (i := 58) rfl) rfl), ⟨by decide, by decide, by decide +kernel⟩, by decide⟩
theorem cm_Pr_takenType : jj_cm Y0 m_Pr_takenType 3 := ⟨(jw_1 (List.mem_of_getElem? (i := 2) rfl) rfl), (jw_3 (List.mem_of_getElem? (i := 73) rfl) rfl), ⟨by decide, by decide, by decide +kernel⟩, by decide⟩
theorem cm_Pr_target : jj_cm Y0 m_Pr_target 2 := ⟨(jw_1 (List.mem_of_getElem? (i := 2) rfl) rfl), (jw_2 (List.mem_of_getElem? (i := 70) rfl) rfl), ⟨by decide, by decide, by decide +kernel⟩, by decide⟩
theorem cm_Rd_beginsAt : jj_cm Y0 m_Rd_beginsAt 2 := ⟨(jw_1 (List.mem_of_getElem? (i := 4) rfl) rfl), (jw_2 (List.mem_of_getElem? (i := 77) rfl) rfl), ⟨by decide, by decide, by decide +kernel⟩, by decide⟩
theorem cm_Rd_framesBegin : jj_cm Y0 m_Rd_framesBegin 2 := ⟨(jw_1 (List.mem_of_getElem? (i := 4) rfl) rfl), (jw_2 (List.mem_of_getElem? (i := 81) rfl) rfl), ⟨by decide, by decide, by decide +kernel⟩, by decide⟩
theorem cm_Rd_highestOperand : jj_cm Y0 m_Rd_highestOperand 4 := ⟨(jw_1 (List.mem_of_getElem? (i := 4) rfl) rfl), (jw_2 (List.mem_of_getElem? (i := 50) rfl) rfl), ⟨by decide, by decide, by decide +kernel⟩, by decide⟩
theorem cm_Rd_next : jj_cm Y0 m_Rd_next 3 := ⟨(jw_1 (List.mem_of_getElem? (i := 4) rfl) rfl), (jw_2 (List.mem_of_getElem? (i := 16) rfl) rfl), ⟨by decide, by decide, by decide +kernel⟩, by decide⟩
theorem cm_Rd_nextOnes : jj_cm Y0 m_Rd_nextOnes 4 := ⟨(jw_1 (List.mem_of_getElem? (i := 4) rfl) rfl), (jw_2 (List.mem_of_getElem? (i := 24) rfl) rfl), ⟨by decide, by decide, by decide +kernel⟩, by decide⟩
theorem cm_Rd_readsCode : jj_cm Y0 m_Rd_readsCode 2 := ⟨(jw_1 (List.mem_of_getElem? (i := 4) rfl) rfl), (jw_2 (List.mem_of_getElem? (i := 36) rfl) rfl), ⟨by decide, by decide, by decide +kernel⟩, by decide⟩
theorem cm_Rd_readsConstants : jj_cm Y0 m_Rd_readsConstants 1 := ⟨(jw_1 (List.mem_of_getElem? (i := 4) rfl) rfl), (jw_2 (List.mem_of_getElem? (i := 20) rfl) rfl), ⟨by decide, by decide, by decide +kernel⟩, by decide⟩
theorem cm_Rd_readsFile : jj_cm Y0 m_Rd_readsFile 1 := ⟨(jw_1 (List.mem_of_getElem? (i := 4) rfl) rfl), (jw_2 (List.mem_of_getElem? (i := 12) rfl) rfl), ⟨by decide, by decide, by decide +kernel⟩, by decide⟩
theorem cm_Rd_readsFrames : jj_cm Y0 m_Rd_readsFrames 2 := ⟨(jw_1 (List.mem_of_getElem? (i := 4) rfl) rfl), (jw_2 (List.mem_of_getElem? (i := 57) rfl) rfl), ⟨by decide, by decide, by decide +kernel⟩, by decide⟩
theorem cm_Rd_readsHead : jj_cm Y0 m_Rd_readsHead 2 := ⟨(jw_1 (List.mem_of_getElem? (i := 4) rfl) rfl), (jw_2 (List.mem_of_getElem? (i := 32) rfl) rfl), ⟨by decide, by decide, by decide +kernel⟩, by decide⟩
theorem cm_Rd_readsInstruction : jj_cm Y0 m_Rd_readsInstruction 3 := ⟨(jw_1 (List.mem_of_getElem? (i := 4) rfl) rfl), (jw_2 (List.mem_of_getElem? (i := 40) rfl) rfl), ⟨by decide, by decide, by decide +kernel⟩, by decide⟩
theorem cm_Rd_readsMethod : jj_cm Y0 m_Rd_readsMethod 2 := ⟨(jw_1 (List.mem_of_getElem? (i := 4) rfl) rfl), (jw_2 (List.mem_of_getElem? (i := 28) rfl) rfl), ⟨by decide, by decide, by decide +kernel⟩, by decide⟩
theorem cm_Rd_targetsBegin : jj_cm Y0 m_Rd_targetsBegin 2 := ⟨(jw_1 (List.mem_of_getElem? (i := 4) rfl) rfl), (jw_2 (List.mem_of_getElem? (i := 61) rfl) rfl), ⟨by decide, by decide, by decide +kernel⟩, by decide⟩
theorem cm_St_allows : jj_cm Y0 m_St_allows 3 := ⟨(jw_1 (List.mem_of_getElem? (i := 6) rfl) rfl), (jw_3 (List.mem_of_getElem? (i := 53) rfl) rfl), ⟨by decide, by decide, by decide +kernel⟩, by decide⟩
theorem cm_St_exchange : jj_cm Y0 m_St_exchange 0 := ⟨(jw_1 (List.mem_of_getElem? (i := 6) rfl) rfl), (jw_3 (List.mem_of_getElem? (i := 141) rfl) rfl), ⟨by decide, by decide, by decide +kernel⟩, by decide⟩
theorem cm_St_hasPlace : jj_cm Y0 m_St_hasPlace 3 := ⟨(jw_1 (List.mem_of_getElem? (i := 6) rfl) rfl), (jw_3 (List.mem_of_getElem? (i := 82) rfl) rfl), ⟨by decide, by decide, by decide +kernel⟩, by decide⟩
theorem cm_St_hasTaken : jj_cm Y0 m_St_hasTaken 4 := ⟨(jw_1 (List.mem_of_getElem? (i := 6) rfl) rfl), (jw_3 (List.mem_of_getElem? (i := 69) rfl) rfl), ⟨by decide, by decide, by decide +kernel⟩, by decide⟩
theorem cm_St_kindBelow : jj_cm Y0 m_St_kindBelow 1 := ⟨(jw_1 (List.mem_of_getElem? (i := 6) rfl) rfl), (jw_3 (List.mem_of_getElem? (i := 133) rfl) rfl), ⟨by decide, by decide, by decide +kernel⟩, by decide⟩
theorem cm_St_kindTaken : jj_cm Y0 m_St_kindTaken 0 := ⟨(jw_1 (List.mem_of_getElem? (i := 6) rfl) rfl), (jw_3 (List.mem_of_getElem? (i := 125) rfl) rfl), ⟨by decide, by decide, by decide +kernel⟩, by decide⟩
theorem cm_St_makeEmpty : jj_cm Y0 m_St_makeEmpty 0 := ⟨(jw_1 (List.mem_of_getElem? (i := 6) rfl) rfl), (jw_3 (List.mem_of_getElem? (i := 7) rfl) rfl), ⟨by decide, by decide, by decide +kernel⟩, by decide⟩
theorem cm_St_moveToPlace : jj_cm Y0 m_St_moveToPlace 1 := ⟨(jw_1 (List.mem_of_getElem? (i := 6) rfl) rfl), (jw_3 (List.mem_of_getElem? (i := 117) rfl) rfl), ⟨by decide, by decide, by decide +kernel⟩, by decide⟩
theorem cm_St_put : jj_cm Y0 m_St_put 2 := ⟨(jw_1 (List.mem_of_getElem? (i := 6) rfl) rfl), (jw_3 (List.mem_of_getElem? (i := 49) rfl) rfl), ⟨by decide, by decide, by decide +kernel⟩, by decide⟩
theorem cm_St_putAgain : jj_cm Y0 m_St_putAgain 0 := ⟨(jw_1 (List.mem_of_getElem? (i := 6) rfl) rfl), (jw_3 (List.mem_of_getElem? (i := 129) rfl) rfl), ⟨by decide, by decide, by decide +kernel⟩, by decide⟩
theorem cm_St_putPlace : jj_cm Y0 m_St_putPlace 1 := ⟨(jw_1 (List.mem_of_getElem? (i := 6) rfl) rfl), (jw_3 (List.mem_of_getElem? (i := 112) rfl) rfl), ⟨by decide, by decide, by decide +kernel⟩, by decide⟩
theorem cm_St_setPlace : jj_cm Y0 m_St_setPlace 3 := ⟨(jw_1 (List.mem_of_getElem? (i := 6) rfl) rfl), (jw_3 (List.mem_of_getElem? (i := 11) rfl) rfl), ⟨by decide, by decide, by decide +kernel⟩, by decide⟩
theorem cm_St_take : jj_cm Y0 m_St_take 0 := ⟨(jw_1 (List.mem_of_getElem? (i := 6) rfl) rfl), (jw_3 (List.mem_of_getElem? (i := 121) rfl) rfl), ⟨by decide, by decide, by decide +kernel⟩, by decide⟩
theorem cm_St_valueBelow : jj_cm Y0 m_St_valueBelow 1 := ⟨(jw_1 (List.mem_of_getElem? (i := 6) rfl) rfl), (jw_3 (List.mem_of_getElem? (i := 137) rfl) rfl), ⟨by decide, by decide, by decide +kernel⟩, by decide⟩
theorem cm_Mo_argue : jj_cm Y0 m_Mo_argue 2 := ⟨(jw_1 (List.mem_of_getElem? (i := 8) rfl) rfl), (jw_5 (List.mem_of_getElem? (i := 56) rfl) rfl), ⟨by decide, by decide, by decide +kernel⟩, by decide⟩
theorem cm_Mo_arrive : jj_cm Y0 m_Mo_arrive 1 := ⟨(jw_1 (List.mem_of_getElem? (i := 8) rfl) rfl), (jw_4 (List.mem_of_getElem? (i := 231) rfl) rfl), ⟨by decide, by decide, by decide +kernel⟩, by decide⟩
theorem cm_Mo_become : jj_cm Y0 m_Mo_become 1 := ⟨(jw_1 (List.mem_of_getElem? (i := 8) rfl) rfl), (jw_5 (List.mem_of_getElem? (i := 3) rfl) rfl), ⟨by decide, by decide, by decide +kernel⟩, by decide⟩
theorem cm_Mo_begin : jj_cm Y0 m_Mo_begin 1 := ⟨(jw_1 (List.mem_of_getElem? (i := 8) rfl) rfl), (jw_4 (List.mem_of_getElem? (i := 235) rfl) rfl), ⟨by decide, by decide, by decide +kernel⟩, by decide⟩
theorem cm_Mo_begins : jj_cm Y0 m_Mo_begins 3 := ⟨(jw_1 (List.mem_of_getElem? (i := 8) rfl) rfl), (jw_4 (List.mem_of_getElem? (i := 175) rfl) rfl), ⟨by decide, by decide, by decide +kernel⟩, by decide⟩
theorem cm_Mo_bytes : jj_cm Y0 m_Mo_bytes 1 := ⟨(jw_1 (List.mem_of_getElem? (i := 8) rfl) rfl), (jw_4 (List.mem_of_getElem? (i := 162) rfl) rfl), ⟨by decide, by decide, by decide +kernel⟩, by decide⟩
theorem cm_Mo_can : jj_cm Y0 m_Mo_can 2 := ⟨(jw_1 (List.mem_of_getElem? (i := 8) rfl) rfl), (jw_5 (List.mem_of_getElem? (i := 44) rfl) rfl), ⟨by decide, by decide, by decide +kernel⟩, by decide⟩
theorem cm_Mo_codeOf : jj_cm Y0 m_Mo_codeOf 1 := ⟨(jw_1 (List.mem_of_getElem? (i := 8) rfl) rfl), (jw_4 (List.mem_of_getElem? (i := 215) rfl) rfl), ⟨by decide, by decide, by decide +kernel⟩, by decide⟩
theorem cm_Mo_constant : jj_cm Y0 m_Mo_constant 1 := ⟨(jw_1 (List.mem_of_getElem? (i := 8) rfl) rfl), (jw_5 (List.mem_of_getElem? (i := 95) rfl) rfl), ⟨by decide, by decide, by decide +kernel⟩, by decide⟩
theorem cm_Mo_enter : jj_cm Y0 m_Mo_enter 2 := ⟨(jw_1 (List.mem_of_getElem? (i := 8) rfl) rfl), (jw_5 (List.mem_of_getElem? (i := 72) rfl) rfl), ⟨by decide, by decide, by decide +kernel⟩, by decide⟩
theorem cm_Mo_fits : jj_cm Y0 m_Mo_fits 1 := ⟨(jw_1 (List.mem_of_getElem? (i := 8) rfl) rfl), (jw_5 (List.mem_of_getElem? (i := 37) rfl) rfl), ⟨by decide, by decide, by decide +kernel⟩, by decide⟩
theorem cm_Mo_frame : jj_cm Y0 m_Mo_frame 2 := ⟨(jw_1 (List.mem_of_getElem? (i := 8) rfl) rfl), (jw_4 (List.mem_of_getElem? (i := 239) rfl) rfl), ⟨by decide, by decide, by decide +kernel⟩, by decide⟩
theorem cm_Mo_gives : jj_cm Y0 m_Mo_gives 1 := ⟨(jw_1 (List.mem_of_getElem? (i := 8) rfl) rfl), (jw_5 (List.mem_of_getElem? (i := 22) rfl) rfl), ⟨by decide, by decide, by decide +kernel⟩, by decide⟩
theorem cm_Mo_goes : jj_cm Y0 m_Mo_goes 2 := ⟨(jw_1 (List.mem_of_getElem? (i := 8) rfl) rfl), (jw_5 (List.mem_of_getElem? (i := 80) rfl) rfl), ⟨by decide, by decide, by decide +kernel⟩, by decide⟩
theorem cm_Mo_good : jj_cm Y0 m_Mo_good 2 := ⟨(jw_1 (List.mem_of_getElem? (i := 8) rfl) rfl), (jw_5 (List.mem_of_getElem? (i := 40) rfl) rfl), ⟨by decide, by decide, by decide +kernel⟩, by decide⟩
theorem cm_Mo_jump : jj_cm Y0 m_Mo_jump 2 := ⟨(jw_1 (List.mem_of_getElem? (i := 8) rfl) rfl), (jw_4 (List.mem_of_getElem? (i := 182) rfl) rfl), ⟨by decide, by decide, by decide +kernel⟩, by decide⟩
theorem cm_Mo_jumps : jj_cm Y0 m_Mo_jumps 1 := ⟨(jw_1 (List.mem_of_getElem? (i := 8) rfl) rfl), (jw_4 (List.mem_of_getElem? (i := 165) rfl) rfl), ⟨by decide, by decide, by decide +kernel⟩, by decide⟩
theorem cm_Mo_lackOfMethod : jj_cm Y0 m_Mo_lackOfMethod 1 := ⟨(jw_1 (List.mem_of_getElem? (i := 8) rfl) rfl), (jw_4 (List.mem_of_getElem? (i := 203) rfl) rfl), ⟨by decide, by decide, by decide +kernel⟩, by decide⟩
theorem cm_Mo_leave : jj_cm Y0 m_Mo_leave 3 := ⟨(jw_1 (List.mem_of_getElem? (i := 8) rfl) rfl), (jw_5 (List.mem_of_getElem? (i := 76) rfl) rfl), ⟨by decide, by decide, by decide +kernel⟩, by decide⟩
theorem cm_Mo_lengthOf : jj_cm Y0 m_Mo_lengthOf 1 := ⟨(jw_1 (List.mem_of_getElem? (i := 8) rfl) rfl), (jw_4 (List.mem_of_getElem? (i := 219) rfl) rfl), ⟨by decide, by decide, by decide +kernel⟩, by decide⟩
theorem cm_Mo_makeRow : jj_cm Y0 m_Mo_makeRow 1 := ⟨(jw_1 (List.mem_of_getElem? (i := 8) rfl) rfl), (jw_5 (List.mem_of_getElem? (i := 60) rfl) rfl), ⟨by decide, by decide, by decide +kernel⟩, by decide⟩
theorem cm_Mo_methodAt : jj_cm Y0 m_Mo_methodAt 1 := ⟨(jw_1 (List.mem_of_getElem? (i := 8) rfl) rfl), (jw_4 (List.mem_of_getElem? (i := 211) rfl) rfl), ⟨by decide, by decide, by decide +kernel⟩, by decide⟩
theorem cm_Mo_methodCount : jj_cm Y0 m_Mo_methodCount 0 := ⟨(jw_1 (List.mem_of_getElem? (i := 8) rfl) rfl), (jw_4 (List.mem_of_getElem? (i := 195) rfl) rfl), ⟨by decide, by decide, by decide +kernel⟩, by decide⟩
theorem cm_Mo_names : jj_cm Y0 m_Mo_names 1 := ⟨(jw_1 (List.mem_of_getElem? (i := 8) rfl) rfl), (jw_4 (List.mem_of_getElem? (i := 168) rfl) rfl), ⟨by decide, by decide, by decide +kernel⟩, by decide⟩
theorem cm_Mo_need : jj_cm Y0 m_Mo_need 2 := ⟨(jw_1 (List.mem_of_getElem? (i := 8) rfl) rfl), (jw_5 (List.mem_of_getElem? (i := 18) rfl) rfl), ⟨by decide, by decide, by decide +kernel⟩, by decide⟩
theorem cm_Mo_needs : jj_cm Y0 m_Mo_needs 2 := ⟨(jw_1 (List.mem_of_getElem? (i := 8) rfl) rfl), (jw_5 (List.mem_of_getElem? (i := 15) rfl) rfl), ⟨by decide, by decide, by decide +kernel⟩, by decide⟩
theorem cm_Mo_next : jj_cm Y0 m_Mo_next 2 := ⟨(jw_1 (List.mem_of_getElem? (i := 8) rfl) rfl), (jw_4 (List.mem_of_getElem? (i := 151) rfl) rfl), ⟨by decide, by decide, by decide +kernel⟩, by decide⟩
theorem cm_Mo_open : jj_cm Y0 m_Mo_open 1 := ⟨(jw_1 (List.mem_of_getElem? (i := 8) rfl) rfl), (jw_4 (List.mem_of_getElem? (i := 207) rfl) rfl), ⟨by decide, by decide, by decide +kernel⟩, by decide⟩
theorem cm_Mo_pass : jj_cm Y0 m_Mo_pass 1 := ⟨(jw_1 (List.mem_of_getElem? (i := 8) rfl) rfl), (jw_5 (List.mem_of_getElem? (i := 7) rfl) rfl), ⟨by decide, by decide, by decide +kernel⟩, by decide⟩
theorem cm_Mo_passes : jj_cm Y0 m_Mo_passes 1 := ⟨(jw_1 (List.mem_of_getElem? (i := 8) rfl) rfl), (jw_4 (List.mem_of_getElem? (i := 227) rfl) rfl), ⟨by decide, by decide, by decide +kernel⟩, by decide⟩
theorem cm_Mo_placesOf : jj_cm Y0 m_Mo_placesOf 1 := ⟨(jw_1 (List.mem_of_getElem? (i := 8) rfl) rfl), (jw_4 (List.mem_of_getElem? (i := 223) rfl) rfl), ⟨by decide, by decide, by decide +kernel⟩, by decide⟩
theorem cm_Mo_push : jj_cm Y0 m_Mo_push 3 := ⟨(jw_1 (List.mem_of_getElem? (i := 8) rfl) rfl), (jw_5 (List.mem_of_getElem? (i := 33) rfl) rfl), ⟨by decide, by decide, by decide +kernel⟩, by decide⟩
theorem cm_Mo_puts : jj_cm Y0 m_Mo_puts 1 := ⟨(jw_1 (List.mem_of_getElem? (i := 8) rfl) rfl), (jw_5 (List.mem_of_getElem? (i := 29) rfl) rfl), ⟨by decide, by decide, by decide +kernel⟩, by decide⟩
theorem cm_Mo_readInstruction : jj_cm Y0 m_Mo_readInstruction 4 := ⟨(jw_1 (List.mem_of_getElem? (i := 8) rfl) rfl), (jw_4 (List.mem_of_getElem? (i := 159) rfl) rfl), ⟨by decide, by decide, by decide +kernel⟩, by decide⟩
theorem cm_Mo_readMethod : jj_cm Y0 m_Mo_readMethod 2 := ⟨(jw_1 (List.mem_of_getElem? (i := 8) rfl) rfl), (jw_4 (List.mem_of_getElem? (i := 155) rfl) rfl), ⟨by decide, by decide, by decide +kernel⟩, by decide⟩
theorem cm_Mo_returns : jj_cm Y0 m_Mo_returns 1 := ⟨(jw_1 (List.mem_of_getElem? (i := 8) rfl) rfl), (jw_4 (List.mem_of_getElem? (i := 171) rfl) rfl), ⟨by decide, by decide, by decide +kernel⟩, by decide⟩
theorem cm_Mo_returnsOf : jj_cm Y0 m_Mo_returnsOf 1 := ⟨(jw_1 (List.mem_of_getElem? (i := 8) rfl) rfl), (jw_5 (List.mem_of_getElem? (i := 26) rfl) rfl), ⟨by decide, by decide, by decide +kernel⟩, by decide⟩
theorem cm_Mo_skip : jj_cm Y0 m_Mo_skip 3 := ⟨(jw_1 (List.mem_of_getElem? (i := 8) rfl) rfl), (jw_4 (List.mem_of_getElem? (i := 147) rfl) rfl), ⟨by decide, by decide, by decide +kernel⟩, by decide⟩
theorem cm_Mo_small : jj_cm Y0 m_Mo_small 1 := ⟨(jw_1 (List.mem_of_getElem? (i := 8) rfl) rfl), (jw_5 (List.mem_of_getElem? (i := 87) rfl) rfl), ⟨by decide, by decide, by decide +kernel⟩, by decide⟩
theorem cm_Mo_step : jj_cm Y0 m_Mo_step 0 := ⟨(jw_1 (List.mem_of_getElem? (i := 8) rfl) rfl), (jw_5 (List.mem_of_getElem? (i := 64) rfl) rfl), ⟨by decide, by decide, by decide +kernel⟩, by decide⟩
theorem cm_Mo_takes : jj_cm Y0 m_Mo_takes 1 := ⟨(jw_1 (List.mem_of_getElem? (i := 8) rfl) rfl), (jw_5 (List.mem_of_getElem? (i := 11) rfl) rfl), ⟨by decide, by decide, by decide +kernel⟩, by decide⟩
theorem cm_Mo_target : jj_cm Y0 m_Mo_target 1 := ⟨(jw_1 (List.mem_of_getElem? (i := 8) rfl) rfl), (jw_5 (List.mem_of_getElem? (i := 48) rfl) rfl), ⟨by decide, by decide, by decide +kernel⟩, by decide⟩
theorem cm_Mo_targetsFit : jj_cm Y0 m_Mo_targetsFit 2 := ⟨(jw_1 (List.mem_of_getElem? (i := 8) rfl) rfl), (jw_4 (List.mem_of_getElem? (i := 179) rfl) rfl), ⟨by decide, by decide, by decide +kernel⟩, by decide⟩
theorem cm_Mo_value : jj_cm Y0 m_Mo_value 4 := ⟨(jw_1 (List.mem_of_getElem? (i := 8) rfl) rfl), (jw_5 (List.mem_of_getElem? (i := 91) rfl) rfl), ⟨by decide, by decide, by decide +kernel⟩, by decide⟩
theorem cm_Mo_within : jj_cm Y0 m_Mo_within 3 := ⟨(jw_1 (List.mem_of_getElem? (i := 8) rfl) rfl), (jw_4 (List.mem_of_getElem? (i := 123) rfl) rfl), ⟨by decide, by decide, by decide +kernel⟩, by decide⟩
theorem cm_Mo_work : jj_cm Y0 m_Mo_work 4 := ⟨(jw_1 (List.mem_of_getElem? (i := 8) rfl) rfl), (jw_5 (List.mem_of_getElem? (i := 84) rfl) rfl), ⟨by decide, by decide, by decide +kernel⟩, by decide⟩
theorem cm_Mo_wrong : jj_cm Y0 m_Mo_wrong 2 := ⟨(jw_1 (List.mem_of_getElem? (i := 8) rfl) rfl), (jw_5 (List.mem_of_getElem? (i := 68) rfl) rfl), ⟨by decide, by decide, by decide +kernel⟩, by decide⟩
theorem ck_Ck_114 : jj_cs Y0 "VerifiedCode$Checker" 114 m_In_hasTarget 1 := ⟨cm_In_hasTarget, (jw_3 (List.mem_of_getElem? (i := 153) rfl) rfl), (jw_2 (List.mem_of_getElem? (i := 45) rfl) rfl)⟩
theorem ck_Ck_63 : jj_cs Y0 "VerifiedCode$Checker" 63 m_In_isReturn 1 := ⟨cm_In_isReturn, (jw_3 (List.mem_of_getElem? (i := 155) rfl) rfl), (jw_3 (List.mem_of_getElem? (i := 92) rfl) rfl)⟩
theorem ck_Ck_67 : jj_cs Y0 "VerifiedCode$Checker" 67 m_In_length 1 := ⟨cm_In_length, (jw_3 (List.mem_of_getElem? (i := 156) rfl) rfl), (jw_2 (List.mem_of_getElem? (i := 42) rfl) rfl)⟩
theorem ck_In_11 : jj_cs Y0 "VerifiedCode$Instruction" 11 m_In_hasTarget 1 := ⟨cm_In_hasTarget, (jw_2 (List.mem_of_getElem? (i := 44) rfl) rfl), (jw_2 (List.mem_of_getElem? (i := 45) rfl) rfl)⟩
theorem ck_Ma_102 : jj_cs Y0 "VerifiedCode$Machine" 102 m_In_length 1 := ⟨cm_In_length, (jw_3 (List.mem_of_getElem? (i := 218) rfl) rfl), (jw_2 (List.mem_of_getElem? (i := 42) rfl) rfl)⟩
theorem ck_Ma_112 : jj_cs Y0 "VerifiedCode$Machine" 112 m_In_hasTarget 1 := ⟨cm_In_hasTarget, (jw_3 (List.mem_of_getElem? (i := 224) rfl) rfl), (jw_2 (List.mem_of_getElem? (i := 45) rfl) rfl)⟩
theorem ck_Ma_93 : jj_cs Y0 "VerifiedCode$Machine" 93 m_In_isReturn 1 := ⟨cm_In_isReturn, (jw_3 (List.mem_of_getElem? (i := 206) rfl) rfl), (jw_3 (List.mem_of_getElem? (i := 92) rfl) rfl)⟩
theorem ck_Pr_68 : jj_cs Y0 "VerifiedCode$Program" 68 m_In_takes 1 := ⟨cm_In_takes, (jw_3 (List.mem_of_getElem? (i := 63) rfl) rfl), (jw_3 (List.mem_of_getElem? (i := 64) rfl) rfl)⟩
theorem ck_Pr_75 : jj_cs Y0 "VerifiedCode$Program" 75 m_In_typeTaken 2 := ⟨cm_In_typeTaken, (jw_3 (List.mem_of_getElem? (i := 75) rfl) rfl), (jw_3 (List.mem_of_getElem? (i := 76) rfl) rfl)⟩
theorem ck_Pr_82 : jj_cs Y0 "VerifiedCode$Program" 82 m_In_puts 1 := ⟨cm_In_puts, (jw_3 (List.mem_of_getElem? (i := 101) rfl) rfl), (jw_3 (List.mem_of_getElem? (i := 102) rfl) rfl)⟩
theorem ck_Rd_102 : jj_cs Y0 "VerifiedCode$Reader" 102 m_In_length 1 := ⟨cm_In_length, (jw_2 (List.mem_of_getElem? (i := 41) rfl) rfl), (jw_2 (List.mem_of_getElem? (i := 42) rfl) rfl)⟩
theorem ck_Rd_112 : jj_cs Y0 "VerifiedCode$Reader" 112 m_In_hasPlace 1 := ⟨cm_In_hasPlace, (jw_2 (List.mem_of_getElem? (i := 51) rfl) rfl), (jw_2 (List.mem_of_getElem? (i := 52) rfl) rfl)⟩
theorem ck_Rd_126 : jj_cs Y0 "VerifiedCode$Reader" 126 m_In_hasTarget 1 := ⟨cm_In_hasTarget, (jw_2 (List.mem_of_getElem? (i := 66) rfl) rfl), (jw_2 (List.mem_of_getElem? (i := 45) rfl) rfl)⟩
theorem ck_St_100 : jj_cs Y0 "VerifiedCode$State" 100 m_In_typeOfPlace 1 := ⟨cm_In_typeOfPlace, (jw_3 (List.mem_of_getElem? (i := 88) rfl) rfl), (jw_3 (List.mem_of_getElem? (i := 89) rfl) rfl)⟩
theorem ck_St_67 : jj_cs Y0 "VerifiedCode$State" 67 m_In_isReturn 1 := ⟨cm_In_isReturn, (jw_3 (List.mem_of_getElem? (i := 91) rfl) rfl), (jw_3 (List.mem_of_getElem? (i := 92) rfl) rfl)⟩
theorem ck_St_78 : jj_cs Y0 "VerifiedCode$State" 78 m_In_typeOfReturn 1 := ⟨cm_In_typeOfReturn, (jw_3 (List.mem_of_getElem? (i := 94) rfl) rfl), (jw_3 (List.mem_of_getElem? (i := 95) rfl) rfl)⟩
theorem ck_St_95 : jj_cs Y0 "VerifiedCode$State" 95 m_In_hasPlace 1 := ⟨cm_In_hasPlace, (jw_3 (List.mem_of_getElem? (i := 83) rfl) rfl), (jw_2 (List.mem_of_getElem? (i := 52) rfl) rfl)⟩
theorem ck_Mo_142 : jj_cs Y0 "VerifiedCodeModel" 142 m_Mo_need 2 := ⟨cm_Mo_need, (jw_5 (List.mem_of_getElem? (i := 16) rfl) rfl), (jw_5 (List.mem_of_getElem? (i := 17) rfl) rfl)⟩
theorem ck_Mo_151 : jj_cs Y0 "VerifiedCodeModel" 151 m_Mo_puts 1 := ⟨cm_Mo_puts, (jw_5 (List.mem_of_getElem? (i := 27) rfl) rfl), (jw_5 (List.mem_of_getElem? (i := 28) rfl) rfl)⟩
theorem ck_Mo_160 : jj_cs Y0 "VerifiedCodeModel" 160 m_Mo_good 2 := ⟨cm_Mo_good, (jw_5 (List.mem_of_getElem? (i := 38) rfl) rfl), (jw_5 (List.mem_of_getElem? (i := 39) rfl) rfl)⟩
theorem ck_Mo_240 : jj_cs Y0 "VerifiedCodeModel" 240 m_Mo_small 1 := ⟨cm_Mo_small, (jw_5 (List.mem_of_getElem? (i := 85) rfl) rfl), (jw_5 (List.mem_of_getElem? (i := 86) rfl) rfl)⟩
theorem ck_Mo_47 : jj_cs Y0 "VerifiedCodeModel" 47 m_Mo_within 3 := ⟨cm_Mo_within, (jw_4 (List.mem_of_getElem? (i := 121) rfl) rfl), (jw_4 (List.mem_of_getElem? (i := 122) rfl) rfl)⟩
theorem ck_Mo_51 : jj_cs Y0 "VerifiedCodeModel" 51 m_Mo_jumps 1 := ⟨cm_Mo_jumps, (jw_4 (List.mem_of_getElem? (i := 163) rfl) rfl), (jw_4 (List.mem_of_getElem? (i := 164) rfl) rfl)⟩
theorem ck_Mo_55 : jj_cs Y0 "VerifiedCodeModel" 55 m_Mo_names 1 := ⟨cm_Mo_names, (jw_4 (List.mem_of_getElem? (i := 166) rfl) rfl), (jw_4 (List.mem_of_getElem? (i := 167) rfl) rfl)⟩
theorem ck_Mo_58 : jj_cs Y0 "VerifiedCodeModel" 58 m_Mo_returns 1 := ⟨cm_Mo_returns, (jw_4 (List.mem_of_getElem? (i := 169) rfl) rfl), (jw_4 (List.mem_of_getElem? (i := 170) rfl) rfl)⟩
theorem ck_Mo_75 : jj_cs Y0 "VerifiedCodeModel" 75 m_Mo_bytes 1 := ⟨cm_Mo_bytes, (jw_4 (List.mem_of_getElem? (i := 160) rfl) rfl), (jw_4 (List.mem_of_getElem? (i := 161) rfl) rfl)⟩
theorem ck_Mo_84 : jj_cs Y0 "VerifiedCodeModel" 84 m_Mo_jump 2 := ⟨cm_Mo_jump, (jw_4 (List.mem_of_getElem? (i := 180) rfl) rfl), (jw_4 (List.mem_of_getElem? (i := 181) rfl) rfl)⟩
theorem ck_Ck_107 : jj_cn Y0 "VerifiedCode$Checker" 107 m_VC_isGoodFor 2 := ⟨cm_VC_isGoodFor, ⟨_, jw_n0⟩, (jw_3 (List.mem_of_getElem? (i := 40) rfl) rfl)⟩
theorem ck_St_91 : jj_cn Y0 "VerifiedCode$State" 91 m_VC_isGoodFor 2 := ⟨cm_VC_isGoodFor, ⟨_, jw_n1⟩, (jw_3 (List.mem_of_getElem? (i := 40) rfl) rfl)⟩
theorem ck_Ck_117 : jj_cv Y0 "VerifiedCode$Checker" 117 m_Pr_target 2 := ⟨cm_Pr_target, (jw_3 (List.mem_of_getElem? (i := 154) rfl) rfl), (jw_2 (List.mem_of_getElem? (i := 68) rfl) rfl), (jw_2 (List.mem_of_getElem? (i := 69) rfl) rfl)⟩
theorem ck_Ck_120 : jj_cv Y0 "VerifiedCode$Checker" 120 m_Pr_operand 2 := ⟨cm_Pr_operand, (jw_3 (List.mem_of_getElem? (i := 108) rfl) rfl), (jw_3 (List.mem_of_getElem? (i := 85) rfl) rfl), (jw_3 (List.mem_of_getElem? (i := 86) rfl) rfl)⟩
theorem ck_Ck_123 : jj_cv Y0 "VerifiedCode$Checker" 123 m_St_putPlace 1 := ⟨cm_St_putPlace, (jw_3 (List.mem_of_getElem? (i := 109) rfl) rfl), (jw_3 (List.mem_of_getElem? (i := 110) rfl) rfl), (jw_3 (List.mem_of_getElem? (i := 111) rfl) rfl)⟩
theorem ck_Ck_127 : jj_cv Y0 "VerifiedCode$Checker" 127 m_St_moveToPlace 1 := ⟨cm_St_moveToPlace, (jw_3 (List.mem_of_getElem? (i := 114) rfl) rfl), (jw_3 (List.mem_of_getElem? (i := 115) rfl) rfl), (jw_3 (List.mem_of_getElem? (i := 116) rfl) rfl)⟩
theorem ck_Ck_130 : jj_cv Y0 "VerifiedCode$Checker" 130 m_St_putAgain 0 := ⟨cm_St_putAgain, (jw_3 (List.mem_of_getElem? (i := 126) rfl) rfl), (jw_3 (List.mem_of_getElem? (i := 127) rfl) rfl), (jw_3 (List.mem_of_getElem? (i := 128) rfl) rfl)⟩
theorem ck_Ck_133 : jj_cv Y0 "VerifiedCode$Checker" 133 m_St_exchange 0 := ⟨cm_St_exchange, (jw_3 (List.mem_of_getElem? (i := 138) rfl) rfl), (jw_3 (List.mem_of_getElem? (i := 139) rfl) rfl), (jw_3 (List.mem_of_getElem? (i := 140) rfl) rfl)⟩
theorem ck_Ck_136 : jj_cv Y0 "VerifiedCode$Checker" 136 m_Pr_takenCount 2 := ⟨cm_Pr_takenCount, (jw_3 (List.mem_of_getElem? (i := 142) rfl) rfl), (jw_3 (List.mem_of_getElem? (i := 56) rfl) rfl), (jw_3 (List.mem_of_getElem? (i := 57) rfl) rfl)⟩
theorem ck_Ck_139 : jj_cv Y0 "VerifiedCode$Checker" 139 m_Pr_putCount 2 := ⟨cm_Pr_putCount, (jw_3 (List.mem_of_getElem? (i := 143) rfl) rfl), (jw_3 (List.mem_of_getElem? (i := 98) rfl) rfl), (jw_3 (List.mem_of_getElem? (i := 99) rfl) rfl)⟩
theorem ck_Ck_142 : jj_cv Y0 "VerifiedCode$Checker" 142 m_Ck_typePut 3 := ⟨cm_Ck_typePut, (jw_3 (List.mem_of_getElem? (i := 144) rfl) rfl), (jw_3 (List.mem_of_getElem? (i := 146) rfl) rfl), (jw_s (List.mem_of_getElem? (i := 18) rfl))⟩
theorem ck_Ck_146 : jj_cv Y0 "VerifiedCode$Checker" 146 m_Pr_called 2 := ⟨cm_Pr_called, (jw_3 (List.mem_of_getElem? (i := 148) rfl) rfl), (jw_3 (List.mem_of_getElem? (i := 60) rfl) rfl), (jw_3 (List.mem_of_getElem? (i := 61) rfl) rfl)⟩
theorem ck_Ck_18 : jj_cv Y0 "VerifiedCode$Checker" 18 m_St_makeEmpty 0 := ⟨cm_St_makeEmpty, (jw_3 (List.mem_of_getElem? (i := 4) rfl) rfl), (jw_3 (List.mem_of_getElem? (i := 5) rfl) rfl), (jw_3 (List.mem_of_getElem? (i := 6) rfl) rfl)⟩
theorem ck_Ck_27 : jj_cv Y0 "VerifiedCode$Checker" 27 m_Pr_parameterType 2 := ⟨cm_Pr_parameterType, (jw_3 (List.mem_of_getElem? (i := 12) rfl) rfl), (jw_3 (List.mem_of_getElem? (i := 13) rfl) rfl), (jw_3 (List.mem_of_getElem? (i := 14) rfl) rfl)⟩
theorem ck_Ck_33 : jj_cv Y0 "VerifiedCode$Checker" 33 m_St_setPlace 3 := ⟨cm_St_setPlace, (jw_3 (List.mem_of_getElem? (i := 16) rfl) rfl), (jw_3 (List.mem_of_getElem? (i := 9) rfl) rfl), (jw_3 (List.mem_of_getElem? (i := 10) rfl) rfl)⟩
theorem ck_Ck_44 : jj_cv Y0 "VerifiedCode$Checker" 44 m_Pr_code 2 := ⟨cm_Pr_code, (jw_3 (List.mem_of_getElem? (i := 17) rfl) rfl), (jw_2 (List.mem_of_getElem? (i := 63) rfl) rfl), (jw_2 (List.mem_of_getElem? (i := 64) rfl) rfl)⟩
theorem ck_Ck_47 : jj_cv Y0 "VerifiedCode$Checker" 47 m_Ck_entersFrame 3 := ⟨cm_Ck_entersFrame, (jw_3 (List.mem_of_getElem? (i := 18) rfl) rfl), (jw_3 (List.mem_of_getElem? (i := 20) rfl) rfl), (jw_s (List.mem_of_getElem? (i := 13) rfl))⟩
theorem ck_Ck_51 : jj_cv Y0 "VerifiedCode$Checker" 51 m_St_allows 3 := ⟨cm_St_allows, (jw_3 (List.mem_of_getElem? (i := 50) rfl) rfl), (jw_3 (List.mem_of_getElem? (i := 51) rfl) rfl), (jw_3 (List.mem_of_getElem? (i := 52) rfl) rfl)⟩
theorem ck_Ck_54 : jj_cv Y0 "VerifiedCode$Checker" 54 m_Ck_change 3 := ⟨cm_Ck_change, (jw_3 (List.mem_of_getElem? (i := 104) rfl) rfl), (jw_3 (List.mem_of_getElem? (i := 106) rfl) rfl), (jw_s (List.mem_of_getElem? (i := 17) rfl))⟩
theorem ck_Ck_58 : jj_cv Y0 "VerifiedCode$Checker" 58 m_Ck_mayGoToTarget 3 := ⟨cm_Ck_mayGoToTarget, (jw_3 (List.mem_of_getElem? (i := 149) rfl) rfl), (jw_3 (List.mem_of_getElem? (i := 151) rfl) rfl), (jw_s (List.mem_of_getElem? (i := 19) rfl))⟩
theorem ck_Ck_77 : jj_cv Y0 "VerifiedCode$Checker" 77 m_Pr_frameAt 2 := ⟨cm_Pr_frameAt, (jw_3 (List.mem_of_getElem? (i := 22) rfl) rfl), (jw_3 (List.mem_of_getElem? (i := 23) rfl) rfl), (jw_3 (List.mem_of_getElem? (i := 24) rfl) rfl)⟩
theorem ck_Ck_80 : jj_cv Y0 "VerifiedCode$Checker" 80 m_Ck_isGoodForFrame 3 := ⟨cm_Ck_isGoodForFrame, (jw_3 (List.mem_of_getElem? (i := 27) rfl) rfl), (jw_3 (List.mem_of_getElem? (i := 29) rfl) rfl), (jw_s (List.mem_of_getElem? (i := 14) rfl))⟩
theorem ck_Ck_86 : jj_cv Y0 "VerifiedCode$Checker" 86 m_Pr_framePlace 3 := ⟨cm_Pr_framePlace, (jw_3 (List.mem_of_getElem? (i := 35) rfl) rfl), (jw_3 (List.mem_of_getElem? (i := 36) rfl) rfl), (jw_3 (List.mem_of_getElem? (i := 37) rfl) rfl)⟩
theorem ck_Ck_93 : jj_cv Y0 "VerifiedCode$Checker" 93 m_Pr_frameHeight 2 := ⟨cm_Pr_frameHeight, (jw_3 (List.mem_of_getElem? (i := 31) rfl) rfl), (jw_3 (List.mem_of_getElem? (i := 32) rfl) rfl), (jw_3 (List.mem_of_getElem? (i := 33) rfl) rfl)⟩
theorem ck_Ck_96 : jj_cv Y0 "VerifiedCode$Checker" 96 m_Pr_frameValue 3 := ⟨cm_Pr_frameValue, (jw_3 (List.mem_of_getElem? (i := 42) rfl) rfl), (jw_3 (List.mem_of_getElem? (i := 43) rfl) rfl), (jw_3 (List.mem_of_getElem? (i := 44) rfl) rfl)⟩
theorem ck_Ck_99 : jj_cv Y0 "VerifiedCode$Checker" 99 m_St_put 2 := ⟨cm_St_put, (jw_3 (List.mem_of_getElem? (i := 46) rfl) rfl), (jw_3 (List.mem_of_getElem? (i := 47) rfl) rfl), (jw_3 (List.mem_of_getElem? (i := 48) rfl) rfl)⟩
theorem ck_Ma_105 : jj_cv Y0 "VerifiedCode$Machine" 105 m_Pr_operand 2 := ⟨cm_Pr_operand, (jw_3 (List.mem_of_getElem? (i := 219) rfl) rfl), (jw_3 (List.mem_of_getElem? (i := 85) rfl) rfl), (jw_3 (List.mem_of_getElem? (i := 86) rfl) rfl)⟩
theorem ck_Ma_108 : jj_cv Y0 "VerifiedCode$Machine" 108 m_Ma_call 2 := ⟨cm_Ma_call, (jw_3 (List.mem_of_getElem? (i := 220) rfl) rfl), (jw_3 (List.mem_of_getElem? (i := 222) rfl) rfl), (jw_s (List.mem_of_getElem? (i := 28) rfl))⟩
theorem ck_Ma_115 : jj_cv Y0 "VerifiedCode$Machine" 115 m_Ma_goesToTarget 2 := ⟨cm_Ma_goesToTarget, (jw_3 (List.mem_of_getElem? (i := 225) rfl) rfl), (jw_3 (List.mem_of_getElem? (i := 227) rfl) rfl), (jw_s (List.mem_of_getElem? (i := 29) rfl))⟩
theorem ck_Ma_119 : jj_cv Y0 "VerifiedCode$Machine" 119 m_Pr_target 2 := ⟨cm_Pr_target, (jw_3 (List.mem_of_getElem? (i := 233) rfl) rfl), (jw_2 (List.mem_of_getElem? (i := 68) rfl) rfl), (jw_2 (List.mem_of_getElem? (i := 69) rfl) rfl)⟩
theorem ck_Ma_122 : jj_cv Y0 "VerifiedCode$Machine" 122 m_Ma_doWithOperand 4 := ⟨cm_Ma_doWithOperand, (jw_3 (List.mem_of_getElem? (i := 234) rfl) rfl), (jw_3 (List.mem_of_getElem? (i := 236) rfl) rfl), (jw_s (List.mem_of_getElem? (i := 31) rfl))⟩
theorem ck_Ma_126 : jj_cv Y0 "VerifiedCode$Machine" 126 m_Ma_doAlone 2 := ⟨cm_Ma_doAlone, (jw_4 (List.mem_of_getElem? (i := 8) rfl) rfl), (jw_4 (List.mem_of_getElem? (i := 10) rfl) rfl), (jw_s (List.mem_of_getElem? (i := 32) rfl))⟩
theorem ck_Ma_130 : jj_cv Y0 "VerifiedCode$Machine" 130 m_St_valueBelow 1 := ⟨cm_St_valueBelow, (jw_3 (List.mem_of_getElem? (i := 200) rfl) rfl), (jw_3 (List.mem_of_getElem? (i := 135) rfl) rfl), (jw_3 (List.mem_of_getElem? (i := 136) rfl) rfl)⟩
theorem ck_Ma_133 : jj_cv Y0 "VerifiedCode$Machine" 133 m_St_kindBelow 1 := ⟨cm_St_kindBelow, (jw_3 (List.mem_of_getElem? (i := 201) rfl) rfl), (jw_3 (List.mem_of_getElem? (i := 131) rfl) rfl), (jw_3 (List.mem_of_getElem? (i := 132) rfl) rfl)⟩
theorem ck_Ma_136 : jj_cv Y0 "VerifiedCode$Machine" 136 m_Ma_troubleOfElement 2 := ⟨cm_Ma_troubleOfElement, (jw_3 (List.mem_of_getElem? (i := 202) rfl) rfl), (jw_3 (List.mem_of_getElem? (i := 204) rfl) rfl), (jw_s (List.mem_of_getElem? (i := 25) rfl))⟩
theorem ck_Ma_139 : jj_cv Y0 "VerifiedCode$Machine" 139 m_St_take 0 := ⟨cm_St_take, (jw_3 (List.mem_of_getElem? (i := 211) rfl) rfl), (jw_3 (List.mem_of_getElem? (i := 119) rfl) rfl), (jw_3 (List.mem_of_getElem? (i := 120) rfl) rfl)⟩
theorem ck_Ma_143 : jj_cv Y0 "VerifiedCode$Machine" 143 m_St_kindTaken 0 := ⟨cm_St_kindTaken, (jw_3 (List.mem_of_getElem? (i := 212) rfl) rfl), (jw_3 (List.mem_of_getElem? (i := 123) rfl) rfl), (jw_3 (List.mem_of_getElem? (i := 124) rfl) rfl)⟩
theorem ck_Ma_146 : jj_cv Y0 "VerifiedCode$Machine" 146 m_Ma_resultOf 2 := ⟨cm_Ma_resultOf, (jw_3 (List.mem_of_getElem? (i := 213) rfl) rfl), (jw_3 (List.mem_of_getElem? (i := 215) rfl) rfl), (jw_s (List.mem_of_getElem? (i := 27) rfl))⟩
theorem ck_Ma_153 : jj_cv Y0 "VerifiedCode$Machine" 153 m_St_put 2 := ⟨cm_St_put, (jw_3 (List.mem_of_getElem? (i := 217) rfl) rfl), (jw_3 (List.mem_of_getElem? (i := 47) rfl) rfl), (jw_3 (List.mem_of_getElem? (i := 48) rfl) rfl)⟩
theorem ck_Ma_157 : jj_cv Y0 "VerifiedCode$Machine" 157 m_Ma_holds 3 := ⟨cm_Ma_holds, (jw_3 (List.mem_of_getElem? (i := 229) rfl) rfl), (jw_3 (List.mem_of_getElem? (i := 231) rfl) rfl), (jw_s (List.mem_of_getElem? (i := 30) rfl))⟩
theorem ck_Ma_161 : jj_cv Y0 "VerifiedCode$Machine" 161 m_Pr_signedByte 2 := ⟨cm_Pr_signedByte, (jw_3 (List.mem_of_getElem? (i := 238) rfl) rfl), (jw_3 (List.mem_of_getElem? (i := 239) rfl) rfl), (jw_4 (List.mem_of_getElem? (i := 0) rfl) rfl)⟩
theorem ck_Ma_164 : jj_cv Y0 "VerifiedCode$Machine" 164 m_Pr_constant 1 := ⟨cm_Pr_constant, (jw_4 (List.mem_of_getElem? (i := 2) rfl) rfl), (jw_4 (List.mem_of_getElem? (i := 3) rfl) rfl), (jw_4 (List.mem_of_getElem? (i := 4) rfl) rfl)⟩
theorem ck_Ma_167 : jj_cv Y0 "VerifiedCode$Machine" 167 m_St_putPlace 1 := ⟨cm_St_putPlace, (jw_4 (List.mem_of_getElem? (i := 6) rfl) rfl), (jw_3 (List.mem_of_getElem? (i := 110) rfl) rfl), (jw_3 (List.mem_of_getElem? (i := 111) rfl) rfl)⟩
theorem ck_Ma_170 : jj_cv Y0 "VerifiedCode$Machine" 170 m_St_moveToPlace 1 := ⟨cm_St_moveToPlace, (jw_4 (List.mem_of_getElem? (i := 7) rfl) rfl), (jw_3 (List.mem_of_getElem? (i := 115) rfl) rfl), (jw_3 (List.mem_of_getElem? (i := 116) rfl) rfl)⟩
theorem ck_Ma_176 : jj_cv Y0 "VerifiedCode$Machine" 176 m_St_putAgain 0 := ⟨cm_St_putAgain, (jw_4 (List.mem_of_getElem? (i := 12) rfl) rfl), (jw_3 (List.mem_of_getElem? (i := 127) rfl) rfl), (jw_3 (List.mem_of_getElem? (i := 128) rfl) rfl)⟩
theorem ck_Ma_179 : jj_cv Y0 "VerifiedCode$Machine" 179 m_St_exchange 0 := ⟨cm_St_exchange, (jw_4 (List.mem_of_getElem? (i := 13) rfl) rfl), (jw_3 (List.mem_of_getElem? (i := 139) rfl) rfl), (jw_3 (List.mem_of_getElem? (i := 140) rfl) rfl)⟩
theorem ck_Ma_182 : jj_cv Y0 "VerifiedCode$Machine" 182 m_Ma_storeElement 1 := ⟨cm_Ma_storeElement, (jw_4 (List.mem_of_getElem? (i := 14) rfl) rfl), (jw_4 (List.mem_of_getElem? (i := 16) rfl) rfl), (jw_s (List.mem_of_getElem? (i := 33) rfl))⟩
theorem ck_Ma_186 : jj_cv Y0 "VerifiedCode$Machine" 186 m_Ma_reckoned 3 := ⟨cm_Ma_reckoned, (jw_4 (List.mem_of_getElem? (i := 18) rfl) rfl), (jw_4 (List.mem_of_getElem? (i := 20) rfl) rfl), (jw_s (List.mem_of_getElem? (i := 34) rfl))⟩
theorem ck_Ma_41 : jj_cv Y0 "VerifiedCode$Machine" 41 m_Ma_enter 1 := ⟨cm_Ma_enter, (jw_3 (List.mem_of_getElem? (i := 171) rfl) rfl), (jw_3 (List.mem_of_getElem? (i := 173) rfl) rfl), (jw_s (List.mem_of_getElem? (i := 20) rfl))⟩
theorem ck_Ma_56 : jj_cv Y0 "VerifiedCode$Machine" 56 m_Ma_setArgument 3 := ⟨cm_Ma_setArgument, (jw_3 (List.mem_of_getElem? (i := 176) rfl) rfl), (jw_3 (List.mem_of_getElem? (i := 178) rfl) rfl), (jw_s (List.mem_of_getElem? (i := 21) rfl))⟩
theorem ck_Ma_60 : jj_cv Y0 "VerifiedCode$Machine" 60 m_St_makeEmpty 0 := ⟨cm_St_makeEmpty, (jw_3 (List.mem_of_getElem? (i := 175) rfl) rfl), (jw_3 (List.mem_of_getElem? (i := 5) rfl) rfl), (jw_3 (List.mem_of_getElem? (i := 6) rfl) rfl)⟩
theorem ck_Ma_63 : jj_cv Y0 "VerifiedCode$Machine" 63 m_Pr_parameterType 2 := ⟨cm_Pr_parameterType, (jw_3 (List.mem_of_getElem? (i := 180) rfl) rfl), (jw_3 (List.mem_of_getElem? (i := 13) rfl) rfl), (jw_3 (List.mem_of_getElem? (i := 14) rfl) rfl)⟩
theorem ck_Ma_67 : jj_cv Y0 "VerifiedCode$Machine" 67 m_St_setPlace 3 := ⟨cm_St_setPlace, (jw_3 (List.mem_of_getElem? (i := 181) rfl) rfl), (jw_3 (List.mem_of_getElem? (i := 9) rfl) rfl), (jw_3 (List.mem_of_getElem? (i := 10) rfl) rfl)⟩
theorem ck_Ma_71 : jj_cv Y0 "VerifiedCode$Machine" 71 m_Ma_newRow 1 := ⟨cm_Ma_newRow, (jw_3 (List.mem_of_getElem? (i := 182) rfl) rfl), (jw_3 (List.mem_of_getElem? (i := 184) rfl) rfl), (jw_s (List.mem_of_getElem? (i := 22) rfl))⟩
theorem ck_Ma_75 : jj_cv Y0 "VerifiedCode$Machine" 75 m_Ma_doOne 1 := ⟨cm_Ma_doOne, (jw_3 (List.mem_of_getElem? (i := 190) rfl) rfl), (jw_3 (List.mem_of_getElem? (i := 192) rfl) rfl), (jw_s (List.mem_of_getElem? (i := 23) rfl))⟩
theorem ck_Ma_82 : jj_cv Y0 "VerifiedCode$Machine" 82 m_St_allows 3 := ⟨cm_St_allows, (jw_3 (List.mem_of_getElem? (i := 194) rfl) rfl), (jw_3 (List.mem_of_getElem? (i := 51) rfl) rfl), (jw_3 (List.mem_of_getElem? (i := 52) rfl) rfl)⟩
theorem ck_Ma_86 : jj_cv Y0 "VerifiedCode$Machine" 86 m_Pr_code 2 := ⟨cm_Pr_code, (jw_3 (List.mem_of_getElem? (i := 195) rfl) rfl), (jw_2 (List.mem_of_getElem? (i := 63) rfl) rfl), (jw_2 (List.mem_of_getElem? (i := 64) rfl) rfl)⟩
theorem ck_Ma_89 : jj_cv Y0 "VerifiedCode$Machine" 89 m_Ma_trouble 2 := ⟨cm_Ma_trouble, (jw_3 (List.mem_of_getElem? (i := 196) rfl) rfl), (jw_3 (List.mem_of_getElem? (i := 198) rfl) rfl), (jw_s (List.mem_of_getElem? (i := 24) rfl))⟩
theorem ck_Ma_99 : jj_cv Y0 "VerifiedCode$Machine" 99 m_Ma_leave 2 := ⟨cm_Ma_leave, (jw_3 (List.mem_of_getElem? (i := 207) rfl) rfl), (jw_3 (List.mem_of_getElem? (i := 209) rfl) rfl), (jw_s (List.mem_of_getElem? (i := 26) rfl))⟩
theorem ck_Pr_41 : jj_cv Y0 "VerifiedCode$Program" 41 m_Pr_code 2 := ⟨cm_Pr_code, (jw_2 (List.mem_of_getElem? (i := 71) rfl) rfl), (jw_2 (List.mem_of_getElem? (i := 63) rfl) rfl), (jw_2 (List.mem_of_getElem? (i := 64) rfl) rfl)⟩
theorem ck_Pr_56 : jj_cv Y0 "VerifiedCode$Program" 56 m_Pr_frameOffset 2 := ⟨cm_Pr_frameOffset, (jw_3 (List.mem_of_getElem? (i := 26) rfl) rfl), (jw_2 (List.mem_of_getElem? (i := 83) rfl) rfl), (jw_2 (List.mem_of_getElem? (i := 84) rfl) rfl)⟩
theorem ck_Pr_61 : jj_cv Y0 "VerifiedCode$Program" 61 m_Pr_called 2 := ⟨cm_Pr_called, (jw_3 (List.mem_of_getElem? (i := 59) rfl) rfl), (jw_3 (List.mem_of_getElem? (i := 60) rfl) rfl), (jw_3 (List.mem_of_getElem? (i := 61) rfl) rfl)⟩
theorem ck_Pr_72 : jj_cv Y0 "VerifiedCode$Program" 72 m_Pr_parameterType 2 := ⟨cm_Pr_parameterType, (jw_3 (List.mem_of_getElem? (i := 74) rfl) rfl), (jw_3 (List.mem_of_getElem? (i := 13) rfl) rfl), (jw_3 (List.mem_of_getElem? (i := 14) rfl) rfl)⟩
theorem ck_Rd_108 : jj_cv Y0 "VerifiedCode$Reader" 108 m_Rd_highestOperand 4 := ⟨cm_Rd_highestOperand, (jw_2 (List.mem_of_getElem? (i := 47) rfl) rfl), (jw_2 (List.mem_of_getElem? (i := 49) rfl) rfl), (jw_s (List.mem_of_getElem? (i := 7) rfl))⟩
theorem ck_Rd_122 : jj_cv Y0 "VerifiedCode$Reader" 122 m_Pr_code 2 := ⟨cm_Pr_code, (jw_2 (List.mem_of_getElem? (i := 62) rfl) rfl), (jw_2 (List.mem_of_getElem? (i := 63) rfl) rfl), (jw_2 (List.mem_of_getElem? (i := 64) rfl) rfl)⟩
theorem ck_Rd_129 : jj_cv Y0 "VerifiedCode$Reader" 129 m_Pr_target 2 := ⟨cm_Pr_target, (jw_2 (List.mem_of_getElem? (i := 67) rfl) rfl), (jw_2 (List.mem_of_getElem? (i := 68) rfl) rfl), (jw_2 (List.mem_of_getElem? (i := 69) rfl) rfl)⟩
theorem ck_Rd_132 : jj_cv Y0 "VerifiedCode$Reader" 132 m_Rd_beginsAt 2 := ⟨cm_Rd_beginsAt, (jw_2 (List.mem_of_getElem? (i := 74) rfl) rfl), (jw_2 (List.mem_of_getElem? (i := 76) rfl) rfl), (jw_s (List.mem_of_getElem? (i := 10) rfl))⟩
theorem ck_Rd_136 : jj_cv Y0 "VerifiedCode$Reader" 136 m_Pr_frameOffset 2 := ⟨cm_Pr_frameOffset, (jw_2 (List.mem_of_getElem? (i := 82) rfl) rfl), (jw_2 (List.mem_of_getElem? (i := 83) rfl) rfl), (jw_2 (List.mem_of_getElem? (i := 84) rfl) rfl)⟩
theorem ck_Rd_19 : jj_cv Y0 "VerifiedCode$Reader" 19 m_Rd_next 3 := ⟨cm_Rd_next, (jw_2 (List.mem_of_getElem? (i := 13) rfl) rfl), (jw_2 (List.mem_of_getElem? (i := 15) rfl) rfl), (jw_s (List.mem_of_getElem? (i := 0) rfl))⟩
theorem ck_Rd_23 : jj_cv Y0 "VerifiedCode$Reader" 23 m_Rd_readsConstants 1 := ⟨cm_Rd_readsConstants, (jw_2 (List.mem_of_getElem? (i := 17) rfl) rfl), (jw_2 (List.mem_of_getElem? (i := 19) rfl) rfl), (jw_s (List.mem_of_getElem? (i := 1) rfl))⟩
theorem ck_Rd_39 : jj_cv Y0 "VerifiedCode$Reader" 39 m_Rd_readsMethod 2 := ⟨cm_Rd_readsMethod, (jw_2 (List.mem_of_getElem? (i := 25) rfl) rfl), (jw_2 (List.mem_of_getElem? (i := 27) rfl) rfl), (jw_s (List.mem_of_getElem? (i := 3) rfl))⟩
theorem ck_Rd_56 : jj_cv Y0 "VerifiedCode$Reader" 56 m_Rd_nextOnes 4 := ⟨cm_Rd_nextOnes, (jw_2 (List.mem_of_getElem? (i := 21) rfl) rfl), (jw_2 (List.mem_of_getElem? (i := 23) rfl) rfl), (jw_s (List.mem_of_getElem? (i := 2) rfl))⟩
theorem ck_Rd_60 : jj_cv Y0 "VerifiedCode$Reader" 60 m_Rd_readsHead 2 := ⟨cm_Rd_readsHead, (jw_2 (List.mem_of_getElem? (i := 29) rfl) rfl), (jw_2 (List.mem_of_getElem? (i := 31) rfl) rfl), (jw_s (List.mem_of_getElem? (i := 4) rfl))⟩
theorem ck_Rd_63 : jj_cv Y0 "VerifiedCode$Reader" 63 m_Rd_readsCode 2 := ⟨cm_Rd_readsCode, (jw_2 (List.mem_of_getElem? (i := 33) rfl) rfl), (jw_2 (List.mem_of_getElem? (i := 35) rfl) rfl), (jw_s (List.mem_of_getElem? (i := 5) rfl))⟩
theorem ck_Rd_66 : jj_cv Y0 "VerifiedCode$Reader" 66 m_Rd_readsFrames 2 := ⟨cm_Rd_readsFrames, (jw_2 (List.mem_of_getElem? (i := 54) rfl) rfl), (jw_2 (List.mem_of_getElem? (i := 56) rfl) rfl), (jw_s (List.mem_of_getElem? (i := 8) rfl))⟩
theorem ck_Rd_69 : jj_cv Y0 "VerifiedCode$Reader" 69 m_Rd_targetsBegin 2 := ⟨cm_Rd_targetsBegin, (jw_2 (List.mem_of_getElem? (i := 58) rfl) rfl), (jw_2 (List.mem_of_getElem? (i := 60) rfl) rfl), (jw_s (List.mem_of_getElem? (i := 9) rfl))⟩
theorem ck_Rd_72 : jj_cv Y0 "VerifiedCode$Reader" 72 m_Rd_framesBegin 2 := ⟨cm_Rd_framesBegin, (jw_2 (List.mem_of_getElem? (i := 78) rfl) rfl), (jw_2 (List.mem_of_getElem? (i := 80) rfl) rfl), (jw_s (List.mem_of_getElem? (i := 11) rfl))⟩
theorem ck_Rd_98 : jj_cv Y0 "VerifiedCode$Reader" 98 m_Rd_readsInstruction 3 := ⟨cm_Rd_readsInstruction, (jw_2 (List.mem_of_getElem? (i := 37) rfl) rfl), (jw_2 (List.mem_of_getElem? (i := 39) rfl) rfl), (jw_s (List.mem_of_getElem? (i := 6) rfl))⟩
theorem ck_St_24 : jj_cv Y0 "VerifiedCode$State" 24 m_St_setPlace 3 := ⟨cm_St_setPlace, (jw_3 (List.mem_of_getElem? (i := 8) rfl) rfl), (jw_3 (List.mem_of_getElem? (i := 9) rfl) rfl), (jw_3 (List.mem_of_getElem? (i := 10) rfl) rfl)⟩
theorem ck_St_32 : jj_cv Y0 "VerifiedCode$State" 32 m_St_kindBelow 1 := ⟨cm_St_kindBelow, (jw_3 (List.mem_of_getElem? (i := 130) rfl) rfl), (jw_3 (List.mem_of_getElem? (i := 131) rfl) rfl), (jw_3 (List.mem_of_getElem? (i := 132) rfl) rfl)⟩
theorem ck_St_36 : jj_cv Y0 "VerifiedCode$State" 36 m_St_valueBelow 1 := ⟨cm_St_valueBelow, (jw_3 (List.mem_of_getElem? (i := 134) rfl) rfl), (jw_3 (List.mem_of_getElem? (i := 135) rfl) rfl), (jw_3 (List.mem_of_getElem? (i := 136) rfl) rfl)⟩
theorem ck_St_39 : jj_cv Y0 "VerifiedCode$State" 39 m_St_put 2 := ⟨cm_St_put, (jw_3 (List.mem_of_getElem? (i := 113) rfl) rfl), (jw_3 (List.mem_of_getElem? (i := 47) rfl) rfl), (jw_3 (List.mem_of_getElem? (i := 48) rfl) rfl)⟩
theorem ck_St_43 : jj_cv Y0 "VerifiedCode$State" 43 m_St_take 0 := ⟨cm_St_take, (jw_3 (List.mem_of_getElem? (i := 118) rfl) rfl), (jw_3 (List.mem_of_getElem? (i := 119) rfl) rfl), (jw_3 (List.mem_of_getElem? (i := 120) rfl) rfl)⟩
theorem ck_St_47 : jj_cv Y0 "VerifiedCode$State" 47 m_St_kindTaken 0 := ⟨cm_St_kindTaken, (jw_3 (List.mem_of_getElem? (i := 122) rfl) rfl), (jw_3 (List.mem_of_getElem? (i := 123) rfl) rfl), (jw_3 (List.mem_of_getElem? (i := 124) rfl) rfl)⟩
theorem ck_St_50 : jj_cv Y0 "VerifiedCode$State" 50 m_Pr_code 2 := ⟨cm_Pr_code, (jw_3 (List.mem_of_getElem? (i := 54) rfl) rfl), (jw_2 (List.mem_of_getElem? (i := 63) rfl) rfl), (jw_2 (List.mem_of_getElem? (i := 64) rfl) rfl)⟩
theorem ck_St_56 : jj_cv Y0 "VerifiedCode$State" 56 m_Pr_takenCount 2 := ⟨cm_Pr_takenCount, (jw_3 (List.mem_of_getElem? (i := 55) rfl) rfl), (jw_3 (List.mem_of_getElem? (i := 56) rfl) rfl), (jw_3 (List.mem_of_getElem? (i := 57) rfl) rfl)⟩
theorem ck_St_59 : jj_cv Y0 "VerifiedCode$State" 59 m_St_hasTaken 4 := ⟨cm_St_hasTaken, (jw_3 (List.mem_of_getElem? (i := 66) rfl) rfl), (jw_3 (List.mem_of_getElem? (i := 68) rfl) rfl), (jw_s (List.mem_of_getElem? (i := 15) rfl))⟩
theorem ck_St_63 : jj_cv Y0 "VerifiedCode$State" 63 m_St_hasPlace 3 := ⟨cm_St_hasPlace, (jw_3 (List.mem_of_getElem? (i := 79) rfl) rfl), (jw_3 (List.mem_of_getElem? (i := 81) rfl) rfl), (jw_s (List.mem_of_getElem? (i := 16) rfl))⟩
theorem ck_St_81 : jj_cv Y0 "VerifiedCode$State" 81 m_Pr_putCount 2 := ⟨cm_Pr_putCount, (jw_3 (List.mem_of_getElem? (i := 97) rfl) rfl), (jw_3 (List.mem_of_getElem? (i := 98) rfl) rfl), (jw_3 (List.mem_of_getElem? (i := 99) rfl) rfl)⟩
theorem ck_St_87 : jj_cv Y0 "VerifiedCode$State" 87 m_Pr_takenType 3 := ⟨cm_Pr_takenType, (jw_3 (List.mem_of_getElem? (i := 70) rfl) rfl), (jw_3 (List.mem_of_getElem? (i := 71) rfl) rfl), (jw_3 (List.mem_of_getElem? (i := 72) rfl) rfl)⟩
theorem ck_St_97 : jj_cv Y0 "VerifiedCode$State" 97 m_Pr_operand 2 := ⟨cm_Pr_operand, (jw_3 (List.mem_of_getElem? (i := 84) rfl) rfl), (jw_3 (List.mem_of_getElem? (i := 85) rfl) rfl), (jw_3 (List.mem_of_getElem? (i := 86) rfl) rfl)⟩
theorem ck_VC_101 : jj_cv Y0 "VerifiedCode" 101 m_Ck_firstRefused 2 := ⟨cm_Ck_firstRefused, (jw_3 (List.mem_of_getElem? (i := 0) rfl) rfl), (jw_3 (List.mem_of_getElem? (i := 1) rfl) rfl), (jw_3 (List.mem_of_getElem? (i := 2) rfl) rfl)⟩
theorem ck_VC_105 : jj_cv Y0 "VerifiedCode" 105 m_Ma_begin 5 := ⟨cm_Ma_begin, (jw_3 (List.mem_of_getElem? (i := 167) rfl) rfl), (jw_3 (List.mem_of_getElem? (i := 168) rfl) rfl), (jw_3 (List.mem_of_getElem? (i := 169) rfl) rfl)⟩
theorem ck_VC_109 : jj_cv Y0 "VerifiedCode" 109 m_Ma_goToEnd 1 := ⟨cm_Ma_goToEnd, (jw_3 (List.mem_of_getElem? (i := 186) rfl) rfl), (jw_3 (List.mem_of_getElem? (i := 187) rfl) rfl), (jw_3 (List.mem_of_getElem? (i := 188) rfl) rfl)⟩
theorem ck_VC_67 : jj_cv Y0 "VerifiedCode" 67 m_Pr_takeFile 2 := ⟨cm_Pr_takeFile, (jw_2 (List.mem_of_getElem? (i := 2) rfl) rfl), (jw_2 (List.mem_of_getElem? (i := 3) rfl) rfl), (jw_2 (List.mem_of_getElem? (i := 4) rfl) rfl)⟩
theorem ck_VC_71 : jj_cv Y0 "VerifiedCode" 71 m_Rd_readsFile 1 := ⟨cm_Rd_readsFile, (jw_2 (List.mem_of_getElem? (i := 9) rfl) rfl), (jw_2 (List.mem_of_getElem? (i := 10) rfl) rfl), (jw_2 (List.mem_of_getElem? (i := 11) rfl) rfl)⟩
theorem ck_Mo_108 : jj_cv Y0 "VerifiedCodeModel" 108 m_Mo_methodCount 0 := ⟨cm_Mo_methodCount, (jw_4 (List.mem_of_getElem? (i := 192) rfl) rfl), (jw_4 (List.mem_of_getElem? (i := 194) rfl) rfl), (jw_s (List.mem_of_getElem? (i := 41) rfl))⟩
theorem ck_Mo_112 : jj_cv Y0 "VerifiedCodeModel" 112 m_Mo_codeOf 1 := ⟨cm_Mo_codeOf, (jw_4 (List.mem_of_getElem? (i := 212) rfl) rfl), (jw_4 (List.mem_of_getElem? (i := 214) rfl) rfl), (jw_s (List.mem_of_getElem? (i := 45) rfl))⟩
theorem ck_Mo_115 : jj_cv Y0 "VerifiedCodeModel" 115 m_Mo_lengthOf 1 := ⟨cm_Mo_lengthOf, (jw_4 (List.mem_of_getElem? (i := 216) rfl) rfl), (jw_4 (List.mem_of_getElem? (i := 218) rfl) rfl), (jw_s (List.mem_of_getElem? (i := 46) rfl))⟩
theorem ck_Mo_118 : jj_cv Y0 "VerifiedCodeModel" 118 m_Mo_placesOf 1 := ⟨cm_Mo_placesOf, (jw_4 (List.mem_of_getElem? (i := 220) rfl) rfl), (jw_4 (List.mem_of_getElem? (i := 222) rfl) rfl), (jw_s (List.mem_of_getElem? (i := 47) rfl))⟩
theorem ck_Mo_121 : jj_cv Y0 "VerifiedCodeModel" 121 m_Mo_methodAt 1 := ⟨cm_Mo_methodAt, (jw_4 (List.mem_of_getElem? (i := 208) rfl) rfl), (jw_4 (List.mem_of_getElem? (i := 210) rfl) rfl), (jw_s (List.mem_of_getElem? (i := 44) rfl))⟩
theorem ck_Mo_145 : jj_cv Y0 "VerifiedCodeModel" 145 m_Mo_needs 2 := ⟨cm_Mo_needs, (jw_5 (List.mem_of_getElem? (i := 12) rfl) rfl), (jw_5 (List.mem_of_getElem? (i := 14) rfl) rfl), (jw_s (List.mem_of_getElem? (i := 55) rfl))⟩
theorem ck_Mo_148 : jj_cv Y0 "VerifiedCodeModel" 148 m_Mo_returnsOf 1 := ⟨cm_Mo_returnsOf, (jw_5 (List.mem_of_getElem? (i := 23) rfl) rfl), (jw_5 (List.mem_of_getElem? (i := 25) rfl) rfl), (jw_s (List.mem_of_getElem? (i := 57) rfl))⟩
theorem ck_Mo_154 : jj_cv Y0 "VerifiedCodeModel" 154 m_Mo_takes 1 := ⟨cm_Mo_takes, (jw_5 (List.mem_of_getElem? (i := 8) rfl) rfl), (jw_5 (List.mem_of_getElem? (i := 10) rfl) rfl), (jw_s (List.mem_of_getElem? (i := 54) rfl))⟩
theorem ck_Mo_157 : jj_cv Y0 "VerifiedCodeModel" 157 m_Mo_gives 1 := ⟨cm_Mo_gives, (jw_5 (List.mem_of_getElem? (i := 19) rfl) rfl), (jw_5 (List.mem_of_getElem? (i := 21) rfl) rfl), (jw_s (List.mem_of_getElem? (i := 56) rfl))⟩
theorem ck_Mo_166 : jj_cv Y0 "VerifiedCodeModel" 166 m_Mo_push 3 := ⟨cm_Mo_push, (jw_5 (List.mem_of_getElem? (i := 30) rfl) rfl), (jw_5 (List.mem_of_getElem? (i := 32) rfl) rfl), (jw_s (List.mem_of_getElem? (i := 58) rfl))⟩
theorem ck_Mo_169 : jj_cv Y0 "VerifiedCodeModel" 169 m_Mo_begin 1 := ⟨cm_Mo_begin, (jw_4 (List.mem_of_getElem? (i := 232) rfl) rfl), (jw_4 (List.mem_of_getElem? (i := 234) rfl) rfl), (jw_s (List.mem_of_getElem? (i := 50) rfl))⟩
theorem ck_Mo_173 : jj_cv Y0 "VerifiedCodeModel" 173 m_Mo_frame 2 := ⟨cm_Mo_frame, (jw_4 (List.mem_of_getElem? (i := 236) rfl) rfl), (jw_4 (List.mem_of_getElem? (i := 238) rfl) rfl), (jw_s (List.mem_of_getElem? (i := 51) rfl))⟩
theorem ck_Mo_177 : jj_cv Y0 "VerifiedCodeModel" 177 m_Mo_become 1 := ⟨cm_Mo_become, (jw_5 (List.mem_of_getElem? (i := 0) rfl) rfl), (jw_5 (List.mem_of_getElem? (i := 2) rfl) rfl), (jw_s (List.mem_of_getElem? (i := 52) rfl))⟩
theorem ck_Mo_180 : jj_cv Y0 "VerifiedCodeModel" 180 m_Mo_pass 1 := ⟨cm_Mo_pass, (jw_5 (List.mem_of_getElem? (i := 4) rfl) rfl), (jw_5 (List.mem_of_getElem? (i := 6) rfl) rfl), (jw_s (List.mem_of_getElem? (i := 53) rfl))⟩
theorem ck_Mo_183 : jj_cv Y0 "VerifiedCodeModel" 183 m_Mo_arrive 1 := ⟨cm_Mo_arrive, (jw_4 (List.mem_of_getElem? (i := 228) rfl) rfl), (jw_4 (List.mem_of_getElem? (i := 230) rfl) rfl), (jw_s (List.mem_of_getElem? (i := 49) rfl))⟩
theorem ck_Mo_186 : jj_cv Y0 "VerifiedCodeModel" 186 m_Mo_fits 1 := ⟨cm_Mo_fits, (jw_5 (List.mem_of_getElem? (i := 34) rfl) rfl), (jw_5 (List.mem_of_getElem? (i := 36) rfl) rfl), (jw_s (List.mem_of_getElem? (i := 59) rfl))⟩
theorem ck_Mo_189 : jj_cv Y0 "VerifiedCodeModel" 189 m_Mo_can 2 := ⟨cm_Mo_can, (jw_5 (List.mem_of_getElem? (i := 41) rfl) rfl), (jw_5 (List.mem_of_getElem? (i := 43) rfl) rfl), (jw_s (List.mem_of_getElem? (i := 60) rfl))⟩
theorem ck_Mo_192 : jj_cv Y0 "VerifiedCodeModel" 192 m_Mo_target 1 := ⟨cm_Mo_target, (jw_5 (List.mem_of_getElem? (i := 45) rfl) rfl), (jw_5 (List.mem_of_getElem? (i := 47) rfl) rfl), (jw_s (List.mem_of_getElem? (i := 61) rfl))⟩
theorem ck_Mo_195 : jj_cv Y0 "VerifiedCodeModel" 195 m_Mo_lackOfMethod 1 := ⟨cm_Mo_lackOfMethod, (jw_4 (List.mem_of_getElem? (i := 200) rfl) rfl), (jw_4 (List.mem_of_getElem? (i := 202) rfl) rfl), (jw_s (List.mem_of_getElem? (i := 42) rfl))⟩
theorem ck_Mo_198 : jj_cv Y0 "VerifiedCodeModel" 198 m_Mo_open 1 := ⟨cm_Mo_open, (jw_4 (List.mem_of_getElem? (i := 204) rfl) rfl), (jw_4 (List.mem_of_getElem? (i := 206) rfl) rfl), (jw_s (List.mem_of_getElem? (i := 43) rfl))⟩
theorem ck_Mo_201 : jj_cv Y0 "VerifiedCodeModel" 201 m_Mo_passes 1 := ⟨cm_Mo_passes, (jw_4 (List.mem_of_getElem? (i := 224) rfl) rfl), (jw_4 (List.mem_of_getElem? (i := 226) rfl) rfl), (jw_s (List.mem_of_getElem? (i := 48) rfl))⟩
theorem ck_Mo_207 : jj_cv Y0 "VerifiedCodeModel" 207 m_Mo_makeRow 1 := ⟨cm_Mo_makeRow, (jw_5 (List.mem_of_getElem? (i := 57) rfl) rfl), (jw_5 (List.mem_of_getElem? (i := 59) rfl) rfl), (jw_s (List.mem_of_getElem? (i := 63) rfl))⟩
theorem ck_Mo_215 : jj_cv Y0 "VerifiedCodeModel" 215 m_Mo_argue 2 := ⟨cm_Mo_argue, (jw_5 (List.mem_of_getElem? (i := 53) rfl) rfl), (jw_5 (List.mem_of_getElem? (i := 55) rfl) rfl), (jw_s (List.mem_of_getElem? (i := 62) rfl))⟩
theorem ck_Mo_218 : jj_cv Y0 "VerifiedCodeModel" 218 m_Mo_step 0 := ⟨cm_Mo_step, (jw_5 (List.mem_of_getElem? (i := 61) rfl) rfl), (jw_5 (List.mem_of_getElem? (i := 63) rfl) rfl), (jw_s (List.mem_of_getElem? (i := 64) rfl))⟩
theorem ck_Mo_221 : jj_cv Y0 "VerifiedCodeModel" 221 m_Mo_wrong 2 := ⟨cm_Mo_wrong, (jw_5 (List.mem_of_getElem? (i := 65) rfl) rfl), (jw_5 (List.mem_of_getElem? (i := 67) rfl) rfl), (jw_s (List.mem_of_getElem? (i := 65) rfl))⟩
theorem ck_Mo_224 : jj_cv Y0 "VerifiedCodeModel" 224 m_Mo_enter 2 := ⟨cm_Mo_enter, (jw_5 (List.mem_of_getElem? (i := 69) rfl) rfl), (jw_5 (List.mem_of_getElem? (i := 71) rfl) rfl), (jw_s (List.mem_of_getElem? (i := 66) rfl))⟩
theorem ck_Mo_227 : jj_cv Y0 "VerifiedCodeModel" 227 m_Mo_leave 3 := ⟨cm_Mo_leave, (jw_5 (List.mem_of_getElem? (i := 73) rfl) rfl), (jw_5 (List.mem_of_getElem? (i := 75) rfl) rfl), (jw_s (List.mem_of_getElem? (i := 67) rfl))⟩
theorem ck_Mo_231 : jj_cv Y0 "VerifiedCodeModel" 231 m_Mo_goes 2 := ⟨cm_Mo_goes, (jw_5 (List.mem_of_getElem? (i := 77) rfl) rfl), (jw_5 (List.mem_of_getElem? (i := 79) rfl) rfl), (jw_s (List.mem_of_getElem? (i := 68) rfl))⟩
theorem ck_Mo_234 : jj_cv Y0 "VerifiedCodeModel" 234 m_Mo_work 4 := ⟨cm_Mo_work, (jw_5 (List.mem_of_getElem? (i := 81) rfl) rfl), (jw_5 (List.mem_of_getElem? (i := 83) rfl) rfl), (jw_s (List.mem_of_getElem? (i := 69) rfl))⟩
theorem ck_Mo_243 : jj_cv Y0 "VerifiedCodeModel" 243 m_Mo_value 4 := ⟨cm_Mo_value, (jw_5 (List.mem_of_getElem? (i := 88) rfl) rfl), (jw_5 (List.mem_of_getElem? (i := 90) rfl) rfl), (jw_s (List.mem_of_getElem? (i := 70) rfl))⟩
theorem ck_Mo_247 : jj_cv Y0 "VerifiedCodeModel" 247 m_Mo_constant 1 := ⟨cm_Mo_constant, (jw_5 (List.mem_of_getElem? (i := 92) rfl) rfl), (jw_5 (List.mem_of_getElem? (i := 94) rfl) rfl), (jw_s (List.mem_of_getElem? (i := 71) rfl))⟩
theorem ck_Mo_71 : jj_cv Y0 "VerifiedCodeModel" 71 m_Mo_next 2 := ⟨cm_Mo_next, (jw_4 (List.mem_of_getElem? (i := 148) rfl) rfl), (jw_4 (List.mem_of_getElem? (i := 150) rfl) rfl), (jw_s (List.mem_of_getElem? (i := 36) rfl))⟩
theorem ck_Mo_79 : jj_cv Y0 "VerifiedCodeModel" 79 m_Mo_skip 3 := ⟨cm_Mo_skip, (jw_4 (List.mem_of_getElem? (i := 144) rfl) rfl), (jw_4 (List.mem_of_getElem? (i := 146) rfl) rfl), (jw_s (List.mem_of_getElem? (i := 35) rfl))⟩
theorem ck_Mo_87 : jj_cv Y0 "VerifiedCodeModel" 87 m_Mo_begins 3 := ⟨cm_Mo_begins, (jw_4 (List.mem_of_getElem? (i := 172) rfl) rfl), (jw_4 (List.mem_of_getElem? (i := 174) rfl) rfl), (jw_s (List.mem_of_getElem? (i := 39) rfl))⟩
theorem ck_Mo_90 : jj_cv Y0 "VerifiedCodeModel" 90 m_Mo_readInstruction 4 := ⟨cm_Mo_readInstruction, (jw_4 (List.mem_of_getElem? (i := 156) rfl) rfl), (jw_4 (List.mem_of_getElem? (i := 158) rfl) rfl), (jw_s (List.mem_of_getElem? (i := 38) rfl))⟩
theorem ck_Mo_94 : jj_cv Y0 "VerifiedCodeModel" 94 m_Mo_targetsFit 2 := ⟨cm_Mo_targetsFit, (jw_4 (List.mem_of_getElem? (i := 176) rfl) rfl), (jw_4 (List.mem_of_getElem? (i := 178) rfl) rfl), (jw_s (List.mem_of_getElem? (i := 40) rfl))⟩
theorem ck_Mo_98 : jj_cv Y0 "VerifiedCodeModel" 98 m_Mo_readMethod 2 := ⟨cm_Mo_readMethod, (jw_4 (List.mem_of_getElem? (i := 152) rfl) rfl), (jw_4 (List.mem_of_getElem? (i := 154) rfl) rfl), (jw_s (List.mem_of_getElem? (i := 37) rfl))⟩
theorem cw_copy_Pr_22 : Cond.methodLink "VerifiedCode$Program" 22 arraycopyName ∈ j_W := (jw_2 (List.mem_of_getElem? (i := 6) rfl) rfl)
theorem cw_copy_VC_89 : Cond.methodLink "VerifiedCode" 89 arraycopyName ∈ j_W := (jw_2 (List.mem_of_getElem? (i := 231) rfl) rfl)
theorem cw_max_Ck_71 : Cond.methodLink "VerifiedCode$Checker" 71 Lib.Math.max.name ∈ j_W := (jw_3 (List.mem_of_getElem? (i := 157) rfl) rfl)
theorem cw_max2 : Cond.static Lib.Math.max.name ∈ j_W := (jw_3 (List.mem_of_getElem? (i := 158) rfl) rfl)
theorem cw_max3 : Cond.initialized "java/lang/Math" ∈ j_W := (jw_1 (List.mem_of_getElem? (i := 17) rfl) rfl)
theorem cw_max4 : Cond.code Lib.Math.max.name Lib.Math.max.code 2 (some .int) ∈ j_W := (jw_3 (List.mem_of_getElem? (i := 159) rfl) rfl)
theorem cw_copy2 : Cond.native arraycopyName ∈ j_W := (jw_2 (List.mem_of_getElem? (i := 8) rfl) rfl)
theorem cw_copy3 : Cond.static arraycopyName ∈ j_W := (jw_2 (List.mem_of_getElem? (i := 7) rfl) rfl)
theorem cw_copy4 : Cond.initialized "java/lang/System" ∈ j_W := (jw_1 (List.mem_of_getElem? (i := 15) rfl) rfl)
end
section
theorem jj_l1 {l : List Int32} (h : l.length = 1) : ∃ a, l = [a] := by
  match l, h with
  | [a], _ => exact ⟨a, rfl⟩
theorem jj_l2 {l : List Int32} (h : l.length = 2) : ∃ a b, l = [a, b] := by
  match l, h with
  | [a, b], _ => exact ⟨a, b, rfl⟩
theorem jj_l3 {l : List Int32} (h : l.length = 3) : ∃ a b c, l = [a, b, c] := by
  match l, h with
  | [a, b, c], _ => exact ⟨a, b, c, rfl⟩
def s_In_hasPlace (a1 : Int32) : Option Int32 := se_run true 1 (fun _ => none) (se_code m_In_hasPlace.2.1) 400 0 [a1] []
theorem c_In_hasPlace {X : jj_X} {d : Nat} {a1 : Int32} {x : jj_Mem} {v : Int32} (h : s_In_hasPlace a1 = some v) : jj_Met Y0 X (d + 0) m_In_hasPlace [.int a1] x (jp_i (v, x)) := by
  refine jj_metp 0 (lo := [some (.int a1)]) rfl (Nat.le_of_ble_eq_true rfl) rfl ?_
  exact jj_J.sub (se_sound0 (Y := Y0) (X := X) (d := d + 0) (M := m_In_hasPlace) (x := x) rfl rfl (fun _ _ h => se_code_ok h) 400 0 [a1] [] v h) (fun i u hi => jj_pad 0 hi)
def s_In_hasTarget (a1 : Int32) : Option Int32 := se_run true 1 (fun _ => none) (se_code m_In_hasTarget.2.1) 400 0 [a1] []
theorem c_In_hasTarget {X : jj_X} {d : Nat} {a1 : Int32} {x : jj_Mem} {v : Int32} (h : s_In_hasTarget a1 = some v) : jj_Met Y0 X (d + 0) m_In_hasTarget [.int a1] x (jp_i (v, x)) := by
  refine jj_metp 0 (lo := [some (.int a1)]) rfl (Nat.le_of_ble_eq_true rfl) rfl ?_
  exact jj_J.sub (se_sound0 (Y := Y0) (X := X) (d := d + 0) (M := m_In_hasTarget) (x := x) rfl rfl (fun _ _ h => se_code_ok h) 400 0 [a1] [] v h) (fun i u hi => jj_pad 0 hi)
def s_In_isReturn (a1 : Int32) : Option Int32 := se_run true 1 (fun _ => none) (se_code m_In_isReturn.2.1) 400 0 [a1] []
theorem c_In_isReturn {X : jj_X} {d : Nat} {a1 : Int32} {x : jj_Mem} {v : Int32} (h : s_In_isReturn a1 = some v) : jj_Met Y0 X (d + 0) m_In_isReturn [.int a1] x (jp_i (v, x)) := by
  refine jj_metp 0 (lo := [some (.int a1)]) rfl (Nat.le_of_ble_eq_true rfl) rfl ?_
  exact jj_J.sub (se_sound0 (Y := Y0) (X := X) (d := d + 0) (M := m_In_isReturn) (x := x) rfl rfl (fun _ _ h => se_code_ok h) 400 0 [a1] [] v h) (fun i u hi => jj_pad 0 hi)
def s_In_puts (a1 : Int32) : Option Int32 := se_run false 1 (fun _ => none) (se_code m_In_puts.2.1) 400 0 [a1] []
theorem c_In_puts {X : jj_X} {d : Nat} {a1 : Int32} {x : jj_Mem} {v : Int32} (h : s_In_puts a1 = some v) : jj_Met Y0 X (d + 0) m_In_puts [.int a1] x (jp_i (v, x)) := by
  refine jj_metp 0 (lo := [some (.int a1)]) rfl (Nat.le_of_ble_eq_true rfl) rfl ?_
  exact jj_J.sub (se_sound0 (Y := Y0) (X := X) (d := d + 0) (M := m_In_puts) (x := x) rfl rfl (fun _ _ h => se_code_ok h) 400 0 [a1] [] v h) (fun i u hi => jj_pad 0 hi)
def s_In_takes (a1 : Int32) : Option Int32 := se_run false 1 (fun _ => none) (se_code m_In_takes.2.1) 400 0 [a1] []
theorem c_In_takes {X : jj_X} {d : Nat} {a1 : Int32} {x : jj_Mem} {v : Int32} (h : s_In_takes a1 = some v) : jj_Met Y0 X (d + 0) m_In_takes [.int a1] x (jp_i (v, x)) := by
  refine jj_metp 0 (lo := [some (.int a1)]) rfl (Nat.le_of_ble_eq_true rfl) rfl ?_
  exact jj_J.sub (se_sound0 (Y := Y0) (X := X) (d := d + 0) (M := m_In_takes) (x := x) rfl rfl (fun _ _ h => se_code_ok h) 400 0 [a1] [] v h) (fun i u hi => jj_pad 0 hi)
def s_In_typeOfPlace (a1 : Int32) : Option Int32 := se_run false 1 (fun _ => none) (se_code m_In_typeOfPlace.2.1) 400 0 [a1] []
theorem c_In_typeOfPlace {X : jj_X} {d : Nat} {a1 : Int32} {x : jj_Mem} {v : Int32} (h : s_In_typeOfPlace a1 = some v) : jj_Met Y0 X (d + 0) m_In_typeOfPlace [.int a1] x (jp_i (v, x)) := by
  refine jj_metp 0 (lo := [some (.int a1)]) rfl (Nat.le_of_ble_eq_true rfl) rfl ?_
  exact jj_J.sub (se_sound0 (Y := Y0) (X := X) (d := d + 0) (M := m_In_typeOfPlace) (x := x) rfl rfl (fun _ _ h => se_code_ok h) 400 0 [a1] [] v h) (fun i u hi => jj_pad 0 hi)
def s_In_typeOfReturn (a1 : Int32) : Option Int32 := se_run false 1 (fun _ => none) (se_code m_In_typeOfReturn.2.1) 400 0 [a1] []
theorem c_In_typeOfReturn {X : jj_X} {d : Nat} {a1 : Int32} {x : jj_Mem} {v : Int32} (h : s_In_typeOfReturn a1 = some v) : jj_Met Y0 X (d + 0) m_In_typeOfReturn [.int a1] x (jp_i (v, x)) := by
  refine jj_metp 0 (lo := [some (.int a1)]) rfl (Nat.le_of_ble_eq_true rfl) rfl ?_
  exact jj_J.sub (se_sound0 (Y := Y0) (X := X) (d := d + 0) (M := m_In_typeOfReturn) (x := x) rfl rfl (fun _ _ h => se_code_ok h) 400 0 [a1] [] v h) (fun i u hi => jj_pad 0 hi)
def s_In_typeTaken (a1 a2 : Int32) : Option Int32 := se_run false 2 (fun _ => none) (se_code m_In_typeTaken.2.1) 400 0 [a1, a2] []
theorem c_In_typeTaken {X : jj_X} {d : Nat} {a1 a2 : Int32} {x : jj_Mem} {v : Int32} (h : s_In_typeTaken a1 a2 = some v) : jj_Met Y0 X (d + 0) m_In_typeTaken [.int a1, .int a2] x (jp_i (v, x)) := by
  refine jj_metp 0 (lo := [some (.int a1), some (.int a2)]) rfl (Nat.le_of_ble_eq_true rfl) rfl ?_
  exact jj_J.sub (se_sound0 (Y := Y0) (X := X) (d := d + 0) (M := m_In_typeTaken) (x := x) rfl rfl (fun _ _ h => se_code_ok h) 400 0 [a1, a2] [] v h) (fun i u hi => jj_pad 0 hi)
def sc_In_length : Nat → Option (Nat × (List Int32 → Option Int32)) := fun k => match k with
  | 11 => some (1, fun l => match l with | [b0] => s_In_hasTarget b0 | _ => none)
  | _ => none
def s_In_length (a1 : Int32) : Option Int32 := se_run false 1 (sc_In_length) (se_code m_In_length.2.1) 400 0 [a1] []
theorem c_In_length {X : jj_X} {d : Nat} {a1 : Int32} {x : jj_Mem} {v : Int32} (h : s_In_length a1 = some v) : jj_Met Y0 X (d + 1) m_In_length [.int a1] x (jp_i (v, x)) := by
  refine jj_metp 0 (lo := [some (.int a1)]) rfl (Nat.le_of_ble_eq_true rfl) rfl ?_
  refine jj_J.sub (se_sound (Y := Y0) (X := X) (D := d + 1) (M := m_In_length) (x := x) rfl rfl (fun _ _ h => se_code_ok h) ?_ 400 0 [a1] [] v h) (fun i u hi => jj_pad 0 hi)
  intro idx n g hc
  unfold sc_In_length at hc
  split at hc
  · cases hc
    refine ⟨d + 0, m_In_hasTarget, rfl, Or.inl ck_In_11, fun as w hl hg => ?_⟩
    obtain ⟨b0, rfl⟩ := jj_l1 hl
    exact c_In_hasTarget (d := d + 0) hg
  · cases hc
end
section
def f_Ma_holds (this : Nat) (a1 : Int32) (a2 : Int32) (a3 : Int32) (x : jj_Mem) : Option (Int32 × jj_Mem) :=
  (if a1 = 0 then (if a2 = a3 then some (1, x) else some (0, x)) else if a1 = 1 then (if a2 = a3 then some (0, x) else some (1, x)) else if a1 = 2 then (if a3 ≤ a2 then some (0, x) else some (1, x)) else if a1 = 3 then (if a2 < a3 then some (0, x) else some (1, x)) else if a1 = 4 then (if a2 ≤ a3 then some (0, x) else some (1, x)) else (if a3 < a2 then some (0, x) else some (1, x)))
set_option maxHeartbeats 2000000 in
theorem t_Ma_holds_0 {X : jj_X} {d : Nat} {this : Nat} {a1 : Int32} {a2 : Int32} {a3 : Int32} (h_this : o_Ma this) {x : jj_Mem} {q : Int32 × jj_Mem} (h : f_Ma_holds this a1 a2 a3 x = some q) : jj_J Y0 X (d + 0) m_Ma_holds 0 [some (.ref this), some (.int a1), some (.int a2), some (.int a3)] [] x (jp_i q) := by
  unfold f_Ma_holds at h
  refine jj_iload_n d_Ma_holds_0 rfl ?_
  by_cases c1 : a1 = 0
  · rw [if_pos c1] at h
    refine jj_tableIn (tgt := 36) d_Ma_holds_1 (by rw [c1] <;> decide) (by rw [c1] <;> decide) (by rw [c1] <;> rfl) rfl ?_
    refine jj_iload_n d_Ma_holds_36 rfl ?_
    refine jj_iload_n d_Ma_holds_37 rfl ?_
    refine jj_ic_ne (tgt := 45) d_Ma_holds_38 rfl (fun c2 => ?_) (fun c2 => ?_)
    · rw [if_neg c2] at h
      refine jj_iconst d_Ma_holds_45 jc_i_0 ?_
      cases h
      exact jj_zreturn d_Ma_holds_46 rfl (Or.inl rfl) ⟨rfl, rfl⟩
    · rw [if_pos c2] at h
      refine jj_iconst d_Ma_holds_41 jc_i_1 ?_
      refine jj_goto (tgt := 46) d_Ma_holds_42 rfl ?_
      cases h
      exact jj_zreturn d_Ma_holds_46 rfl (Or.inr rfl) ⟨rfl, rfl⟩
  rw [if_neg c1] at h
  by_cases c3 : a1 = 1
  · rw [if_pos c3] at h
    refine jj_tableIn (tgt := 47) d_Ma_holds_1 (by rw [c3] <;> decide) (by rw [c3] <;> decide) (by rw [c3] <;> rfl) rfl ?_
    refine jj_iload_n d_Ma_holds_47 rfl ?_
    refine jj_iload_n d_Ma_holds_48 rfl ?_
    refine jj_ic_eq (tgt := 56) d_Ma_holds_49 rfl (fun c4 => ?_) (fun c4 => ?_)
    · rw [if_pos c4] at h
      refine jj_iconst d_Ma_holds_56 jc_i_0 ?_
      cases h
      exact jj_zreturn d_Ma_holds_57 rfl (Or.inl rfl) ⟨rfl, rfl⟩
    · rw [if_neg c4] at h
      refine jj_iconst d_Ma_holds_52 jc_i_1 ?_
      refine jj_goto (tgt := 57) d_Ma_holds_53 rfl ?_
      cases h
      exact jj_zreturn d_Ma_holds_57 rfl (Or.inr rfl) ⟨rfl, rfl⟩
  rw [if_neg c3] at h
  by_cases c5 : a1 = 2
  · rw [if_pos c5] at h
    refine jj_tableIn (tgt := 58) d_Ma_holds_1 (by rw [c5] <;> decide) (by rw [c5] <;> decide) (by rw [c5] <;> rfl) rfl ?_
    refine jj_iload_n d_Ma_holds_58 rfl ?_
    refine jj_iload_n d_Ma_holds_59 rfl ?_
    refine jj_ic_ge (tgt := 67) d_Ma_holds_60 rfl (fun c6 => ?_) (fun c6 => ?_)
    · rw [if_pos c6] at h
      refine jj_iconst d_Ma_holds_67 jc_i_0 ?_
      cases h
      exact jj_zreturn d_Ma_holds_68 rfl (Or.inl rfl) ⟨rfl, rfl⟩
    · rw [if_neg c6] at h
      refine jj_iconst d_Ma_holds_63 jc_i_1 ?_
      refine jj_goto (tgt := 68) d_Ma_holds_64 rfl ?_
      cases h
      exact jj_zreturn d_Ma_holds_68 rfl (Or.inr rfl) ⟨rfl, rfl⟩
  rw [if_neg c5] at h
  by_cases c7 : a1 = 3
  · rw [if_pos c7] at h
    refine jj_tableIn (tgt := 69) d_Ma_holds_1 (by rw [c7] <;> decide) (by rw [c7] <;> decide) (by rw [c7] <;> rfl) rfl ?_
    refine jj_iload_n d_Ma_holds_69 rfl ?_
    refine jj_iload_n d_Ma_holds_70 rfl ?_
    refine jj_ic_lt (tgt := 78) d_Ma_holds_71 rfl (fun c8 => ?_) (fun c8 => ?_)
    · rw [if_pos c8] at h
      refine jj_iconst d_Ma_holds_78 jc_i_0 ?_
      cases h
      exact jj_zreturn d_Ma_holds_79 rfl (Or.inl rfl) ⟨rfl, rfl⟩
    · rw [if_neg c8] at h
      refine jj_iconst d_Ma_holds_74 jc_i_1 ?_
      refine jj_goto (tgt := 79) d_Ma_holds_75 rfl ?_
      cases h
      exact jj_zreturn d_Ma_holds_79 rfl (Or.inr rfl) ⟨rfl, rfl⟩
  rw [if_neg c7] at h
  by_cases c9 : a1 = 4
  · rw [if_pos c9] at h
    refine jj_tableIn (tgt := 80) d_Ma_holds_1 (by rw [c9] <;> decide) (by rw [c9] <;> decide) (by rw [c9] <;> rfl) rfl ?_
    refine jj_iload_n d_Ma_holds_80 rfl ?_
    refine jj_iload_n d_Ma_holds_81 rfl ?_
    refine jj_ic_le (tgt := 89) d_Ma_holds_82 rfl (fun c10 => ?_) (fun c10 => ?_)
    · rw [if_pos c10] at h
      refine jj_iconst d_Ma_holds_89 jc_i_0 ?_
      cases h
      exact jj_zreturn d_Ma_holds_90 rfl (Or.inl rfl) ⟨rfl, rfl⟩
    · rw [if_neg c10] at h
      refine jj_iconst d_Ma_holds_85 jc_i_1 ?_
      refine jj_goto (tgt := 90) d_Ma_holds_86 rfl ?_
      cases h
      exact jj_zreturn d_Ma_holds_90 rfl (Or.inr rfl) ⟨rfl, rfl⟩
  rw [if_neg c9] at h
  refine jj_tableOut (tgt := 91) d_Ma_holds_1 (by have n1 := lv_neT (a := 0) c1 (by decide); have n3 := lv_neT (a := 1) c3 (by decide); have n5 := lv_neT (a := 2) c5 (by decide); have n7 := lv_neT (a := 3) c7 (by decide); have n9 := lv_neT (a := 4) c9 (by decide); omega) rfl ?_
  refine jj_iload_n d_Ma_holds_91 rfl ?_
  refine jj_iload_n d_Ma_holds_92 rfl ?_
  refine jj_ic_gt (tgt := 100) d_Ma_holds_93 rfl (fun c11 => ?_) (fun c11 => ?_)
  · rw [if_pos c11] at h
    refine jj_iconst d_Ma_holds_100 jc_i_0 ?_
    cases h
    exact jj_zreturn d_Ma_holds_101 rfl (Or.inl rfl) ⟨rfl, rfl⟩
  · rw [if_neg c11] at h
    refine jj_iconst d_Ma_holds_96 jc_i_1 ?_
    refine jj_goto (tgt := 101) d_Ma_holds_97 rfl ?_
    cases h
    exact jj_zreturn d_Ma_holds_101 rfl (Or.inr rfl) ⟨rfl, rfl⟩
theorem c_Ma_holds {X : jj_X} {d : Nat} {this : Nat} {a1 : Int32} {a2 : Int32} {a3 : Int32} (h_this : o_Ma this) {x : jj_Mem} {q : Int32 × jj_Mem} (h : f_Ma_holds this a1 a2 a3 x = some q) : jj_Met Y0 X (d + 0) m_Ma_holds [.ref this, .int a1, .int a2, .int a3] x (jp_i q) :=
  jj_metp 0 (lo := [some (.ref this), some (.int a1), some (.int a2), some (.int a3)]) rfl (Nat.le_of_ble_eq_true rfl) rfl (t_Ma_holds_0 h_this h)
def k_Ma_newRow_24 (rec : Nat → List (Option Value) → jj_Mem → Option (Int32 × jj_Mem)) (l0 : Nat) (l1 : Int32) (l2 : Int32) (l3 : Int32) (x : jj_Mem) : Option (Int32 × jj_Mem) :=
  (if l1 ≤ l3 then some (l2, x) else if jj_inb ((l2 * 8) + l3) 64 = true then rec 24 [some (.ref l0), some (.int l1), some (.int l2), some (.int (l3 + 1))] (jj_set x (l0 + 24) (((l2 * 8) + l3)).toNatClampNeg 0) else none)
set_option maxHeartbeats 2000000 in
theorem t_Ma_newRow_24 {X : jj_X} {d : Nat} (rec : Nat → List (Option Value) → jj_Mem → Option (Int32 × jj_Mem)) (hrec : ∀ (L : Nat) (lo : List (Option Value)) (x : jj_Mem) (q : Int32 × jj_Mem), rec L lo x = some q → jj_J Y0 X (d + 0) m_Ma_newRow L lo [] x (jp_i q)) {l0 : Nat} {l1 : Int32} {l2 : Int32} {l3 : Int32} (h_l0 : o_Ma l0) {x : jj_Mem} {q : Int32 × jj_Mem} (h : k_Ma_newRow_24 rec l0 l1 l2 l3 x = some q) : jj_J Y0 X (d + 0) m_Ma_newRow 24 [some (.ref l0), some (.int l1), some (.int l2), some (.int l3)] [] x (jp_i q) := by
  unfold k_Ma_newRow_24 at h
  refine jj_iload_n d_Ma_newRow_24 rfl ?_
  refine jj_iload_n d_Ma_newRow_25 rfl ?_
  refine jj_ic_ge (tgt := 47) d_Ma_newRow_26 rfl (fun c1 => ?_) (fun c1 => ?_)
  · rw [if_pos c1] at h
    refine jj_iload_n d_Ma_newRow_47 rfl ?_
    cases h
    exact jj_ireturn d_Ma_newRow_48 rfl ⟨rfl, rfl⟩
  · rw [if_neg c1] at h
    refine jj_aload_n d_Ma_newRow_29 rfl ?_
    refine jj_getR d_Ma_newRow_30 fk_Ma_25 (sh_Ma h_l0).2 (sh_Ma h_l0).1 rfl ?_
    refine jj_iload_n d_Ma_newRow_33 rfl ?_
    refine jj_bipush d_Ma_newRow_34 jc_b_8 ?_
    refine jj_imul d_Ma_newRow_36 ?_
    refine jj_iload_n d_Ma_newRow_37 rfl ?_
    refine jj_iadd d_Ma_newRow_38 ?_
    refine jj_iconst d_Ma_newRow_39 jc_i_0 ?_
    obtain ⟨i2, h⟩ := jj_gt h
    refine jj_iastore d_Ma_newRow_40 rfl (ar_Ma_elements h_l0).1 (ar_Ma_elements h_l0).2 (jj_inn i2) ?_
    refine jj_iinc (lo' := [_, _, _, _]) (v := (l3 + 1)) d_Ma_newRow_41 rfl (jc_a_1 _) rfl (by decide) rfl ?_
    refine jj_goto (tgt := 24) d_Ma_newRow_44 rfl ?_
    exact jj_J.sub (hrec _ _ _ _ h) (fun i v hi => jj_mask_ok [true, true, true, true] hi)
def g_Ma_newRow : Nat → Nat → List (Option Value) → jj_Mem → Option (Int32 × jj_Mem)
  | 0, _, _, _ => none
  | f + 1, L, lo, x => match L, lo with
    | 24, [some (.ref l0), some (.int l1), some (.int l2), some (.int l3)] => if (bo_Ma l0) = true then k_Ma_newRow_24 (g_Ma_newRow f) l0 l1 l2 l3 x else none
    | _, _ => none
set_option maxHeartbeats 2000000 in
theorem t_Ma_newRow_g {X : jj_X} {d : Nat} : ∀ (f L : Nat) (lo : List (Option Value)) (x : jj_Mem) (q : Int32 × jj_Mem), g_Ma_newRow f L lo x = some q → jj_J Y0 X (d + 0) m_Ma_newRow L lo [] x (jp_i q) := by
  intro f
  induction f with
  | zero => intro L lo x q h; simp [g_Ma_newRow] at h
  | succ f ih =>
    intro L lo x q h
    unfold g_Ma_newRow at h
    split at h
    · obtain ⟨i1, h⟩ := jj_gt h
      exact t_Ma_newRow_24 _ ih (ob_Ma i1) h
    · cases h
def k_Ma_newRow_0 (rec : Nat → List (Option Value) → jj_Mem → Option (Int32 × jj_Mem)) (this : Nat) (a1 : Int32) (x : jj_Mem) : Option (Int32 × jj_Mem) :=
  if jj_inb (x this 8) 8 = true then rec 24 [some (.ref this), some (.int a1), some (.int (x this 8)), some (.int 0)] (jj_set (jj_set x this 8 ((x this 8) + 1)) (this + 25) ((x this 8)).toNatClampNeg a1) else none
set_option maxHeartbeats 2000000 in
theorem t_Ma_newRow_0 {X : jj_X} {d : Nat} (rec : Nat → List (Option Value) → jj_Mem → Option (Int32 × jj_Mem)) (hrec : ∀ (L : Nat) (lo : List (Option Value)) (x : jj_Mem) (q : Int32 × jj_Mem), rec L lo x = some q → jj_J Y0 X (d + 0) m_Ma_newRow L lo [] x (jp_i q)) {this : Nat} {a1 : Int32} (h_this : o_Ma this) {x : jj_Mem} {q : Int32 × jj_Mem} (h : k_Ma_newRow_0 rec this a1 x = some q) : jj_J Y0 X (d + 0) m_Ma_newRow 0 [some (.ref this), some (.int a1), none, none] [] x (jp_i q) := by
  unfold k_Ma_newRow_0 at h
  refine jj_aload_n d_Ma_newRow_0 rfl ?_
  refine jj_getI d_Ma_newRow_1 fk_Ma_35 (sh_Ma h_this).2 (sh_Ma h_this).1 rfl rfl ?_
  refine jj_istore_n (lo' := [_, _, _, _]) d_Ma_newRow_4 rfl (by decide) rfl ?_
  refine jj_aload_n d_Ma_newRow_5 rfl ?_
  refine jj_dup d_Ma_newRow_6 rfl ?_
  refine jj_getI d_Ma_newRow_7 fk_Ma_35 (sh_Ma h_this).2 (sh_Ma h_this).1 rfl rfl ?_
  refine jj_iconst d_Ma_newRow_10 jc_i_1 ?_
  refine jj_iadd d_Ma_newRow_11 ?_
  refine jj_putI d_Ma_newRow_12 pk_Ma_35 (sh_Ma h_this).2 (sh_Ma h_this).1 rfl ?_
  refine jj_aload_n d_Ma_newRow_15 rfl ?_
  refine jj_getR d_Ma_newRow_16 fk_Ma_28 (sh_Ma h_this).2 (sh_Ma h_this).1 rfl ?_
  refine jj_iload_n d_Ma_newRow_19 rfl ?_
  refine jj_iload_n d_Ma_newRow_20 rfl ?_
  obtain ⟨i1, h⟩ := jj_gt h
  refine jj_iastore d_Ma_newRow_21 rfl (ar_Ma_lengths h_this).1 (ar_Ma_lengths h_this).2 (jj_inn i1) ?_
  refine jj_iconst d_Ma_newRow_22 jc_i_0 ?_
  refine jj_istore_n (lo' := [_, _, _, _]) d_Ma_newRow_23 rfl (by decide) rfl ?_
  exact jj_J.sub (hrec _ _ _ _ h) (fun i v hi => jj_mask_ok [true, true, true, true] hi)
def f_Ma_newRow (this : Nat) (a1 : Int32) (x : jj_Mem) : Option (Int32 × jj_Mem) := k_Ma_newRow_0 (g_Ma_newRow 1000) this a1 x
theorem c_Ma_newRow {X : jj_X} {d : Nat} {this : Nat} {a1 : Int32} (h_this : o_Ma this) {x : jj_Mem} {q : Int32 × jj_Mem} (h : f_Ma_newRow this a1 x = some q) : jj_Met Y0 X (d + 0) m_Ma_newRow [.ref this, .int a1] x (jp_i q) :=
  jj_metp 2 (lo := [some (.ref this), some (.int a1), none, none]) rfl (Nat.le_of_ble_eq_true rfl) rfl (t_Ma_newRow_0 _ (t_Ma_newRow_g 1000) h_this h)
def f_Ma_reckoned (this : Nat) (a1 : Int32) (a2 : Int32) (a3 : Int32) (x : jj_Mem) : Option (Int32 × jj_Mem) :=
  (if a1 = 96 then some ((a2 + a3), x) else if a1 = 100 then some ((a2 - a3), x) else if a1 = 104 then some ((a2 * a3), x) else (if a3 = 0 then some (0, x) else if jj_nz a3 = true then some ((a2 / a3), x) else none))
set_option maxHeartbeats 2000000 in
theorem t_Ma_reckoned_0 {X : jj_X} {d : Nat} {this : Nat} {a1 : Int32} {a2 : Int32} {a3 : Int32} (h_this : o_Ma this) {x : jj_Mem} {q : Int32 × jj_Mem} (h : f_Ma_reckoned this a1 a2 a3 x = some q) : jj_J Y0 X (d + 0) m_Ma_reckoned 0 [some (.ref this), some (.int a1), some (.int a2), some (.int a3)] [] x (jp_i q) := by
  unfold f_Ma_reckoned at h
  refine jj_iload_n d_Ma_reckoned_0 rfl ?_
  by_cases c1 : a1 = 96
  · rw [if_pos c1] at h
    refine jj_lookup (tgt := 36) d_Ma_reckoned_1 rfl (by rw [c1] <;> rfl) rfl ?_
    refine jj_iload_n d_Ma_reckoned_36 rfl ?_
    refine jj_iload_n d_Ma_reckoned_37 rfl ?_
    refine jj_iadd d_Ma_reckoned_38 ?_
    cases h
    exact jj_ireturn d_Ma_reckoned_39 rfl ⟨rfl, rfl⟩
  rw [if_neg c1] at h
  by_cases c2 : a1 = 100
  · rw [if_pos c2] at h
    refine jj_lookup (tgt := 40) d_Ma_reckoned_1 rfl (by rw [c2] <;> rfl) rfl ?_
    refine jj_iload_n d_Ma_reckoned_40 rfl ?_
    refine jj_iload_n d_Ma_reckoned_41 rfl ?_
    refine jj_isub d_Ma_reckoned_42 ?_
    cases h
    exact jj_ireturn d_Ma_reckoned_43 rfl ⟨rfl, rfl⟩
  rw [if_neg c2] at h
  by_cases c3 : a1 = 104
  · rw [if_pos c3] at h
    refine jj_lookup (tgt := 44) d_Ma_reckoned_1 rfl (by rw [c3] <;> rfl) rfl ?_
    refine jj_iload_n d_Ma_reckoned_44 rfl ?_
    refine jj_iload_n d_Ma_reckoned_45 rfl ?_
    refine jj_imul d_Ma_reckoned_46 ?_
    cases h
    exact jj_ireturn d_Ma_reckoned_47 rfl ⟨rfl, rfl⟩
  rw [if_neg c3] at h
  refine jj_lookup (tgt := 48) d_Ma_reckoned_1 rfl ((lv_osw c1 (by decide)).trans ((lv_osw c2 (by decide)).trans ((lv_osw c3 (by decide)).trans (rfl)))) rfl ?_
  refine jj_iload_n d_Ma_reckoned_48 rfl ?_
  refine jj_if_ne (tgt := 56) d_Ma_reckoned_49 rfl (fun c4 => ?_) (fun c4 => ?_)
  · rw [if_neg c4] at h
    refine jj_iload_n d_Ma_reckoned_56 rfl ?_
    refine jj_iload_n d_Ma_reckoned_57 rfl ?_
    obtain ⟨i5, h⟩ := jj_gt h
    refine jj_idiv d_Ma_reckoned_58 (jj_nzo i5) ?_
    cases h
    exact jj_ireturn d_Ma_reckoned_59 rfl ⟨rfl, rfl⟩
  · rw [if_pos c4] at h
    refine jj_iconst d_Ma_reckoned_52 jc_i_0 ?_
    refine jj_goto (tgt := 59) d_Ma_reckoned_53 rfl ?_
    cases h
    exact jj_ireturn d_Ma_reckoned_59 rfl ⟨rfl, rfl⟩
theorem c_Ma_reckoned {X : jj_X} {d : Nat} {this : Nat} {a1 : Int32} {a2 : Int32} {a3 : Int32} (h_this : o_Ma this) {x : jj_Mem} {q : Int32 × jj_Mem} (h : f_Ma_reckoned this a1 a2 a3 x = some q) : jj_Met Y0 X (d + 0) m_Ma_reckoned [.ref this, .int a1, .int a2, .int a3] x (jp_i q) :=
  jj_metp 0 (lo := [some (.ref this), some (.int a1), some (.int a2), some (.int a3)]) rfl (Nat.le_of_ble_eq_true rfl) rfl (t_Ma_reckoned_0 h_this h)
def f_Ma_resultOf (this : Nat) (a1 : Int32) (a2 : Int32) (x : jj_Mem) : Option (Int32 × jj_Mem) :=
  (if a1 = 1 then some (a2, x) else if a1 = 2 then if jj_inb a2 8 = true then some ((x (this + 25) (a2).toNatClampNeg), x) else none else if a1 = 3 then some ((-1), x) else some (0, x))
set_option maxHeartbeats 2000000 in
theorem t_Ma_resultOf_0 {X : jj_X} {d : Nat} {this : Nat} {a1 : Int32} {a2 : Int32} (h_this : o_Ma this) {x : jj_Mem} {q : Int32 × jj_Mem} (h : f_Ma_resultOf this a1 a2 x = some q) : jj_J Y0 X (d + 0) m_Ma_resultOf 0 [some (.ref this), some (.int a1), some (.int a2)] [] x (jp_i q) := by
  unfold f_Ma_resultOf at h
  refine jj_iload_n d_Ma_resultOf_0 rfl ?_
  by_cases c1 : a1 = 1
  · rw [if_pos c1] at h
    refine jj_tableIn (tgt := 28) d_Ma_resultOf_1 (by rw [c1] <;> decide) (by rw [c1] <;> decide) (by rw [c1] <;> rfl) rfl ?_
    refine jj_iload_n d_Ma_resultOf_28 rfl ?_
    cases h
    exact jj_ireturn d_Ma_resultOf_29 rfl ⟨rfl, rfl⟩
  rw [if_neg c1] at h
  by_cases c2 : a1 = 2
  · rw [if_pos c2] at h
    refine jj_tableIn (tgt := 30) d_Ma_resultOf_1 (by rw [c2] <;> decide) (by rw [c2] <;> decide) (by rw [c2] <;> rfl) rfl ?_
    refine jj_aload_n d_Ma_resultOf_30 rfl ?_
    refine jj_getR d_Ma_resultOf_31 fk_Ma_28 (sh_Ma h_this).2 (sh_Ma h_this).1 rfl ?_
    refine jj_iload_n d_Ma_resultOf_34 rfl ?_
    obtain ⟨i3, h⟩ := jj_gt h
    refine jj_iaload d_Ma_resultOf_35 rfl (ar_Ma_lengths h_this).1 (ar_Ma_lengths h_this).2 (jj_inn i3) rfl ?_
    cases h
    exact jj_ireturn d_Ma_resultOf_36 rfl ⟨rfl, rfl⟩
  rw [if_neg c2] at h
  by_cases c4 : a1 = 3
  · rw [if_pos c4] at h
    refine jj_tableIn (tgt := 37) d_Ma_resultOf_1 (by rw [c4] <;> decide) (by rw [c4] <;> decide) (by rw [c4] <;> rfl) rfl ?_
    refine jj_iconst d_Ma_resultOf_37 jc_i_m1 ?_
    cases h
    exact jj_ireturn d_Ma_resultOf_38 rfl ⟨rfl, rfl⟩
  rw [if_neg c4] at h
  refine jj_tableOut (tgt := 39) d_Ma_resultOf_1 (by have n1 := lv_neT (a := 1) c1 (by decide); have n2 := lv_neT (a := 2) c2 (by decide); have n4 := lv_neT (a := 3) c4 (by decide); omega) rfl ?_
  refine jj_iconst d_Ma_resultOf_39 jc_i_0 ?_
  cases h
  exact jj_ireturn d_Ma_resultOf_40 rfl ⟨rfl, rfl⟩
theorem c_Ma_resultOf {X : jj_X} {d : Nat} {this : Nat} {a1 : Int32} {a2 : Int32} (h_this : o_Ma this) {x : jj_Mem} {q : Int32 × jj_Mem} (h : f_Ma_resultOf this a1 a2 x = some q) : jj_Met Y0 X (d + 0) m_Ma_resultOf [.ref this, .int a1, .int a2] x (jp_i q) :=
  jj_metp 0 (lo := [some (.ref this), some (.int a1), some (.int a2)]) rfl (Nat.le_of_ble_eq_true rfl) rfl (t_Ma_resultOf_0 h_this h)
def f_Pr_called (this : Nat) (a1 : Nat) (a2 : Int32) (x : jj_Mem) : Option (Nat × jj_Mem) :=
  if jj_inb (((x a1 5) + a2) + 1) 240 = true then if jj_inb (x (this + 1) ((((x a1 5) + a2) + 1)).toNatClampNeg) 4 = true then some ((this + 3 + 2 * ((x (this + 1) ((((x a1 5) + a2) + 1)).toNatClampNeg)).toNatClampNeg), x) else none else none
set_option maxHeartbeats 2000000 in
theorem t_Pr_called_0 {X : jj_X} {d : Nat} {this : Nat} {a1 : Nat} {a2 : Int32} (h_this : o_Pr this) (h_a1 : o_Me a1) {x : jj_Mem} {q : Nat × jj_Mem} (h : f_Pr_called this a1 a2 x = some q) : jj_J Y0 X (d + 0) m_Pr_called 0 [some (.ref this), some (.ref a1), some (.int a2)] [] x (jp_r q) := by
  unfold f_Pr_called at h
  refine jj_aload_n d_Pr_called_0 rfl ?_
  refine jj_getR d_Pr_called_1 fk_Pr_17 (sh_Pr h_this).2 (sh_Pr h_this).1 rfl ?_
  refine jj_aload_n d_Pr_called_4 rfl ?_
  refine jj_getR d_Pr_called_5 fk_Pr_9 (sh_Pr h_this).2 (sh_Pr h_this).1 rfl ?_
  refine jj_aload_n d_Pr_called_8 rfl ?_
  refine jj_getI d_Pr_called_9 fk_Pr_38 (sh_Me h_a1).2 (sh_Me h_a1).1 rfl rfl ?_
  refine jj_iload_n d_Pr_called_12 rfl ?_
  refine jj_iadd d_Pr_called_13 ?_
  refine jj_iconst d_Pr_called_14 jc_i_1 ?_
  refine jj_iadd d_Pr_called_15 ?_
  obtain ⟨i1, h⟩ := jj_gt h
  refine jj_iaload d_Pr_called_16 rfl (ar_Pr_file h_this).1 (ar_Pr_file h_this).2 (jj_inn i1) rfl ?_
  obtain ⟨i2, h⟩ := jj_gt h
  refine jj_aaload d_Pr_called_17 rfl (pa_Pr_parts h_this).1 (pa_Pr_parts h_this).2 (jj_inn i2) rfl ?_
  cases h
  exact jj_areturn d_Pr_called_18 rfl ⟨rfl, rfl⟩
theorem c_Pr_called {X : jj_X} {d : Nat} {this : Nat} {a1 : Nat} {a2 : Int32} (h_this : o_Pr this) (h_a1 : o_Me a1) {x : jj_Mem} {q : Nat × jj_Mem} (h : f_Pr_called this a1 a2 x = some q) : jj_Met Y0 X (d + 0) m_Pr_called [.ref this, .ref a1, .int a2] x (jp_r q) :=
  jj_metp 0 (lo := [some (.ref this), some (.ref a1), some (.int a2)]) rfl (Nat.le_of_ble_eq_true rfl) rfl (t_Pr_called_0 h_this h_a1 h)
def f_Pr_code (this : Nat) (a1 : Nat) (a2 : Int32) (x : jj_Mem) : Option (Int32 × jj_Mem) :=
  if jj_inb ((x a1 5) + a2) 240 = true then some ((x (this + 1) (((x a1 5) + a2)).toNatClampNeg), x) else none
set_option maxHeartbeats 2000000 in
theorem t_Pr_code_0 {X : jj_X} {d : Nat} {this : Nat} {a1 : Nat} {a2 : Int32} (h_this : o_Pr this) (h_a1 : o_Me a1) {x : jj_Mem} {q : Int32 × jj_Mem} (h : f_Pr_code this a1 a2 x = some q) : jj_J Y0 X (d + 0) m_Pr_code 0 [some (.ref this), some (.ref a1), some (.int a2)] [] x (jp_i q) := by
  unfold f_Pr_code at h
  refine jj_aload_n d_Pr_code_0 rfl ?_
  refine jj_getR d_Pr_code_1 fk_Pr_9 (sh_Pr h_this).2 (sh_Pr h_this).1 rfl ?_
  refine jj_aload_n d_Pr_code_4 rfl ?_
  refine jj_getI d_Pr_code_5 fk_Pr_38 (sh_Me h_a1).2 (sh_Me h_a1).1 rfl rfl ?_
  refine jj_iload_n d_Pr_code_8 rfl ?_
  refine jj_iadd d_Pr_code_9 ?_
  obtain ⟨i1, h⟩ := jj_gt h
  refine jj_iaload d_Pr_code_10 rfl (ar_Pr_file h_this).1 (ar_Pr_file h_this).2 (jj_inn i1) rfl ?_
  cases h
  exact jj_ireturn d_Pr_code_11 rfl ⟨rfl, rfl⟩
theorem c_Pr_code {X : jj_X} {d : Nat} {this : Nat} {a1 : Nat} {a2 : Int32} (h_this : o_Pr this) (h_a1 : o_Me a1) {x : jj_Mem} {q : Int32 × jj_Mem} (h : f_Pr_code this a1 a2 x = some q) : jj_Met Y0 X (d + 0) m_Pr_code [.ref this, .ref a1, .int a2] x (jp_i q) :=
  jj_metp 0 (lo := [some (.ref this), some (.ref a1), some (.int a2)]) rfl (Nat.le_of_ble_eq_true rfl) rfl (t_Pr_code_0 h_this h_a1 h)
def f_Pr_constant (this : Nat) (a1 : Int32) (x : jj_Mem) : Option (Int32 × jj_Mem) :=
  if jj_inb ((x this 3) + (4 * a1)) 240 = true then if jj_inb (((x this 3) + (4 * a1)) + 1) 240 = true then if jj_inb (((x this 3) + (4 * a1)) + 2) 240 = true then if jj_inb (((x this 3) + (4 * a1)) + 3) 240 = true then some ((((((x (this + 1) (((x this 3) + (4 * a1))).toNatClampNeg) <<< (24 &&& 31)) ||| ((x (this + 1) ((((x this 3) + (4 * a1)) + 1)).toNatClampNeg) <<< (16 &&& 31))) ||| ((x (this + 1) ((((x this 3) + (4 * a1)) + 2)).toNatClampNeg) <<< (8 &&& 31))) ||| (x (this + 1) ((((x this 3) + (4 * a1)) + 3)).toNatClampNeg)), x) else none else none else none else none
set_option maxHeartbeats 2000000 in
theorem t_Pr_constant_0 {X : jj_X} {d : Nat} {this : Nat} {a1 : Int32} (h_this : o_Pr this) {x : jj_Mem} {q : Int32 × jj_Mem} (h : f_Pr_constant this a1 x = some q) : jj_J Y0 X (d + 0) m_Pr_constant 0 [some (.ref this), some (.int a1), none] [] x (jp_i q) := by
  unfold f_Pr_constant at h
  refine jj_aload_n d_Pr_constant_0 rfl ?_
  refine jj_getI d_Pr_constant_1 fk_Pr_32 (sh_Pr h_this).2 (sh_Pr h_this).1 rfl rfl ?_
  refine jj_iconst d_Pr_constant_4 jc_i_4 ?_
  refine jj_iload_n d_Pr_constant_5 rfl ?_
  refine jj_imul d_Pr_constant_6 ?_
  refine jj_iadd d_Pr_constant_7 ?_
  refine jj_istore_n (lo' := [_, _, _]) d_Pr_constant_8 rfl (by decide) rfl ?_
  refine jj_aload_n d_Pr_constant_9 rfl ?_
  refine jj_getR d_Pr_constant_10 fk_Pr_9 (sh_Pr h_this).2 (sh_Pr h_this).1 rfl ?_
  refine jj_iload_n d_Pr_constant_13 rfl ?_
  obtain ⟨i1, h⟩ := jj_gt h
  refine jj_iaload d_Pr_constant_14 rfl (ar_Pr_file h_this).1 (ar_Pr_file h_this).2 (jj_inn i1) rfl ?_
  refine jj_bipush d_Pr_constant_15 jc_b_24 ?_
  refine jj_ishl d_Pr_constant_17 ?_
  refine jj_aload_n d_Pr_constant_18 rfl ?_
  refine jj_getR d_Pr_constant_19 fk_Pr_9 (sh_Pr h_this).2 (sh_Pr h_this).1 rfl ?_
  refine jj_iload_n d_Pr_constant_22 rfl ?_
  refine jj_iconst d_Pr_constant_23 jc_i_1 ?_
  refine jj_iadd d_Pr_constant_24 ?_
  obtain ⟨i2, h⟩ := jj_gt h
  refine jj_iaload d_Pr_constant_25 rfl (ar_Pr_file h_this).1 (ar_Pr_file h_this).2 (jj_inn i2) rfl ?_
  refine jj_bipush d_Pr_constant_26 jc_b_16 ?_
  refine jj_ishl d_Pr_constant_28 ?_
  refine jj_ior d_Pr_constant_29 ?_
  refine jj_aload_n d_Pr_constant_30 rfl ?_
  refine jj_getR d_Pr_constant_31 fk_Pr_9 (sh_Pr h_this).2 (sh_Pr h_this).1 rfl ?_
  refine jj_iload_n d_Pr_constant_34 rfl ?_
  refine jj_iconst d_Pr_constant_35 jc_i_2 ?_
  refine jj_iadd d_Pr_constant_36 ?_
  obtain ⟨i3, h⟩ := jj_gt h
  refine jj_iaload d_Pr_constant_37 rfl (ar_Pr_file h_this).1 (ar_Pr_file h_this).2 (jj_inn i3) rfl ?_
  refine jj_bipush d_Pr_constant_38 jc_b_8 ?_
  refine jj_ishl d_Pr_constant_40 ?_
  refine jj_ior d_Pr_constant_41 ?_
  refine jj_aload_n d_Pr_constant_42 rfl ?_
  refine jj_getR d_Pr_constant_43 fk_Pr_9 (sh_Pr h_this).2 (sh_Pr h_this).1 rfl ?_
  refine jj_iload_n d_Pr_constant_46 rfl ?_
  refine jj_iconst d_Pr_constant_47 jc_i_3 ?_
  refine jj_iadd d_Pr_constant_48 ?_
  obtain ⟨i4, h⟩ := jj_gt h
  refine jj_iaload d_Pr_constant_49 rfl (ar_Pr_file h_this).1 (ar_Pr_file h_this).2 (jj_inn i4) rfl ?_
  refine jj_ior d_Pr_constant_50 ?_
  cases h
  exact jj_ireturn d_Pr_constant_51 rfl ⟨rfl, rfl⟩
theorem c_Pr_constant {X : jj_X} {d : Nat} {this : Nat} {a1 : Int32} (h_this : o_Pr this) {x : jj_Mem} {q : Int32 × jj_Mem} (h : f_Pr_constant this a1 x = some q) : jj_Met Y0 X (d + 0) m_Pr_constant [.ref this, .int a1] x (jp_i q) :=
  jj_metp 1 (lo := [some (.ref this), some (.int a1), none]) rfl (Nat.le_of_ble_eq_true rfl) rfl (t_Pr_constant_0 h_this h)
def f_Pr_frameHeight (this : Nat) (a1 : Nat) (a2 : Int32) (x : jj_Mem) : Option (Int32 × jj_Mem) :=
  if jj_inb a2 8 = true then if jj_inb (((x (a1 + 1) (a2).toNatClampNeg) + 1) + (x a1 4)) 240 = true then some ((x (this + 1) ((((x (a1 + 1) (a2).toNatClampNeg) + 1) + (x a1 4))).toNatClampNeg), x) else none else none
set_option maxHeartbeats 2000000 in
theorem t_Pr_frameHeight_0 {X : jj_X} {d : Nat} {this : Nat} {a1 : Nat} {a2 : Int32} (h_this : o_Pr this) (h_a1 : o_Me a1) {x : jj_Mem} {q : Int32 × jj_Mem} (h : f_Pr_frameHeight this a1 a2 x = some q) : jj_J Y0 X (d + 0) m_Pr_frameHeight 0 [some (.ref this), some (.ref a1), some (.int a2)] [] x (jp_i q) := by
  unfold f_Pr_frameHeight at h
  refine jj_aload_n d_Pr_frameHeight_0 rfl ?_
  refine jj_getR d_Pr_frameHeight_1 fk_Pr_9 (sh_Pr h_this).2 (sh_Pr h_this).1 rfl ?_
  refine jj_aload_n d_Pr_frameHeight_4 rfl ?_
  refine jj_getR d_Pr_frameHeight_5 fk_Pr_47 (sh_Me h_a1).2 (sh_Me h_a1).1 rfl ?_
  refine jj_iload_n d_Pr_frameHeight_8 rfl ?_
  obtain ⟨i1, h⟩ := jj_gt h
  refine jj_iaload d_Pr_frameHeight_9 rfl (ar_Me_framesAt h_a1).1 (ar_Me_framesAt h_a1).2 (jj_inn i1) rfl ?_
  refine jj_iconst d_Pr_frameHeight_10 jc_i_1 ?_
  refine jj_iadd d_Pr_frameHeight_11 ?_
  refine jj_aload_n d_Pr_frameHeight_12 rfl ?_
  refine jj_getI d_Pr_frameHeight_13 fk_Pr_50 (sh_Me h_a1).2 (sh_Me h_a1).1 rfl rfl ?_
  refine jj_iadd d_Pr_frameHeight_16 ?_
  obtain ⟨i2, h⟩ := jj_gt h
  refine jj_iaload d_Pr_frameHeight_17 rfl (ar_Pr_file h_this).1 (ar_Pr_file h_this).2 (jj_inn i2) rfl ?_
  cases h
  exact jj_ireturn d_Pr_frameHeight_18 rfl ⟨rfl, rfl⟩
theorem c_Pr_frameHeight {X : jj_X} {d : Nat} {this : Nat} {a1 : Nat} {a2 : Int32} (h_this : o_Pr this) (h_a1 : o_Me a1) {x : jj_Mem} {q : Int32 × jj_Mem} (h : f_Pr_frameHeight this a1 a2 x = some q) : jj_Met Y0 X (d + 0) m_Pr_frameHeight [.ref this, .ref a1, .int a2] x (jp_i q) :=
  jj_metp 0 (lo := [some (.ref this), some (.ref a1), some (.int a2)]) rfl (Nat.le_of_ble_eq_true rfl) rfl (t_Pr_frameHeight_0 h_this h_a1 h)
def f_Pr_frameOffset (this : Nat) (a1 : Nat) (a2 : Int32) (x : jj_Mem) : Option (Int32 × jj_Mem) :=
  if jj_inb a2 8 = true then if jj_inb (x (a1 + 1) (a2).toNatClampNeg) 240 = true then some ((x (this + 1) ((x (a1 + 1) (a2).toNatClampNeg)).toNatClampNeg), x) else none else none
set_option maxHeartbeats 2000000 in
theorem t_Pr_frameOffset_0 {X : jj_X} {d : Nat} {this : Nat} {a1 : Nat} {a2 : Int32} (h_this : o_Pr this) (h_a1 : o_Me a1) {x : jj_Mem} {q : Int32 × jj_Mem} (h : f_Pr_frameOffset this a1 a2 x = some q) : jj_J Y0 X (d + 0) m_Pr_frameOffset 0 [some (.ref this), some (.ref a1), some (.int a2)] [] x (jp_i q) := by
  unfold f_Pr_frameOffset at h
  refine jj_aload_n d_Pr_frameOffset_0 rfl ?_
  refine jj_getR d_Pr_frameOffset_1 fk_Pr_9 (sh_Pr h_this).2 (sh_Pr h_this).1 rfl ?_
  refine jj_aload_n d_Pr_frameOffset_4 rfl ?_
  refine jj_getR d_Pr_frameOffset_5 fk_Pr_47 (sh_Me h_a1).2 (sh_Me h_a1).1 rfl ?_
  refine jj_iload_n d_Pr_frameOffset_8 rfl ?_
  obtain ⟨i1, h⟩ := jj_gt h
  refine jj_iaload d_Pr_frameOffset_9 rfl (ar_Me_framesAt h_a1).1 (ar_Me_framesAt h_a1).2 (jj_inn i1) rfl ?_
  obtain ⟨i2, h⟩ := jj_gt h
  refine jj_iaload d_Pr_frameOffset_10 rfl (ar_Pr_file h_this).1 (ar_Pr_file h_this).2 (jj_inn i2) rfl ?_
  cases h
  exact jj_ireturn d_Pr_frameOffset_11 rfl ⟨rfl, rfl⟩
theorem c_Pr_frameOffset {X : jj_X} {d : Nat} {this : Nat} {a1 : Nat} {a2 : Int32} (h_this : o_Pr this) (h_a1 : o_Me a1) {x : jj_Mem} {q : Int32 × jj_Mem} (h : f_Pr_frameOffset this a1 a2 x = some q) : jj_Met Y0 X (d + 0) m_Pr_frameOffset [.ref this, .ref a1, .int a2] x (jp_i q) :=
  jj_metp 0 (lo := [some (.ref this), some (.ref a1), some (.int a2)]) rfl (Nat.le_of_ble_eq_true rfl) rfl (t_Pr_frameOffset_0 h_this h_a1 h)
def f_Pr_framePlace (this : Nat) (a1 : Nat) (a2 : Int32) (a3 : Int32) (x : jj_Mem) : Option (Int32 × jj_Mem) :=
  if jj_inb a2 8 = true then if jj_inb (((x (a1 + 1) (a2).toNatClampNeg) + 1) + a3) 240 = true then some ((x (this + 1) ((((x (a1 + 1) (a2).toNatClampNeg) + 1) + a3)).toNatClampNeg), x) else none else none
set_option maxHeartbeats 2000000 in
theorem t_Pr_framePlace_0 {X : jj_X} {d : Nat} {this : Nat} {a1 : Nat} {a2 : Int32} {a3 : Int32} (h_this : o_Pr this) (h_a1 : o_Me a1) {x : jj_Mem} {q : Int32 × jj_Mem} (h : f_Pr_framePlace this a1 a2 a3 x = some q) : jj_J Y0 X (d + 0) m_Pr_framePlace 0 [some (.ref this), some (.ref a1), some (.int a2), some (.int a3)] [] x (jp_i q) := by
  unfold f_Pr_framePlace at h
  refine jj_aload_n d_Pr_framePlace_0 rfl ?_
  refine jj_getR d_Pr_framePlace_1 fk_Pr_9 (sh_Pr h_this).2 (sh_Pr h_this).1 rfl ?_
  refine jj_aload_n d_Pr_framePlace_4 rfl ?_
  refine jj_getR d_Pr_framePlace_5 fk_Pr_47 (sh_Me h_a1).2 (sh_Me h_a1).1 rfl ?_
  refine jj_iload_n d_Pr_framePlace_8 rfl ?_
  obtain ⟨i1, h⟩ := jj_gt h
  refine jj_iaload d_Pr_framePlace_9 rfl (ar_Me_framesAt h_a1).1 (ar_Me_framesAt h_a1).2 (jj_inn i1) rfl ?_
  refine jj_iconst d_Pr_framePlace_10 jc_i_1 ?_
  refine jj_iadd d_Pr_framePlace_11 ?_
  refine jj_iload_n d_Pr_framePlace_12 rfl ?_
  refine jj_iadd d_Pr_framePlace_13 ?_
  obtain ⟨i2, h⟩ := jj_gt h
  refine jj_iaload d_Pr_framePlace_14 rfl (ar_Pr_file h_this).1 (ar_Pr_file h_this).2 (jj_inn i2) rfl ?_
  cases h
  exact jj_ireturn d_Pr_framePlace_15 rfl ⟨rfl, rfl⟩
theorem c_Pr_framePlace {X : jj_X} {d : Nat} {this : Nat} {a1 : Nat} {a2 : Int32} {a3 : Int32} (h_this : o_Pr this) (h_a1 : o_Me a1) {x : jj_Mem} {q : Int32 × jj_Mem} (h : f_Pr_framePlace this a1 a2 a3 x = some q) : jj_Met Y0 X (d + 0) m_Pr_framePlace [.ref this, .ref a1, .int a2, .int a3] x (jp_i q) :=
  jj_metp 0 (lo := [some (.ref this), some (.ref a1), some (.int a2), some (.int a3)]) rfl (Nat.le_of_ble_eq_true rfl) rfl (t_Pr_framePlace_0 h_this h_a1 h)
def f_Pr_frameValue (this : Nat) (a1 : Nat) (a2 : Int32) (a3 : Int32) (x : jj_Mem) : Option (Int32 × jj_Mem) :=
  if jj_inb a2 8 = true then if jj_inb ((((x (a1 + 1) (a2).toNatClampNeg) + 2) + (x a1 4)) + a3) 240 = true then some ((x (this + 1) (((((x (a1 + 1) (a2).toNatClampNeg) + 2) + (x a1 4)) + a3)).toNatClampNeg), x) else none else none
set_option maxHeartbeats 2000000 in
theorem t_Pr_frameValue_0 {X : jj_X} {d : Nat} {this : Nat} {a1 : Nat} {a2 : Int32} {a3 : Int32} (h_this : o_Pr this) (h_a1 : o_Me a1) {x : jj_Mem} {q : Int32 × jj_Mem} (h : f_Pr_frameValue this a1 a2 a3 x = some q) : jj_J Y0 X (d + 0) m_Pr_frameValue 0 [some (.ref this), some (.ref a1), some (.int a2), some (.int a3)] [] x (jp_i q) := by
  unfold f_Pr_frameValue at h
  refine jj_aload_n d_Pr_frameValue_0 rfl ?_
  refine jj_getR d_Pr_frameValue_1 fk_Pr_9 (sh_Pr h_this).2 (sh_Pr h_this).1 rfl ?_
  refine jj_aload_n d_Pr_frameValue_4 rfl ?_
  refine jj_getR d_Pr_frameValue_5 fk_Pr_47 (sh_Me h_a1).2 (sh_Me h_a1).1 rfl ?_
  refine jj_iload_n d_Pr_frameValue_8 rfl ?_
  obtain ⟨i1, h⟩ := jj_gt h
  refine jj_iaload d_Pr_frameValue_9 rfl (ar_Me_framesAt h_a1).1 (ar_Me_framesAt h_a1).2 (jj_inn i1) rfl ?_
  refine jj_iconst d_Pr_frameValue_10 jc_i_2 ?_
  refine jj_iadd d_Pr_frameValue_11 ?_
  refine jj_aload_n d_Pr_frameValue_12 rfl ?_
  refine jj_getI d_Pr_frameValue_13 fk_Pr_50 (sh_Me h_a1).2 (sh_Me h_a1).1 rfl rfl ?_
  refine jj_iadd d_Pr_frameValue_16 ?_
  refine jj_iload_n d_Pr_frameValue_17 rfl ?_
  refine jj_iadd d_Pr_frameValue_18 ?_
  obtain ⟨i2, h⟩ := jj_gt h
  refine jj_iaload d_Pr_frameValue_19 rfl (ar_Pr_file h_this).1 (ar_Pr_file h_this).2 (jj_inn i2) rfl ?_
  cases h
  exact jj_ireturn d_Pr_frameValue_20 rfl ⟨rfl, rfl⟩
theorem c_Pr_frameValue {X : jj_X} {d : Nat} {this : Nat} {a1 : Nat} {a2 : Int32} {a3 : Int32} (h_this : o_Pr this) (h_a1 : o_Me a1) {x : jj_Mem} {q : Int32 × jj_Mem} (h : f_Pr_frameValue this a1 a2 a3 x = some q) : jj_Met Y0 X (d + 0) m_Pr_frameValue [.ref this, .ref a1, .int a2, .int a3] x (jp_i q) :=
  jj_metp 0 (lo := [some (.ref this), some (.ref a1), some (.int a2), some (.int a3)]) rfl (Nat.le_of_ble_eq_true rfl) rfl (t_Pr_frameValue_0 h_this h_a1 h)
def f_Pr_operand (this : Nat) (a1 : Nat) (a2 : Int32) (x : jj_Mem) : Option (Int32 × jj_Mem) :=
  if jj_inb (((x a1 5) + a2) + 1) 240 = true then some ((x (this + 1) ((((x a1 5) + a2) + 1)).toNatClampNeg), x) else none
set_option maxHeartbeats 2000000 in
theorem t_Pr_operand_0 {X : jj_X} {d : Nat} {this : Nat} {a1 : Nat} {a2 : Int32} (h_this : o_Pr this) (h_a1 : o_Me a1) {x : jj_Mem} {q : Int32 × jj_Mem} (h : f_Pr_operand this a1 a2 x = some q) : jj_J Y0 X (d + 0) m_Pr_operand 0 [some (.ref this), some (.ref a1), some (.int a2)] [] x (jp_i q) := by
  unfold f_Pr_operand at h
  refine jj_aload_n d_Pr_operand_0 rfl ?_
  refine jj_getR d_Pr_operand_1 fk_Pr_9 (sh_Pr h_this).2 (sh_Pr h_this).1 rfl ?_
  refine jj_aload_n d_Pr_operand_4 rfl ?_
  refine jj_getI d_Pr_operand_5 fk_Pr_38 (sh_Me h_a1).2 (sh_Me h_a1).1 rfl rfl ?_
  refine jj_iload_n d_Pr_operand_8 rfl ?_
  refine jj_iadd d_Pr_operand_9 ?_
  refine jj_iconst d_Pr_operand_10 jc_i_1 ?_
  refine jj_iadd d_Pr_operand_11 ?_
  obtain ⟨i1, h⟩ := jj_gt h
  refine jj_iaload d_Pr_operand_12 rfl (ar_Pr_file h_this).1 (ar_Pr_file h_this).2 (jj_inn i1) rfl ?_
  cases h
  exact jj_ireturn d_Pr_operand_13 rfl ⟨rfl, rfl⟩
theorem c_Pr_operand {X : jj_X} {d : Nat} {this : Nat} {a1 : Nat} {a2 : Int32} (h_this : o_Pr this) (h_a1 : o_Me a1) {x : jj_Mem} {q : Int32 × jj_Mem} (h : f_Pr_operand this a1 a2 x = some q) : jj_Met Y0 X (d + 0) m_Pr_operand [.ref this, .ref a1, .int a2] x (jp_i q) :=
  jj_metp 0 (lo := [some (.ref this), some (.ref a1), some (.int a2)]) rfl (Nat.le_of_ble_eq_true rfl) rfl (t_Pr_operand_0 h_this h_a1 h)
def f_Pr_parameterType (this : Nat) (a1 : Nat) (a2 : Int32) (x : jj_Mem) : Option (Int32 × jj_Mem) :=
  if jj_inb ((x a1 1) + a2) 240 = true then some ((x (this + 1) (((x a1 1) + a2)).toNatClampNeg), x) else none
set_option maxHeartbeats 2000000 in
theorem t_Pr_parameterType_0 {X : jj_X} {d : Nat} {this : Nat} {a1 : Nat} {a2 : Int32} (h_this : o_Pr this) (h_a1 : o_Me a1) {x : jj_Mem} {q : Int32 × jj_Mem} (h : f_Pr_parameterType this a1 a2 x = some q) : jj_J Y0 X (d + 0) m_Pr_parameterType 0 [some (.ref this), some (.ref a1), some (.int a2)] [] x (jp_i q) := by
  unfold f_Pr_parameterType at h
  refine jj_aload_n d_Pr_parameterType_0 rfl ?_
  refine jj_getR d_Pr_parameterType_1 fk_Pr_9 (sh_Pr h_this).2 (sh_Pr h_this).1 rfl ?_
  refine jj_aload_n d_Pr_parameterType_4 rfl ?_
  refine jj_getI d_Pr_parameterType_5 fk_Pr_35 (sh_Me h_a1).2 (sh_Me h_a1).1 rfl rfl ?_
  refine jj_iload_n d_Pr_parameterType_8 rfl ?_
  refine jj_iadd d_Pr_parameterType_9 ?_
  obtain ⟨i1, h⟩ := jj_gt h
  refine jj_iaload d_Pr_parameterType_10 rfl (ar_Pr_file h_this).1 (ar_Pr_file h_this).2 (jj_inn i1) rfl ?_
  cases h
  exact jj_ireturn d_Pr_parameterType_11 rfl ⟨rfl, rfl⟩
theorem c_Pr_parameterType {X : jj_X} {d : Nat} {this : Nat} {a1 : Nat} {a2 : Int32} (h_this : o_Pr this) (h_a1 : o_Me a1) {x : jj_Mem} {q : Int32 × jj_Mem} (h : f_Pr_parameterType this a1 a2 x = some q) : jj_Met Y0 X (d + 0) m_Pr_parameterType [.ref this, .ref a1, .int a2] x (jp_i q) :=
  jj_metp 0 (lo := [some (.ref this), some (.ref a1), some (.int a2)]) rfl (Nat.le_of_ble_eq_true rfl) rfl (t_Pr_parameterType_0 h_this h_a1 h)
def f_Rd_beginsAt (this : Nat) (a1 : Nat) (a2 : Int32) (x : jj_Mem) : Option (Int32 × jj_Mem) :=
  (if a2 < 0 then some (0, x) else (if (x a1 6) ≤ a2 then some (0, x) else if jj_inb a2 60 = true then (if (x (this + 1) (a2).toNatClampNeg) = 0 then some (0, x) else some (1, x)) else none))
set_option maxHeartbeats 2000000 in
theorem t_Rd_beginsAt_0 {X : jj_X} {d : Nat} {this : Nat} {a1 : Nat} {a2 : Int32} (h_this : o_Rd this) (h_a1 : o_Me a1) {x : jj_Mem} {q : Int32 × jj_Mem} (h : f_Rd_beginsAt this a1 a2 x = some q) : jj_J Y0 X (d + 0) m_Rd_beginsAt 0 [some (.ref this), some (.ref a1), some (.int a2)] [] x (jp_i q) := by
  unfold f_Rd_beginsAt at h
  refine jj_iload_n d_Rd_beginsAt_0 rfl ?_
  refine jj_if_lt (tgt := 25) d_Rd_beginsAt_1 rfl (fun c1 => ?_) (fun c1 => ?_)
  · rw [if_pos c1] at h
    refine jj_iconst d_Rd_beginsAt_25 jc_i_0 ?_
    cases h
    exact jj_zreturn d_Rd_beginsAt_26 rfl (Or.inl rfl) ⟨rfl, rfl⟩
  · rw [if_neg c1] at h
    refine jj_iload_n d_Rd_beginsAt_4 rfl ?_
    refine jj_aload_n d_Rd_beginsAt_5 rfl ?_
    refine jj_getI d_Rd_beginsAt_6 fk_Rd_92 (sh_Me h_a1).2 (sh_Me h_a1).1 rfl rfl ?_
    refine jj_ic_ge (tgt := 25) d_Rd_beginsAt_9 rfl (fun c2 => ?_) (fun c2 => ?_)
    · rw [if_pos c2] at h
      refine jj_iconst d_Rd_beginsAt_25 jc_i_0 ?_
      cases h
      exact jj_zreturn d_Rd_beginsAt_26 rfl (Or.inl rfl) ⟨rfl, rfl⟩
    · rw [if_neg c2] at h
      refine jj_aload_n d_Rd_beginsAt_12 rfl ?_
      refine jj_getR d_Rd_beginsAt_13 fk_Rd_9 (sh_Rd h_this).2 (sh_Rd h_this).1 rfl ?_
      refine jj_iload_n d_Rd_beginsAt_16 rfl ?_
      obtain ⟨i3, h⟩ := jj_gt h
      refine jj_baload d_Rd_beginsAt_17 rfl (ar_Rd_begins h_this).1 (ar_Rd_begins h_this).2 (jj_inn i3) rfl ?_
      refine jj_if_eq (tgt := 25) d_Rd_beginsAt_18 rfl (fun c4 => ?_) (fun c4 => ?_)
      · rw [if_pos c4] at h
        refine jj_iconst d_Rd_beginsAt_25 jc_i_0 ?_
        cases h
        exact jj_zreturn d_Rd_beginsAt_26 rfl (Or.inl rfl) ⟨rfl, rfl⟩
      · rw [if_neg c4] at h
        refine jj_iconst d_Rd_beginsAt_21 jc_i_1 ?_
        refine jj_goto (tgt := 26) d_Rd_beginsAt_22 rfl ?_
        cases h
        exact jj_zreturn d_Rd_beginsAt_26 rfl (Or.inr rfl) ⟨rfl, rfl⟩
theorem c_Rd_beginsAt {X : jj_X} {d : Nat} {this : Nat} {a1 : Nat} {a2 : Int32} (h_this : o_Rd this) (h_a1 : o_Me a1) {x : jj_Mem} {q : Int32 × jj_Mem} (h : f_Rd_beginsAt this a1 a2 x = some q) : jj_Met Y0 X (d + 0) m_Rd_beginsAt [.ref this, .ref a1, .int a2] x (jp_i q) :=
  jj_metp 0 (lo := [some (.ref this), some (.ref a1), some (.int a2)]) rfl (Nat.le_of_ble_eq_true rfl) rfl (t_Rd_beginsAt_0 h_this h_a1 h)
def f_Rd_next (this : Nat) (a1 : Nat) (a2 : Int32) (a3 : Int32) (x : jj_Mem) : Option (Int32 × jj_Mem) :=
  (if (x a1 1) ≤ (x this 0) then some (0, x) else if jj_inb (x this 0) 240 = true then (if (x (a1 + 1) ((x this 0)).toNatClampNeg) < a2 then some (0, x) else if jj_inb (x this 0) 240 = true then (if (x (a1 + 1) ((x this 0)).toNatClampNeg) ≤ a3 then if jj_inb (x this 0) 240 = true then some (1, (jj_set (jj_set x this 1 (x (a1 + 1) ((x this 0)).toNatClampNeg)) this 0 (((jj_set x this 1 (x (a1 + 1) ((x this 0)).toNatClampNeg)) this 0) + 1))) else none else some (0, x)) else none) else none)
set_option maxHeartbeats 2000000 in
theorem t_Rd_next_0 {X : jj_X} {d : Nat} {this : Nat} {a1 : Nat} {a2 : Int32} {a3 : Int32} (h_this : o_Rd this) (h_a1 : o_Pr a1) {x : jj_Mem} {q : Int32 × jj_Mem} (h : f_Rd_next this a1 a2 a3 x = some q) : jj_J Y0 X (d + 0) m_Rd_next 0 [some (.ref this), some (.ref a1), some (.int a2), some (.int a3)] [] x (jp_i q) := by
  unfold f_Rd_next at h
  refine jj_aload_n d_Rd_next_0 rfl ?_
  refine jj_getI d_Rd_next_1 fk_Rd_15 (sh_Rd h_this).2 (sh_Rd h_this).1 rfl rfl ?_
  refine jj_aload_n d_Rd_next_4 rfl ?_
  refine jj_getI d_Rd_next_5 fk_Rd_43 (sh_Pr h_a1).2 (sh_Pr h_a1).1 rfl rfl ?_
  refine jj_ic_ge (tgt := 37) d_Rd_next_8 rfl (fun c1 => ?_) (fun c1 => ?_)
  · rw [if_pos c1] at h
    refine jj_iconst d_Rd_next_37 jc_i_0 ?_
    cases h
    exact jj_zreturn d_Rd_next_38 rfl (Or.inl rfl) ⟨rfl, rfl⟩
  · rw [if_neg c1] at h
    refine jj_aload_n d_Rd_next_11 rfl ?_
    refine jj_getR d_Rd_next_12 fk_Rd_46 (sh_Pr h_a1).2 (sh_Pr h_a1).1 rfl ?_
    refine jj_aload_n d_Rd_next_15 rfl ?_
    refine jj_getI d_Rd_next_16 fk_Rd_15 (sh_Rd h_this).2 (sh_Rd h_this).1 rfl rfl ?_
    obtain ⟨i2, h⟩ := jj_gt h
    refine jj_iaload d_Rd_next_19 rfl (ar_Pr_file h_a1).1 (ar_Pr_file h_a1).2 (jj_inn i2) rfl ?_
    refine jj_iload_n d_Rd_next_20 rfl ?_
    refine jj_ic_lt (tgt := 37) d_Rd_next_21 rfl (fun c3 => ?_) (fun c3 => ?_)
    · rw [if_pos c3] at h
      refine jj_iconst d_Rd_next_37 jc_i_0 ?_
      cases h
      exact jj_zreturn d_Rd_next_38 rfl (Or.inl rfl) ⟨rfl, rfl⟩
    · rw [if_neg c3] at h
      refine jj_aload_n d_Rd_next_24 rfl ?_
      refine jj_getR d_Rd_next_25 fk_Rd_46 (sh_Pr h_a1).2 (sh_Pr h_a1).1 rfl ?_
      refine jj_aload_n d_Rd_next_28 rfl ?_
      refine jj_getI d_Rd_next_29 fk_Rd_15 (sh_Rd h_this).2 (sh_Rd h_this).1 rfl rfl ?_
      obtain ⟨i4, h⟩ := jj_gt h
      refine jj_iaload d_Rd_next_32 rfl (ar_Pr_file h_a1).1 (ar_Pr_file h_a1).2 (jj_inn i4) rfl ?_
      refine jj_iload_n d_Rd_next_33 rfl ?_
      refine jj_ic_le (tgt := 39) d_Rd_next_34 rfl (fun c5 => ?_) (fun c5 => ?_)
      · rw [if_pos c5] at h
        refine jj_aload_n d_Rd_next_39 rfl ?_
        refine jj_aload_n d_Rd_next_40 rfl ?_
        refine jj_getR d_Rd_next_41 fk_Rd_46 (sh_Pr h_a1).2 (sh_Pr h_a1).1 rfl ?_
        refine jj_aload_n d_Rd_next_44 rfl ?_
        refine jj_getI d_Rd_next_45 fk_Rd_15 (sh_Rd h_this).2 (sh_Rd h_this).1 rfl rfl ?_
        obtain ⟨i6, h⟩ := jj_gt h
        refine jj_iaload d_Rd_next_48 rfl (ar_Pr_file h_a1).1 (ar_Pr_file h_a1).2 (jj_inn i6) rfl ?_
        refine jj_putI d_Rd_next_49 pk_Rd_27 (sh_Rd h_this).2 (sh_Rd h_this).1 rfl ?_
        refine jj_aload_n d_Rd_next_52 rfl ?_
        refine jj_dup d_Rd_next_53 rfl ?_
        refine jj_getI d_Rd_next_54 fk_Rd_15 (sh_Rd h_this).2 (sh_Rd h_this).1 rfl rfl ?_
        refine jj_iconst d_Rd_next_57 jc_i_1 ?_
        refine jj_iadd d_Rd_next_58 ?_
        refine jj_putI d_Rd_next_59 pk_Rd_15 (sh_Rd h_this).2 (sh_Rd h_this).1 rfl ?_
        refine jj_iconst d_Rd_next_62 jc_i_1 ?_
        cases h
        exact jj_zreturn d_Rd_next_63 rfl (Or.inr rfl) ⟨rfl, rfl⟩
      · rw [if_neg c5] at h
        refine jj_iconst d_Rd_next_37 jc_i_0 ?_
        cases h
        exact jj_zreturn d_Rd_next_38 rfl (Or.inl rfl) ⟨rfl, rfl⟩
theorem c_Rd_next {X : jj_X} {d : Nat} {this : Nat} {a1 : Nat} {a2 : Int32} {a3 : Int32} (h_this : o_Rd this) (h_a1 : o_Pr a1) {x : jj_Mem} {q : Int32 × jj_Mem} (h : f_Rd_next this a1 a2 a3 x = some q) : jj_Met Y0 X (d + 0) m_Rd_next [.ref this, .ref a1, .int a2, .int a3] x (jp_i q) :=
  jj_metp 0 (lo := [some (.ref this), some (.ref a1), some (.int a2), some (.int a3)]) rfl (Nat.le_of_ble_eq_true rfl) rfl (t_Rd_next_0 h_this h_a1 h)
def f_St_kindBelow (this : Nat) (a1 : Int32) (x : jj_Mem) : Option (Int32 × jj_Mem) :=
  if jj_inb (((x this 4) - 1) - a1) 6 = true then some ((x (this + 3) ((((x this 4) - 1) - a1)).toNatClampNeg), x) else none
set_option maxHeartbeats 2000000 in
theorem t_St_kindBelow_0 {X : jj_X} {d : Nat} {this : Nat} {a1 : Int32} (h_this : o_St this) {x : jj_Mem} {q : Int32 × jj_Mem} (h : f_St_kindBelow this a1 x = some q) : jj_J Y0 X (d + 0) m_St_kindBelow 0 [some (.ref this), some (.int a1)] [] x (jp_i q) := by
  unfold f_St_kindBelow at h
  refine jj_aload_n d_St_kindBelow_0 rfl ?_
  refine jj_getR d_St_kindBelow_1 fk_St_18 (sh_St h_this).2 (sh_St h_this).1 rfl ?_
  refine jj_aload_n d_St_kindBelow_4 rfl ?_
  refine jj_getI d_St_kindBelow_5 fk_St_28 (sh_St h_this).2 (sh_St h_this).1 rfl rfl ?_
  refine jj_iconst d_St_kindBelow_8 jc_i_1 ?_
  refine jj_isub d_St_kindBelow_9 ?_
  refine jj_iload_n d_St_kindBelow_10 rfl ?_
  refine jj_isub d_St_kindBelow_11 ?_
  obtain ⟨i1, h⟩ := jj_gt h
  refine jj_iaload d_St_kindBelow_12 rfl (ar_St_kinds h_this).1 (ar_St_kinds h_this).2 (jj_inn i1) rfl ?_
  cases h
  exact jj_ireturn d_St_kindBelow_13 rfl ⟨rfl, rfl⟩
theorem c_St_kindBelow {X : jj_X} {d : Nat} {this : Nat} {a1 : Int32} (h_this : o_St this) {x : jj_Mem} {q : Int32 × jj_Mem} (h : f_St_kindBelow this a1 x = some q) : jj_Met Y0 X (d + 0) m_St_kindBelow [.ref this, .int a1] x (jp_i q) :=
  jj_metp 0 (lo := [some (.ref this), some (.int a1)]) rfl (Nat.le_of_ble_eq_true rfl) rfl (t_St_kindBelow_0 h_this h)
def f_St_kindTaken (this : Nat) (x : jj_Mem) : Option (Int32 × jj_Mem) :=
  if jj_inb (x this 4) 6 = true then some ((x (this + 3) ((x this 4)).toNatClampNeg), x) else none
set_option maxHeartbeats 2000000 in
theorem t_St_kindTaken_0 {X : jj_X} {d : Nat} {this : Nat} (h_this : o_St this) {x : jj_Mem} {q : Int32 × jj_Mem} (h : f_St_kindTaken this x = some q) : jj_J Y0 X (d + 0) m_St_kindTaken 0 [some (.ref this)] [] x (jp_i q) := by
  unfold f_St_kindTaken at h
  refine jj_aload_n d_St_kindTaken_0 rfl ?_
  refine jj_getR d_St_kindTaken_1 fk_St_18 (sh_St h_this).2 (sh_St h_this).1 rfl ?_
  refine jj_aload_n d_St_kindTaken_4 rfl ?_
  refine jj_getI d_St_kindTaken_5 fk_St_28 (sh_St h_this).2 (sh_St h_this).1 rfl rfl ?_
  obtain ⟨i1, h⟩ := jj_gt h
  refine jj_iaload d_St_kindTaken_8 rfl (ar_St_kinds h_this).1 (ar_St_kinds h_this).2 (jj_inn i1) rfl ?_
  cases h
  exact jj_ireturn d_St_kindTaken_9 rfl ⟨rfl, rfl⟩
theorem c_St_kindTaken {X : jj_X} {d : Nat} {this : Nat} (h_this : o_St this) {x : jj_Mem} {q : Int32 × jj_Mem} (h : f_St_kindTaken this x = some q) : jj_Met Y0 X (d + 0) m_St_kindTaken [.ref this] x (jp_i q) :=
  jj_metp 0 (lo := [some (.ref this)]) rfl (Nat.le_of_ble_eq_true rfl) rfl (t_St_kindTaken_0 h_this h)
def f_St_put (this : Nat) (a1 : Int32) (a2 : Int32) (x : jj_Mem) : Option (jj_Mem) :=
  if jj_inb (x this 4) 6 = true then if jj_inb ((jj_set x (this + 3) ((x this 4)).toNatClampNeg a1) this 4) 6 = true then some (jj_set (jj_set (jj_set x (this + 3) ((x this 4)).toNatClampNeg a1) (this + 4) (((jj_set x (this + 3) ((x this 4)).toNatClampNeg a1) this 4)).toNatClampNeg a2) this 4 (((jj_set (jj_set x (this + 3) ((x this 4)).toNatClampNeg a1) (this + 4) (((jj_set x (this + 3) ((x this 4)).toNatClampNeg a1) this 4)).toNatClampNeg a2) this 4) + 1)) else none else none
set_option maxHeartbeats 2000000 in
theorem t_St_put_0 {X : jj_X} {d : Nat} {this : Nat} {a1 : Int32} {a2 : Int32} (h_this : o_St this) {x : jj_Mem} {q : jj_Mem} (h : f_St_put this a1 a2 x = some q) : jj_J Y0 X (d + 0) m_St_put 0 [some (.ref this), some (.int a1), some (.int a2)] [] x (jp_v q) := by
  unfold f_St_put at h
  refine jj_aload_n d_St_put_0 rfl ?_
  refine jj_getR d_St_put_1 fk_St_18 (sh_St h_this).2 (sh_St h_this).1 rfl ?_
  refine jj_aload_n d_St_put_4 rfl ?_
  refine jj_getI d_St_put_5 fk_St_28 (sh_St h_this).2 (sh_St h_this).1 rfl rfl ?_
  refine jj_iload_n d_St_put_8 rfl ?_
  obtain ⟨i1, h⟩ := jj_gt h
  refine jj_iastore d_St_put_9 rfl (ar_St_kinds h_this).1 (ar_St_kinds h_this).2 (jj_inn i1) ?_
  refine jj_aload_n d_St_put_10 rfl ?_
  refine jj_getR d_St_put_11 fk_St_21 (sh_St h_this).2 (sh_St h_this).1 rfl ?_
  refine jj_aload_n d_St_put_14 rfl ?_
  refine jj_getI d_St_put_15 fk_St_28 (sh_St h_this).2 (sh_St h_this).1 rfl rfl ?_
  refine jj_iload_n d_St_put_18 rfl ?_
  obtain ⟨i2, h⟩ := jj_gt h
  refine jj_iastore d_St_put_19 rfl (ar_St_values h_this).1 (ar_St_values h_this).2 (jj_inn i2) ?_
  refine jj_aload_n d_St_put_20 rfl ?_
  refine jj_dup d_St_put_21 rfl ?_
  refine jj_getI d_St_put_22 fk_St_28 (sh_St h_this).2 (sh_St h_this).1 rfl rfl ?_
  refine jj_iconst d_St_put_25 jc_i_1 ?_
  refine jj_iadd d_St_put_26 ?_
  refine jj_putI d_St_put_27 pk_St_28 (sh_St h_this).2 (sh_St h_this).1 rfl ?_
  cases h
  exact jj_return d_St_put_30 rfl ⟨rfl, rfl⟩
theorem c_St_put {X : jj_X} {d : Nat} {this : Nat} {a1 : Int32} {a2 : Int32} (h_this : o_St this) {x : jj_Mem} {q : jj_Mem} (h : f_St_put this a1 a2 x = some q) : jj_Met Y0 X (d + 0) m_St_put [.ref this, .int a1, .int a2] x (jp_v q) :=
  jj_metp 0 (lo := [some (.ref this), some (.int a1), some (.int a2)]) rfl (Nat.le_of_ble_eq_true rfl) rfl (t_St_put_0 h_this h)
def f_St_setPlace (this : Nat) (a1 : Int32) (a2 : Int32) (a3 : Int32) (x : jj_Mem) : Option (jj_Mem) :=
  if jj_inb a1 6 = true then if jj_inb a1 6 = true then some (jj_set (jj_set x (this + 1) (a1).toNatClampNeg a2) (this + 2) (a1).toNatClampNeg a3) else none else none
set_option maxHeartbeats 2000000 in
theorem t_St_setPlace_0 {X : jj_X} {d : Nat} {this : Nat} {a1 : Int32} {a2 : Int32} {a3 : Int32} (h_this : o_St this) {x : jj_Mem} {q : jj_Mem} (h : f_St_setPlace this a1 a2 a3 x = some q) : jj_J Y0 X (d + 0) m_St_setPlace 0 [some (.ref this), some (.int a1), some (.int a2), some (.int a3)] [] x (jp_v q) := by
  unfold f_St_setPlace at h
  refine jj_aload_n d_St_setPlace_0 rfl ?_
  refine jj_getR d_St_setPlace_1 fk_St_9 (sh_St h_this).2 (sh_St h_this).1 rfl ?_
  refine jj_iload_n d_St_setPlace_4 rfl ?_
  refine jj_iload_n d_St_setPlace_5 rfl ?_
  obtain ⟨i1, h⟩ := jj_gt h
  refine jj_iastore d_St_setPlace_6 rfl (ar_St_placeKinds h_this).1 (ar_St_placeKinds h_this).2 (jj_inn i1) ?_
  refine jj_aload_n d_St_setPlace_7 rfl ?_
  refine jj_getR d_St_setPlace_8 fk_St_15 (sh_St h_this).2 (sh_St h_this).1 rfl ?_
  refine jj_iload_n d_St_setPlace_11 rfl ?_
  refine jj_iload_n d_St_setPlace_12 rfl ?_
  obtain ⟨i2, h⟩ := jj_gt h
  refine jj_iastore d_St_setPlace_13 rfl (ar_St_placeValues h_this).1 (ar_St_placeValues h_this).2 (jj_inn i2) ?_
  cases h
  exact jj_return d_St_setPlace_14 rfl ⟨rfl, rfl⟩
theorem c_St_setPlace {X : jj_X} {d : Nat} {this : Nat} {a1 : Int32} {a2 : Int32} {a3 : Int32} (h_this : o_St this) {x : jj_Mem} {q : jj_Mem} (h : f_St_setPlace this a1 a2 a3 x = some q) : jj_Met Y0 X (d + 0) m_St_setPlace [.ref this, .int a1, .int a2, .int a3] x (jp_v q) :=
  jj_metp 0 (lo := [some (.ref this), some (.int a1), some (.int a2), some (.int a3)]) rfl (Nat.le_of_ble_eq_true rfl) rfl (t_St_setPlace_0 h_this h)
def f_St_take (this : Nat) (x : jj_Mem) : Option (Int32 × jj_Mem) :=
  if jj_inb ((jj_set x this 4 ((x this 4) - 1)) this 4) 6 = true then some (((jj_set x this 4 ((x this 4) - 1)) (this + 4) (((jj_set x this 4 ((x this 4) - 1)) this 4)).toNatClampNeg), (jj_set x this 4 ((x this 4) - 1))) else none
set_option maxHeartbeats 2000000 in
theorem t_St_take_0 {X : jj_X} {d : Nat} {this : Nat} (h_this : o_St this) {x : jj_Mem} {q : Int32 × jj_Mem} (h : f_St_take this x = some q) : jj_J Y0 X (d + 0) m_St_take 0 [some (.ref this)] [] x (jp_i q) := by
  unfold f_St_take at h
  refine jj_aload_n d_St_take_0 rfl ?_
  refine jj_dup d_St_take_1 rfl ?_
  refine jj_getI d_St_take_2 fk_St_28 (sh_St h_this).2 (sh_St h_this).1 rfl rfl ?_
  refine jj_iconst d_St_take_5 jc_i_1 ?_
  refine jj_isub d_St_take_6 ?_
  refine jj_putI d_St_take_7 pk_St_28 (sh_St h_this).2 (sh_St h_this).1 rfl ?_
  refine jj_aload_n d_St_take_10 rfl ?_
  refine jj_getR d_St_take_11 fk_St_21 (sh_St h_this).2 (sh_St h_this).1 rfl ?_
  refine jj_aload_n d_St_take_14 rfl ?_
  refine jj_getI d_St_take_15 fk_St_28 (sh_St h_this).2 (sh_St h_this).1 rfl rfl ?_
  obtain ⟨i1, h⟩ := jj_gt h
  refine jj_iaload d_St_take_18 rfl (ar_St_values h_this).1 (ar_St_values h_this).2 (jj_inn i1) rfl ?_
  cases h
  exact jj_ireturn d_St_take_19 rfl ⟨rfl, rfl⟩
theorem c_St_take {X : jj_X} {d : Nat} {this : Nat} (h_this : o_St this) {x : jj_Mem} {q : Int32 × jj_Mem} (h : f_St_take this x = some q) : jj_Met Y0 X (d + 0) m_St_take [.ref this] x (jp_i q) :=
  jj_metp 0 (lo := [some (.ref this)]) rfl (Nat.le_of_ble_eq_true rfl) rfl (t_St_take_0 h_this h)
def f_St_valueBelow (this : Nat) (a1 : Int32) (x : jj_Mem) : Option (Int32 × jj_Mem) :=
  if jj_inb (((x this 4) - 1) - a1) 6 = true then some ((x (this + 4) ((((x this 4) - 1) - a1)).toNatClampNeg), x) else none
set_option maxHeartbeats 2000000 in
theorem t_St_valueBelow_0 {X : jj_X} {d : Nat} {this : Nat} {a1 : Int32} (h_this : o_St this) {x : jj_Mem} {q : Int32 × jj_Mem} (h : f_St_valueBelow this a1 x = some q) : jj_J Y0 X (d + 0) m_St_valueBelow 0 [some (.ref this), some (.int a1)] [] x (jp_i q) := by
  unfold f_St_valueBelow at h
  refine jj_aload_n d_St_valueBelow_0 rfl ?_
  refine jj_getR d_St_valueBelow_1 fk_St_21 (sh_St h_this).2 (sh_St h_this).1 rfl ?_
  refine jj_aload_n d_St_valueBelow_4 rfl ?_
  refine jj_getI d_St_valueBelow_5 fk_St_28 (sh_St h_this).2 (sh_St h_this).1 rfl rfl ?_
  refine jj_iconst d_St_valueBelow_8 jc_i_1 ?_
  refine jj_isub d_St_valueBelow_9 ?_
  refine jj_iload_n d_St_valueBelow_10 rfl ?_
  refine jj_isub d_St_valueBelow_11 ?_
  obtain ⟨i1, h⟩ := jj_gt h
  refine jj_iaload d_St_valueBelow_12 rfl (ar_St_values h_this).1 (ar_St_values h_this).2 (jj_inn i1) rfl ?_
  cases h
  exact jj_ireturn d_St_valueBelow_13 rfl ⟨rfl, rfl⟩
theorem c_St_valueBelow {X : jj_X} {d : Nat} {this : Nat} {a1 : Int32} (h_this : o_St this) {x : jj_Mem} {q : Int32 × jj_Mem} (h : f_St_valueBelow this a1 x = some q) : jj_Met Y0 X (d + 0) m_St_valueBelow [.ref this, .int a1] x (jp_i q) :=
  jj_metp 0 (lo := [some (.ref this), some (.int a1)]) rfl (Nat.le_of_ble_eq_true rfl) rfl (t_St_valueBelow_0 h_this h)
def k_VC_byteAt_12  (x : jj_Mem) : Option (Int32 × jj_Mem) :=
  none
set_option maxHeartbeats 2000000 in
theorem t_VC_byteAt_12 {X : jj_X} {d : Nat}   {x : jj_Mem} {q : Int32 × jj_Mem} (h : k_VC_byteAt_12  x = some q) : jj_J Y0 X (d + 0) m_VC_byteAt 12 [none, none] [] x (jp_i q) := by
  unfold k_VC_byteAt_12 at h
  cases h
def f_VC_byteAt (this : Nat) (a1 : Int32) (x : jj_Mem) : Option (Int32 × jj_Mem) :=
  (if a1 < 0 then k_VC_byteAt_12  x else (if a1 < (x this 1) then if jj_inb a1 240 = true then some ((x (this + 1) (a1).toNatClampNeg), x) else none else k_VC_byteAt_12  x))
set_option maxHeartbeats 2000000 in
theorem t_VC_byteAt_0 {X : jj_X} {d : Nat} {this : Nat} {a1 : Int32} (h_this : o_VC this) {x : jj_Mem} {q : Int32 × jj_Mem} (h : f_VC_byteAt this a1 x = some q) : jj_J Y0 X (d + 0) m_VC_byteAt 0 [some (.ref this), some (.int a1)] [] x (jp_i q) := by
  unfold f_VC_byteAt at h
  refine jj_iload_n d_VC_byteAt_0 rfl ?_
  refine jj_if_lt (tgt := 12) d_VC_byteAt_1 rfl (fun c1 => ?_) (fun c1 => ?_)
  · rw [if_pos c1] at h
    exact jj_J.sub (t_VC_byteAt_12  h) (fun i v hi => jj_mask_ok [false, false] hi)
  · rw [if_neg c1] at h
    refine jj_iload_n d_VC_byteAt_4 rfl ?_
    refine jj_aload_n d_VC_byteAt_5 rfl ?_
    refine jj_getI d_VC_byteAt_6 fk_VC_51 (sh_VC h_this).2 (sh_VC h_this).1 rfl rfl ?_
    refine jj_ic_lt (tgt := 22) d_VC_byteAt_9 rfl (fun c2 => ?_) (fun c2 => ?_)
    · rw [if_pos c2] at h
      refine jj_aload_n d_VC_byteAt_22 rfl ?_
      refine jj_getR d_VC_byteAt_23 fk_VC_9 (sh_VC h_this).2 (sh_VC h_this).1 rfl ?_
      refine jj_iload_n d_VC_byteAt_26 rfl ?_
      obtain ⟨i3, h⟩ := jj_gt h
      refine jj_iaload d_VC_byteAt_27 rfl (ar_VC_typed h_this).1 (ar_VC_typed h_this).2 (jj_inn i3) rfl ?_
      cases h
      exact jj_ireturn d_VC_byteAt_28 rfl ⟨rfl, rfl⟩
    · rw [if_neg c2] at h
      exact jj_J.sub (t_VC_byteAt_12  h) (fun i v hi => jj_mask_ok [false, false] hi)
theorem c_VC_byteAt {X : jj_X} {d : Nat} {this : Nat} {a1 : Int32} (h_this : o_VC this) {x : jj_Mem} {q : Int32 × jj_Mem} (h : f_VC_byteAt this a1 x = some q) : jj_Met Y0 X (d + 0) m_VC_byteAt [.ref this, .int a1] x (jp_i q) :=
  jj_metp 0 (lo := [some (.ref this), some (.int a1)]) rfl (Nat.le_of_ble_eq_true rfl) rfl (t_VC_byteAt_0 h_this h)
def f_VC_clear (this : Nat) (x : jj_Mem) : Option (jj_Mem) :=
  some (jj_set x this 1 0)
set_option maxHeartbeats 2000000 in
theorem t_VC_clear_0 {X : jj_X} {d : Nat} {this : Nat} (h_this : o_VC this) {x : jj_Mem} {q : jj_Mem} (h : f_VC_clear this x = some q) : jj_J Y0 X (d + 0) m_VC_clear 0 [some (.ref this)] [] x (jp_v q) := by
  unfold f_VC_clear at h
  refine jj_aload_n d_VC_clear_0 rfl ?_
  refine jj_iconst d_VC_clear_1 jc_i_0 ?_
  refine jj_putI d_VC_clear_2 pk_VC_51 (sh_VC h_this).2 (sh_VC h_this).1 rfl ?_
  cases h
  exact jj_return d_VC_clear_5 rfl ⟨rfl, rfl⟩
theorem c_VC_clear {X : jj_X} {d : Nat} {this : Nat} (h_this : o_VC this) {x : jj_Mem} {q : jj_Mem} (h : f_VC_clear this x = some q) : jj_Met Y0 X (d + 0) m_VC_clear [.ref this] x (jp_v q) :=
  jj_metp 0 (lo := [some (.ref this)]) rfl (Nat.le_of_ble_eq_true rfl) rfl (t_VC_clear_0 h_this h)
def k_VC_isGoodFor_19  (x : jj_Mem) : Option (Int32 × jj_Mem) :=
  some (1, x)
set_option maxHeartbeats 2000000 in
theorem t_VC_isGoodFor_19 {X : jj_X} {d : Nat}   {x : jj_Mem} {q : Int32 × jj_Mem} (h : k_VC_isGoodFor_19  x = some q) : jj_J Y0 X (d + 0) m_VC_isGoodFor 19 [none, none] [] x (jp_i q) := by
  unfold k_VC_isGoodFor_19 at h
  refine jj_iconst d_VC_isGoodFor_19 jc_i_1 ?_
  refine jj_goto (tgt := 24) d_VC_isGoodFor_20 rfl ?_
  cases h
  exact jj_zreturn d_VC_isGoodFor_24 rfl (Or.inr rfl) ⟨rfl, rfl⟩
def f_VC_isGoodFor (a1 : Int32) (a2 : Int32) (x : jj_Mem) : Option (Int32 × jj_Mem) :=
  (if a2 = 0 then k_VC_isGoodFor_19  x else (if a1 = a2 then k_VC_isGoodFor_19  x else (if a1 = 3 then (if a2 = 2 then k_VC_isGoodFor_19  x else some (0, x)) else some (0, x))))
set_option maxHeartbeats 2000000 in
theorem t_VC_isGoodFor_0 {X : jj_X} {d : Nat} {a1 : Int32} {a2 : Int32}  {x : jj_Mem} {q : Int32 × jj_Mem} (h : f_VC_isGoodFor a1 a2 x = some q) : jj_J Y0 X (d + 0) m_VC_isGoodFor 0 [some (.int a1), some (.int a2)] [] x (jp_i q) := by
  unfold f_VC_isGoodFor at h
  refine jj_iload_n d_VC_isGoodFor_0 rfl ?_
  refine jj_if_eq (tgt := 19) d_VC_isGoodFor_1 rfl (fun c1 => ?_) (fun c1 => ?_)
  · rw [if_pos c1] at h
    exact jj_J.sub (t_VC_isGoodFor_19  h) (fun i v hi => jj_mask_ok [false, false] hi)
  · rw [if_neg c1] at h
    refine jj_iload_n d_VC_isGoodFor_4 rfl ?_
    refine jj_iload_n d_VC_isGoodFor_5 rfl ?_
    refine jj_ic_eq (tgt := 19) d_VC_isGoodFor_6 rfl (fun c2 => ?_) (fun c2 => ?_)
    · rw [if_pos c2] at h
      exact jj_J.sub (t_VC_isGoodFor_19  h) (fun i v hi => jj_mask_ok [false, false] hi)
    · rw [if_neg c2] at h
      refine jj_iload_n d_VC_isGoodFor_9 rfl ?_
      refine jj_iconst d_VC_isGoodFor_10 jc_i_3 ?_
      refine jj_ic_ne (tgt := 23) d_VC_isGoodFor_11 rfl (fun c3 => ?_) (fun c3 => ?_)
      · rw [if_neg c3] at h
        refine jj_iconst d_VC_isGoodFor_23 jc_i_0 ?_
        cases h
        exact jj_zreturn d_VC_isGoodFor_24 rfl (Or.inl rfl) ⟨rfl, rfl⟩
      · rw [if_pos c3] at h
        refine jj_iload_n d_VC_isGoodFor_14 rfl ?_
        refine jj_iconst d_VC_isGoodFor_15 jc_i_2 ?_
        refine jj_ic_ne (tgt := 23) d_VC_isGoodFor_16 rfl (fun c4 => ?_) (fun c4 => ?_)
        · rw [if_neg c4] at h
          refine jj_iconst d_VC_isGoodFor_23 jc_i_0 ?_
          cases h
          exact jj_zreturn d_VC_isGoodFor_24 rfl (Or.inl rfl) ⟨rfl, rfl⟩
        · rw [if_pos c4] at h
          exact jj_J.sub (t_VC_isGoodFor_19  h) (fun i v hi => jj_mask_ok [false, false] hi)
theorem c_VC_isGoodFor {X : jj_X} {d : Nat} {a1 : Int32} {a2 : Int32}  {x : jj_Mem} {q : Int32 × jj_Mem} (h : f_VC_isGoodFor a1 a2 x = some q) : jj_Met Y0 X (d + 0) m_VC_isGoodFor [.int a1, .int a2] x (jp_i q) :=
  jj_metp 0 (lo := [some (.int a1), some (.int a2)]) rfl (Nat.le_of_ble_eq_true rfl) rfl (t_VC_isGoodFor_0  h)
def f_VC_methods (this : Nat) (x : jj_Mem) : Option (Int32 × jj_Mem) :=
  if bo_Pr ((x this 2).toNatClampNeg) = true then some ((x ((x this 2).toNatClampNeg) 4), x) else none
set_option maxHeartbeats 2000000 in
theorem t_VC_methods_0 {X : jj_X} {d : Nat} {this : Nat} (h_this : o_VC this) {x : jj_Mem} {q : Int32 × jj_Mem} (h : f_VC_methods this x = some q) : jj_J Y0 X (d + 0) m_VC_methods 0 [some (.ref this)] [] x (jp_i q) := by
  unfold f_VC_methods at h
  refine jj_aload_n d_VC_methods_0 rfl ?_
  obtain ⟨i1, h⟩ := jj_gt h
  refine jj_getD d_VC_methods_1 fk_VC_16 (sh_VC h_this).2 (sh_VC h_this).1 rfl rfl ?_
  refine jj_getI d_VC_methods_4 fk_VC_78 (sh_Pr (ob_Pr i1)).2 (sh_Pr (ob_Pr i1)).1 rfl rfl ?_
  cases h
  exact jj_ireturn d_VC_methods_7 rfl ⟨rfl, rfl⟩
theorem c_VC_methods {X : jj_X} {d : Nat} {this : Nat} (h_this : o_VC this) {x : jj_Mem} {q : Int32 × jj_Mem} (h : f_VC_methods this x = some q) : jj_Met Y0 X (d + 0) m_VC_methods [.ref this] x (jp_i q) :=
  jj_metp 0 (lo := [some (.ref this)]) rfl (Nat.le_of_ble_eq_true rfl) rfl (t_VC_methods_0 h_this h)
def k_VC_poke_33  (x : jj_Mem) : Option (jj_Mem) :=
  none
set_option maxHeartbeats 2000000 in
theorem t_VC_poke_33 {X : jj_X} {d : Nat}   {x : jj_Mem} {q : jj_Mem} (h : k_VC_poke_33  x = some q) : jj_J Y0 X (d + 0) m_VC_poke 33 [none, none, none] [] x (jp_v q) := by
  unfold k_VC_poke_33 at h
  cases h
def k_VC_poke_12  (x : jj_Mem) : Option (jj_Mem) :=
  none
set_option maxHeartbeats 2000000 in
theorem t_VC_poke_12 {X : jj_X} {d : Nat}   {x : jj_Mem} {q : jj_Mem} (h : k_VC_poke_12  x = some q) : jj_J Y0 X (d + 0) m_VC_poke 12 [none, none, none] [] x (jp_v q) := by
  unfold k_VC_poke_12 at h
  cases h
def f_VC_poke (this : Nat) (a1 : Int32) (a2 : Int32) (x : jj_Mem) : Option (jj_Mem) :=
  (if a1 < 0 then k_VC_poke_12  x else (if a1 < (x this 1) then (if a2 < 0 then k_VC_poke_33  x else (if a2 ≤ 255 then if jj_inb a1 240 = true then some (jj_set x (this + 1) (a1).toNatClampNeg a2) else none else k_VC_poke_33  x)) else k_VC_poke_12  x))
set_option maxHeartbeats 2000000 in
theorem t_VC_poke_0 {X : jj_X} {d : Nat} {this : Nat} {a1 : Int32} {a2 : Int32} (h_this : o_VC this) {x : jj_Mem} {q : jj_Mem} (h : f_VC_poke this a1 a2 x = some q) : jj_J Y0 X (d + 0) m_VC_poke 0 [some (.ref this), some (.int a1), some (.int a2)] [] x (jp_v q) := by
  unfold f_VC_poke at h
  refine jj_iload_n d_VC_poke_0 rfl ?_
  refine jj_if_lt (tgt := 12) d_VC_poke_1 rfl (fun c1 => ?_) (fun c1 => ?_)
  · rw [if_pos c1] at h
    exact jj_J.sub (t_VC_poke_12  h) (fun i v hi => jj_mask_ok [false, false, false] hi)
  · rw [if_neg c1] at h
    refine jj_iload_n d_VC_poke_4 rfl ?_
    refine jj_aload_n d_VC_poke_5 rfl ?_
    refine jj_getI d_VC_poke_6 fk_VC_51 (sh_VC h_this).2 (sh_VC h_this).1 rfl rfl ?_
    refine jj_ic_lt (tgt := 22) d_VC_poke_9 rfl (fun c2 => ?_) (fun c2 => ?_)
    · rw [if_pos c2] at h
      refine jj_iload_n d_VC_poke_22 rfl ?_
      refine jj_if_lt (tgt := 33) d_VC_poke_23 rfl (fun c3 => ?_) (fun c3 => ?_)
      · rw [if_pos c3] at h
        exact jj_J.sub (t_VC_poke_33  h) (fun i v hi => jj_mask_ok [false, false, false] hi)
      · rw [if_neg c3] at h
        refine jj_iload_n d_VC_poke_26 rfl ?_
        refine jj_sipush d_VC_poke_27 jc_s_255 ?_
        refine jj_ic_le (tgt := 43) d_VC_poke_30 rfl (fun c4 => ?_) (fun c4 => ?_)
        · rw [if_pos c4] at h
          refine jj_aload_n d_VC_poke_43 rfl ?_
          refine jj_getR d_VC_poke_44 fk_VC_9 (sh_VC h_this).2 (sh_VC h_this).1 rfl ?_
          refine jj_iload_n d_VC_poke_47 rfl ?_
          refine jj_iload_n d_VC_poke_48 rfl ?_
          obtain ⟨i5, h⟩ := jj_gt h
          refine jj_iastore d_VC_poke_49 rfl (ar_VC_typed h_this).1 (ar_VC_typed h_this).2 (jj_inn i5) ?_
          cases h
          exact jj_return d_VC_poke_50 rfl ⟨rfl, rfl⟩
        · rw [if_neg c4] at h
          exact jj_J.sub (t_VC_poke_33  h) (fun i v hi => jj_mask_ok [false, false, false] hi)
    · rw [if_neg c2] at h
      exact jj_J.sub (t_VC_poke_12  h) (fun i v hi => jj_mask_ok [false, false, false] hi)
theorem c_VC_poke {X : jj_X} {d : Nat} {this : Nat} {a1 : Int32} {a2 : Int32} (h_this : o_VC this) {x : jj_Mem} {q : jj_Mem} (h : f_VC_poke this a1 a2 x = some q) : jj_Met Y0 X (d + 0) m_VC_poke [.ref this, .int a1, .int a2] x (jp_v q) :=
  jj_metp 0 (lo := [some (.ref this), some (.int a1), some (.int a2)]) rfl (Nat.le_of_ble_eq_true rfl) rfl (t_VC_poke_0 h_this h)
def f_VC_result (this : Nat) (x : jj_Mem) : Option (Int32 × jj_Mem) :=
  some ((x (this + 32) 0), x)
set_option maxHeartbeats 2000000 in
theorem t_VC_result_0 {X : jj_X} {d : Nat} {this : Nat} (h_this : o_VC this) {x : jj_Mem} {q : Int32 × jj_Mem} (h : f_VC_result this x = some q) : jj_J Y0 X (d + 0) m_VC_result 0 [some (.ref this)] [] x (jp_i q) := by
  unfold f_VC_result at h
  refine jj_aload_n d_VC_result_0 rfl ?_
  refine jj_getR d_VC_result_1 fk_VC_40 (sh_VC h_this).2 (sh_VC h_this).1 rfl ?_
  refine jj_getI d_VC_result_4 fk_VC_113 (sh_Ma (ro_VC_machine h_this)).2 (sh_Ma (ro_VC_machine h_this)).1 rfl rfl ?_
  cases h
  exact jj_ireturn d_VC_result_7 rfl ⟨rfl, rfl⟩
theorem c_VC_result {X : jj_X} {d : Nat} {this : Nat} (h_this : o_VC this) {x : jj_Mem} {q : Int32 × jj_Mem} (h : f_VC_result this x = some q) : jj_Met Y0 X (d + 0) m_VC_result [.ref this] x (jp_i q) :=
  jj_metp 0 (lo := [some (.ref this)]) rfl (Nat.le_of_ble_eq_true rfl) rfl (t_VC_result_0 h_this h)
def f_VC_size (this : Nat) (x : jj_Mem) : Option (Int32 × jj_Mem) :=
  some ((x this 1), x)
set_option maxHeartbeats 2000000 in
theorem t_VC_size_0 {X : jj_X} {d : Nat} {this : Nat} (h_this : o_VC this) {x : jj_Mem} {q : Int32 × jj_Mem} (h : f_VC_size this x = some q) : jj_J Y0 X (d + 0) m_VC_size 0 [some (.ref this)] [] x (jp_i q) := by
  unfold f_VC_size at h
  refine jj_aload_n d_VC_size_0 rfl ?_
  refine jj_getI d_VC_size_1 fk_VC_51 (sh_VC h_this).2 (sh_VC h_this).1 rfl rfl ?_
  cases h
  exact jj_ireturn d_VC_size_4 rfl ⟨rfl, rfl⟩
theorem c_VC_size {X : jj_X} {d : Nat} {this : Nat} (h_this : o_VC this) {x : jj_Mem} {q : Int32 × jj_Mem} (h : f_VC_size this x = some q) : jj_Met Y0 X (d + 0) m_VC_size [.ref this] x (jp_i q) :=
  jj_metp 0 (lo := [some (.ref this)]) rfl (Nat.le_of_ble_eq_true rfl) rfl (t_VC_size_0 h_this h)
def f_VC_steps (this : Nat) (x : jj_Mem) : Option (Int32 × jj_Mem) :=
  some ((x (this + 32) 1), x)
set_option maxHeartbeats 2000000 in
theorem t_VC_steps_0 {X : jj_X} {d : Nat} {this : Nat} (h_this : o_VC this) {x : jj_Mem} {q : Int32 × jj_Mem} (h : f_VC_steps this x = some q) : jj_J Y0 X (d + 0) m_VC_steps 0 [some (.ref this)] [] x (jp_i q) := by
  unfold f_VC_steps at h
  refine jj_aload_n d_VC_steps_0 rfl ?_
  refine jj_getR d_VC_steps_1 fk_VC_40 (sh_VC h_this).2 (sh_VC h_this).1 rfl ?_
  refine jj_getI d_VC_steps_4 fk_VC_116 (sh_Ma (ro_VC_machine h_this)).2 (sh_Ma (ro_VC_machine h_this)).1 rfl rfl ?_
  cases h
  exact jj_ireturn d_VC_steps_7 rfl ⟨rfl, rfl⟩
theorem c_VC_steps {X : jj_X} {d : Nat} {this : Nat} (h_this : o_VC this) {x : jj_Mem} {q : Int32 × jj_Mem} (h : f_VC_steps this x = some q) : jj_Met Y0 X (d + 0) m_VC_steps [.ref this] x (jp_i q) :=
  jj_metp 0 (lo := [some (.ref this)]) rfl (Nat.le_of_ble_eq_true rfl) rfl (t_VC_steps_0 h_this h)
def k_VC_type_11 (rec : Nat → List (Option Value) → jj_Mem → Option (Int32 × jj_Mem))  (x : jj_Mem) : Option (Int32 × jj_Mem) :=
  none
set_option maxHeartbeats 2000000 in
theorem t_VC_type_11 {X : jj_X} {d : Nat} (rec : Nat → List (Option Value) → jj_Mem → Option (Int32 × jj_Mem)) (hrec : ∀ (L : Nat) (lo : List (Option Value)) (x : jj_Mem) (q : Int32 × jj_Mem), rec L lo x = some q → jj_J Y0 X (d + 0) m_VC_type L lo [] x (jp_i q))   {x : jj_Mem} {q : Int32 × jj_Mem} (h : k_VC_type_11 rec  x = some q) : jj_J Y0 X (d + 0) m_VC_type 11 [none, none, none, none, none] [] x (jp_i q) := by
  unfold k_VC_type_11 at h
  cases h
def k_VC_type_48 (rec : Nat → List (Option Value) → jj_Mem → Option (Int32 × jj_Mem)) (l0 : Nat) (l1 : Int64) (l4 : Int32) (x : jj_Mem) : Option (Int32 × jj_Mem) :=
  (if l4 < 0 then some ((x l0 1), x) else if jj_inb (x l0 1) 240 = true then rec 48 [some (.ref l0), some (.long l1), none, none, some (.int (l4 + (-1)))] (jj_set (jj_set x (l0 + 1) ((x l0 1)).toNatClampNeg (((l1 >>> (((8 * l4)).toInt64 &&& 63))).toInt32 &&& 255)) l0 1 (((jj_set x (l0 + 1) ((x l0 1)).toNatClampNeg (((l1 >>> (((8 * l4)).toInt64 &&& 63))).toInt32 &&& 255)) l0 1) + 1)) else none)
set_option maxHeartbeats 2000000 in
theorem t_VC_type_48 {X : jj_X} {d : Nat} (rec : Nat → List (Option Value) → jj_Mem → Option (Int32 × jj_Mem)) (hrec : ∀ (L : Nat) (lo : List (Option Value)) (x : jj_Mem) (q : Int32 × jj_Mem), rec L lo x = some q → jj_J Y0 X (d + 0) m_VC_type L lo [] x (jp_i q)) {l0 : Nat} {l1 : Int64} {l4 : Int32} (h_l0 : o_VC l0) {x : jj_Mem} {q : Int32 × jj_Mem} (h : k_VC_type_48 rec l0 l1 l4 x = some q) : jj_J Y0 X (d + 0) m_VC_type 48 [some (.ref l0), some (.long l1), none, none, some (.int l4)] [] x (jp_i q) := by
  unfold k_VC_type_48 at h
  refine jj_iload d_VC_type_48 rfl ?_
  refine jj_if_lt (tgt := 90) d_VC_type_50 rfl (fun c1 => ?_) (fun c1 => ?_)
  · rw [if_pos c1] at h
    refine jj_aload_n d_VC_type_90 rfl ?_
    refine jj_getI d_VC_type_91 fk_VC_51 (sh_VC h_l0).2 (sh_VC h_l0).1 rfl rfl ?_
    cases h
    exact jj_ireturn d_VC_type_94 rfl ⟨rfl, rfl⟩
  · rw [if_neg c1] at h
    refine jj_aload_n d_VC_type_53 rfl ?_
    refine jj_getR d_VC_type_54 fk_VC_9 (sh_VC h_l0).2 (sh_VC h_l0).1 rfl ?_
    refine jj_aload_n d_VC_type_57 rfl ?_
    refine jj_getI d_VC_type_58 fk_VC_51 (sh_VC h_l0).2 (sh_VC h_l0).1 rfl rfl ?_
    refine jj_lload_n d_VC_type_61 rfl ?_
    refine jj_bipush d_VC_type_62 jc_b_8 ?_
    refine jj_iload d_VC_type_64 rfl ?_
    refine jj_imul d_VC_type_66 ?_
    refine jj_lshr d_VC_type_67 ?_
    refine jj_l2i d_VC_type_68 ?_
    refine jj_sipush d_VC_type_69 jc_s_255 ?_
    refine jj_iand d_VC_type_72 ?_
    obtain ⟨i2, h⟩ := jj_gt h
    refine jj_iastore d_VC_type_73 rfl (ar_VC_typed h_l0).1 (ar_VC_typed h_l0).2 (jj_inn i2) ?_
    refine jj_aload_n d_VC_type_74 rfl ?_
    refine jj_dup d_VC_type_75 rfl ?_
    refine jj_getI d_VC_type_76 fk_VC_51 (sh_VC h_l0).2 (sh_VC h_l0).1 rfl rfl ?_
    refine jj_iconst d_VC_type_79 jc_i_1 ?_
    refine jj_iadd d_VC_type_80 ?_
    refine jj_putI d_VC_type_81 pk_VC_51 (sh_VC h_l0).2 (sh_VC h_l0).1 rfl ?_
    refine jj_iinc (lo' := [_, _, _, _, _]) (v := (l4 + (-1))) d_VC_type_84 rfl (jc_a_m1 _) rfl (by decide) rfl ?_
    refine jj_goto (tgt := 48) d_VC_type_87 rfl ?_
    exact jj_J.sub (hrec _ _ _ _ h) (fun i v hi => jj_mask_ok [true, true, false, false, true] hi)
def g_VC_type : Nat → Nat → List (Option Value) → jj_Mem → Option (Int32 × jj_Mem)
  | 0, _, _, _ => none
  | f + 1, L, lo, x => match L, lo with
    | 48, [some (.ref l0), some (.long l1), none, none, some (.int l4)] => if (bo_VC l0) = true then k_VC_type_48 (g_VC_type f) l0 l1 l4 x else none
    | _, _ => none
set_option maxHeartbeats 2000000 in
theorem t_VC_type_g {X : jj_X} {d : Nat} : ∀ (f L : Nat) (lo : List (Option Value)) (x : jj_Mem) (q : Int32 × jj_Mem), g_VC_type f L lo x = some q → jj_J Y0 X (d + 0) m_VC_type L lo [] x (jp_i q) := by
  intro f
  induction f with
  | zero => intro L lo x q h; simp [g_VC_type] at h
  | succ f ih =>
    intro L lo x q h
    unfold g_VC_type at h
    split at h
    · obtain ⟨i1, h⟩ := jj_gt h
      exact t_VC_type_48 _ ih (ob_VC i1) h
    · cases h
def k_VC_type_0 (rec : Nat → List (Option Value) → jj_Mem → Option (Int32 × jj_Mem)) (this : Nat) (a1 : Int64) (a2 : Int32) (x : jj_Mem) : Option (Int32 × jj_Mem) :=
  (if a2 < 1 then k_VC_type_11 rec  x else (if a2 ≤ 8 then (if ((x this 1) + a2) ≤ 240 then rec 48 [some (.ref this), some (.long a1), none, none, some (.int (a2 - 1))] x else none) else k_VC_type_11 rec  x))
set_option maxHeartbeats 2000000 in
theorem t_VC_type_0 {X : jj_X} {d : Nat} (rec : Nat → List (Option Value) → jj_Mem → Option (Int32 × jj_Mem)) (hrec : ∀ (L : Nat) (lo : List (Option Value)) (x : jj_Mem) (q : Int32 × jj_Mem), rec L lo x = some q → jj_J Y0 X (d + 0) m_VC_type L lo [] x (jp_i q)) {this : Nat} {a1 : Int64} {a2 : Int32} (h_this : o_VC this) {x : jj_Mem} {q : Int32 × jj_Mem} (h : k_VC_type_0 rec this a1 a2 x = some q) : jj_J Y0 X (d + 0) m_VC_type 0 [some (.ref this), some (.long a1), none, some (.int a2), none] [] x (jp_i q) := by
  unfold k_VC_type_0 at h
  refine jj_iload_n d_VC_type_0 rfl ?_
  refine jj_iconst d_VC_type_1 jc_i_1 ?_
  refine jj_ic_lt (tgt := 11) d_VC_type_2 rfl (fun c1 => ?_) (fun c1 => ?_)
  · rw [if_pos c1] at h
    exact jj_J.sub (t_VC_type_11 rec hrec  h) (fun i v hi => jj_mask_ok [false, false, false, false, false] hi)
  · rw [if_neg c1] at h
    refine jj_iload_n d_VC_type_5 rfl ?_
    refine jj_bipush d_VC_type_6 jc_b_8 ?_
    refine jj_ic_le (tgt := 21) d_VC_type_8 rfl (fun c2 => ?_) (fun c2 => ?_)
    · rw [if_pos c2] at h
      refine jj_aload_n d_VC_type_21 rfl ?_
      refine jj_getI d_VC_type_22 fk_VC_51 (sh_VC h_this).2 (sh_VC h_this).1 rfl rfl ?_
      refine jj_iload_n d_VC_type_25 rfl ?_
      refine jj_iadd d_VC_type_26 ?_
      refine jj_sipush d_VC_type_27 jc_s_240 ?_
      refine jj_ic_le (tgt := 43) d_VC_type_30 rfl (fun c3 => ?_) (fun c3 => ?_)
      · rw [if_pos c3] at h
        refine jj_iload_n d_VC_type_43 rfl ?_
        refine jj_iconst d_VC_type_44 jc_i_1 ?_
        refine jj_isub d_VC_type_45 ?_
        refine jj_istore (lo' := [_, _, _, _, _]) d_VC_type_46 rfl (by decide) rfl ?_
        exact jj_J.sub (hrec _ _ _ _ h) (fun i v hi => jj_mask_ok [true, true, false, false, true] hi)
      · rw [if_neg c3] at h
        cases h
    · rw [if_neg c2] at h
      exact jj_J.sub (t_VC_type_11 rec hrec  h) (fun i v hi => jj_mask_ok [false, false, false, false, false] hi)
def f_VC_type (this : Nat) (a1 : Int64) (a2 : Int32) (x : jj_Mem) : Option (Int32 × jj_Mem) := k_VC_type_0 (g_VC_type 1000) this a1 a2 x
theorem c_VC_type {X : jj_X} {d : Nat} {this : Nat} {a1 : Int64} {a2 : Int32} (h_this : o_VC this) {x : jj_Mem} {q : Int32 × jj_Mem} (h : f_VC_type this a1 a2 x = some q) : jj_Met Y0 X (d + 0) m_VC_type [.ref this, .long a1, .int a2] x (jp_i q) :=
  jj_metp 1 (lo := [some (.ref this), some (.long a1), none, some (.int a2), none]) rfl (Nat.le_of_ble_eq_true rfl) rfl (t_VC_type_0 _ (t_VC_type_g 1000) h_this h)
def k_Ck_isGoodForFrame_65 (rec : Nat → List (Option Value) → jj_Mem → Option (Int32 × jj_Mem)) (l0 : Nat) (l1 : Nat) (l2 : Nat) (l3 : Int32) (l4 : Int32) (x : jj_Mem) : Option (Int32 × jj_Mem) :=
  (if (x (l0 + 1) 4) ≤ l4 then some (1, x) else if jj_inb l4 6 = true then jj_b2 (f_Pr_frameValue l1 l2 l3 l4 x) (fun r3 x3 => jj_b2 (f_VC_isGoodFor (x ((l0 + 1) + 3) (l4).toNatClampNeg) r3 x3) (fun r4 x4 => (if r4 = 0 then some (0, x4) else rec 65 [some (.ref l0), some (.ref l1), some (.ref l2), some (.int l3), some (.int (l4 + 1))] x4))) else none)
set_option maxHeartbeats 2000000 in
theorem t_Ck_isGoodForFrame_65 {X : jj_X} {d : Nat} (rec : Nat → List (Option Value) → jj_Mem → Option (Int32 × jj_Mem)) (hrec : ∀ (L : Nat) (lo : List (Option Value)) (x : jj_Mem) (q : Int32 × jj_Mem), rec L lo x = some q → jj_J Y0 X (d + 1) m_Ck_isGoodForFrame L lo [] x (jp_i q)) {l0 : Nat} {l1 : Nat} {l2 : Nat} {l3 : Int32} {l4 : Int32} (h_l0 : o_Ck l0) (h_l1 : o_Pr l1) (h_l2 : o_Me l2) {x : jj_Mem} {q : Int32 × jj_Mem} (h : k_Ck_isGoodForFrame_65 rec l0 l1 l2 l3 l4 x = some q) : jj_J Y0 X (d + 1) m_Ck_isGoodForFrame 65 [some (.ref l0), some (.ref l1), some (.ref l2), some (.int l3), some (.int l4)] [] x (jp_i q) := by
  unfold k_Ck_isGoodForFrame_65 at h
  refine jj_iload d_Ck_isGoodForFrame_65 rfl ?_
  refine jj_aload_n d_Ck_isGoodForFrame_67 rfl ?_
  refine jj_getR d_Ck_isGoodForFrame_68 fk_Ck_12 (sh_Ck h_l0).2 (sh_Ck h_l0).1 rfl ?_
  refine jj_getI d_Ck_isGoodForFrame_71 fk_Ck_90 (sh_St (ro_Ck_state h_l0)).2 (sh_St (ro_Ck_state h_l0)).1 rfl rfl ?_
  refine jj_ic_ge (tgt := 109) d_Ck_isGoodForFrame_74 rfl (fun c1 => ?_) (fun c1 => ?_)
  · rw [if_pos c1] at h
    refine jj_iconst d_Ck_isGoodForFrame_109 jc_i_1 ?_
    cases h
    exact jj_zreturn d_Ck_isGoodForFrame_110 rfl (Or.inr rfl) ⟨rfl, rfl⟩
  · rw [if_neg c1] at h
    refine jj_aload_n d_Ck_isGoodForFrame_77 rfl ?_
    refine jj_getR d_Ck_isGoodForFrame_78 fk_Ck_12 (sh_Ck h_l0).2 (sh_Ck h_l0).1 rfl ?_
    refine jj_getR d_Ck_isGoodForFrame_81 fk_Ck_111 (sh_St (ro_Ck_state h_l0)).2 (sh_St (ro_Ck_state h_l0)).1 rfl ?_
    refine jj_iload d_Ck_isGoodForFrame_84 rfl ?_
    obtain ⟨i2, h⟩ := jj_gt h
    refine jj_iaload d_Ck_isGoodForFrame_86 rfl (ar_St_kinds (ro_Ck_state h_l0)).1 (ar_St_kinds (ro_Ck_state h_l0)).2 (jj_inn i2) rfl ?_
    refine jj_aload_n d_Ck_isGoodForFrame_87 rfl ?_
    refine jj_aload_n d_Ck_isGoodForFrame_88 rfl ?_
    refine jj_iload_n d_Ck_isGoodForFrame_89 rfl ?_
    refine jj_iload d_Ck_isGoodForFrame_90 rfl ?_
    obtain ⟨r3, x3, e3, h⟩ := jj_b2o h
    refine jj_callVi (as := [.ref l2, .int l3, .int l4]) (c_Pr_frameValue (d := d + 0) h_l1 h_l2 e3) d_Ck_isGoodForFrame_92 ck_Ck_96 (sh_Pr h_l1).2 (sh_Pr h_l1).1 ⟨_, rfl, rfl⟩ rfl rfl (Nat.le_of_ble_eq_true rfl) ?_
    obtain ⟨r4, x4, e4, h⟩ := jj_b2o h
    refine jj_callSNi (as := [.int (x ((l0 + 1) + 3) (l4).toNatClampNeg), .int r3]) (c_VC_isGoodFor (d := d + 0)  e4) d_Ck_isGoodForFrame_95 ck_Ck_107 rfl rfl (Nat.le_of_ble_eq_true rfl) ?_
    refine jj_if_ne (tgt := 103) d_Ck_isGoodForFrame_98 rfl (fun c5 => ?_) (fun c5 => ?_)
    · rw [if_neg c5] at h
      refine jj_iinc (lo' := [_, _, _, _, _]) (v := (l4 + 1)) d_Ck_isGoodForFrame_103 rfl (jc_a_1 _) rfl (by decide) rfl ?_
      refine jj_goto (tgt := 65) d_Ck_isGoodForFrame_106 rfl ?_
      exact jj_J.sub (hrec _ _ _ _ h) (fun i v hi => jj_mask_ok [true, true, true, true, true] hi)
    · rw [if_pos c5] at h
      refine jj_iconst d_Ck_isGoodForFrame_101 jc_i_0 ?_
      cases h
      exact jj_zreturn d_Ck_isGoodForFrame_102 rfl (Or.inl rfl) ⟨rfl, rfl⟩
def k_Ck_isGoodForFrame_21 (rec : Nat → List (Option Value) → jj_Mem → Option (Int32 × jj_Mem)) (l0 : Nat) (l1 : Nat) (l2 : Nat) (l3 : Int32) (l4 : Int32) (x : jj_Mem) : Option (Int32 × jj_Mem) :=
  (if (x l2 4) ≤ l4 then rec 65 [some (.ref l0), some (.ref l1), some (.ref l2), some (.int l3), some (.int 0)] x else if jj_inb l4 6 = true then jj_b2 (f_Pr_framePlace l1 l2 l3 l4 x) (fun r3 x3 => jj_b2 (f_VC_isGoodFor (x ((l0 + 1) + 1) (l4).toNatClampNeg) r3 x3) (fun r4 x4 => (if r4 = 0 then some (0, x4) else rec 21 [some (.ref l0), some (.ref l1), some (.ref l2), some (.int l3), some (.int (l4 + 1))] x4))) else none)
set_option maxHeartbeats 2000000 in
theorem t_Ck_isGoodForFrame_21 {X : jj_X} {d : Nat} (rec : Nat → List (Option Value) → jj_Mem → Option (Int32 × jj_Mem)) (hrec : ∀ (L : Nat) (lo : List (Option Value)) (x : jj_Mem) (q : Int32 × jj_Mem), rec L lo x = some q → jj_J Y0 X (d + 1) m_Ck_isGoodForFrame L lo [] x (jp_i q)) {l0 : Nat} {l1 : Nat} {l2 : Nat} {l3 : Int32} {l4 : Int32} (h_l0 : o_Ck l0) (h_l1 : o_Pr l1) (h_l2 : o_Me l2) {x : jj_Mem} {q : Int32 × jj_Mem} (h : k_Ck_isGoodForFrame_21 rec l0 l1 l2 l3 l4 x = some q) : jj_J Y0 X (d + 1) m_Ck_isGoodForFrame 21 [some (.ref l0), some (.ref l1), some (.ref l2), some (.int l3), some (.int l4)] [] x (jp_i q) := by
  unfold k_Ck_isGoodForFrame_21 at h
  refine jj_iload d_Ck_isGoodForFrame_21 rfl ?_
  refine jj_aload_n d_Ck_isGoodForFrame_23 rfl ?_
  refine jj_getI d_Ck_isGoodForFrame_24 fk_Ck_83 (sh_Me h_l2).2 (sh_Me h_l2).1 rfl rfl ?_
  refine jj_ic_ge (tgt := 62) d_Ck_isGoodForFrame_27 rfl (fun c1 => ?_) (fun c1 => ?_)
  · rw [if_pos c1] at h
    refine jj_iconst d_Ck_isGoodForFrame_62 jc_i_0 ?_
    refine jj_istore (lo' := [_, _, _, _, _]) d_Ck_isGoodForFrame_63 rfl (by decide) rfl ?_
    exact jj_J.sub (hrec _ _ _ _ h) (fun i v hi => jj_mask_ok [true, true, true, true, true] hi)
  · rw [if_neg c1] at h
    refine jj_aload_n d_Ck_isGoodForFrame_30 rfl ?_
    refine jj_getR d_Ck_isGoodForFrame_31 fk_Ck_12 (sh_Ck h_l0).2 (sh_Ck h_l0).1 rfl ?_
    refine jj_getR d_Ck_isGoodForFrame_34 fk_Ck_103 (sh_St (ro_Ck_state h_l0)).2 (sh_St (ro_Ck_state h_l0)).1 rfl ?_
    refine jj_iload d_Ck_isGoodForFrame_37 rfl ?_
    obtain ⟨i2, h⟩ := jj_gt h
    refine jj_iaload d_Ck_isGoodForFrame_39 rfl (ar_St_placeKinds (ro_Ck_state h_l0)).1 (ar_St_placeKinds (ro_Ck_state h_l0)).2 (jj_inn i2) rfl ?_
    refine jj_aload_n d_Ck_isGoodForFrame_40 rfl ?_
    refine jj_aload_n d_Ck_isGoodForFrame_41 rfl ?_
    refine jj_iload_n d_Ck_isGoodForFrame_42 rfl ?_
    refine jj_iload d_Ck_isGoodForFrame_43 rfl ?_
    obtain ⟨r3, x3, e3, h⟩ := jj_b2o h
    refine jj_callVi (as := [.ref l2, .int l3, .int l4]) (c_Pr_framePlace (d := d + 0) h_l1 h_l2 e3) d_Ck_isGoodForFrame_45 ck_Ck_86 (sh_Pr h_l1).2 (sh_Pr h_l1).1 ⟨_, rfl, rfl⟩ rfl rfl (Nat.le_of_ble_eq_true rfl) ?_
    obtain ⟨r4, x4, e4, h⟩ := jj_b2o h
    refine jj_callSNi (as := [.int (x ((l0 + 1) + 1) (l4).toNatClampNeg), .int r3]) (c_VC_isGoodFor (d := d + 0)  e4) d_Ck_isGoodForFrame_48 ck_Ck_107 rfl rfl (Nat.le_of_ble_eq_true rfl) ?_
    refine jj_if_ne (tgt := 56) d_Ck_isGoodForFrame_51 rfl (fun c5 => ?_) (fun c5 => ?_)
    · rw [if_neg c5] at h
      refine jj_iinc (lo' := [_, _, _, _, _]) (v := (l4 + 1)) d_Ck_isGoodForFrame_56 rfl (jc_a_1 _) rfl (by decide) rfl ?_
      refine jj_goto (tgt := 21) d_Ck_isGoodForFrame_59 rfl ?_
      exact jj_J.sub (hrec _ _ _ _ h) (fun i v hi => jj_mask_ok [true, true, true, true, true] hi)
    · rw [if_pos c5] at h
      refine jj_iconst d_Ck_isGoodForFrame_54 jc_i_0 ?_
      cases h
      exact jj_zreturn d_Ck_isGoodForFrame_55 rfl (Or.inl rfl) ⟨rfl, rfl⟩
def g_Ck_isGoodForFrame : Nat → Nat → List (Option Value) → jj_Mem → Option (Int32 × jj_Mem)
  | 0, _, _, _ => none
  | f + 1, L, lo, x => match L, lo with
    | 21, [some (.ref l0), some (.ref l1), some (.ref l2), some (.int l3), some (.int l4)] => if (bo_Ck l0 && bo_Pr l1 && bo_Me l2) = true then k_Ck_isGoodForFrame_21 (g_Ck_isGoodForFrame f) l0 l1 l2 l3 l4 x else none
    | 65, [some (.ref l0), some (.ref l1), some (.ref l2), some (.int l3), some (.int l4)] => if (bo_Ck l0 && bo_Pr l1 && bo_Me l2) = true then k_Ck_isGoodForFrame_65 (g_Ck_isGoodForFrame f) l0 l1 l2 l3 l4 x else none
    | _, _ => none
set_option maxHeartbeats 2000000 in
theorem t_Ck_isGoodForFrame_g {X : jj_X} {d : Nat} : ∀ (f L : Nat) (lo : List (Option Value)) (x : jj_Mem) (q : Int32 × jj_Mem), g_Ck_isGoodForFrame f L lo x = some q → jj_J Y0 X (d + 1) m_Ck_isGoodForFrame L lo [] x (jp_i q) := by
  intro f
  induction f with
  | zero => intro L lo x q h; simp [g_Ck_isGoodForFrame] at h
  | succ f ih =>
    intro L lo x q h
    unfold g_Ck_isGoodForFrame at h
    split at h
    · obtain ⟨i1, h⟩ := jj_gt h
      exact t_Ck_isGoodForFrame_21 _ ih (ob_Ck (jj_andl (jj_andl i1))) (ob_Pr (jj_andr (jj_andl i1))) (ob_Me (jj_andr i1)) h
    · obtain ⟨i1, h⟩ := jj_gt h
      exact t_Ck_isGoodForFrame_65 _ ih (ob_Ck (jj_andl (jj_andl i1))) (ob_Pr (jj_andr (jj_andl i1))) (ob_Me (jj_andr i1)) h
    · cases h
def k_Ck_isGoodForFrame_0 (rec : Nat → List (Option Value) → jj_Mem → Option (Int32 × jj_Mem)) (this : Nat) (a1 : Nat) (a2 : Nat) (a3 : Int32) (x : jj_Mem) : Option (Int32 × jj_Mem) :=
  jj_b2 (f_Pr_frameHeight a1 a2 a3 x) (fun r1 x1 => (if (x (this + 1) 4) = r1 then rec 21 [some (.ref this), some (.ref a1), some (.ref a2), some (.int a3), some (.int 0)] x1 else some (0, x1)))
set_option maxHeartbeats 2000000 in
theorem t_Ck_isGoodForFrame_0 {X : jj_X} {d : Nat} (rec : Nat → List (Option Value) → jj_Mem → Option (Int32 × jj_Mem)) (hrec : ∀ (L : Nat) (lo : List (Option Value)) (x : jj_Mem) (q : Int32 × jj_Mem), rec L lo x = some q → jj_J Y0 X (d + 1) m_Ck_isGoodForFrame L lo [] x (jp_i q)) {this : Nat} {a1 : Nat} {a2 : Nat} {a3 : Int32} (h_this : o_Ck this) (h_a1 : o_Pr a1) (h_a2 : o_Me a2) {x : jj_Mem} {q : Int32 × jj_Mem} (h : k_Ck_isGoodForFrame_0 rec this a1 a2 a3 x = some q) : jj_J Y0 X (d + 1) m_Ck_isGoodForFrame 0 [some (.ref this), some (.ref a1), some (.ref a2), some (.int a3), none] [] x (jp_i q) := by
  unfold k_Ck_isGoodForFrame_0 at h
  refine jj_aload_n d_Ck_isGoodForFrame_0 rfl ?_
  refine jj_getR d_Ck_isGoodForFrame_1 fk_Ck_12 (sh_Ck h_this).2 (sh_Ck h_this).1 rfl ?_
  refine jj_getI d_Ck_isGoodForFrame_4 fk_Ck_90 (sh_St (ro_Ck_state h_this)).2 (sh_St (ro_Ck_state h_this)).1 rfl rfl ?_
  refine jj_aload_n d_Ck_isGoodForFrame_7 rfl ?_
  refine jj_aload_n d_Ck_isGoodForFrame_8 rfl ?_
  refine jj_iload_n d_Ck_isGoodForFrame_9 rfl ?_
  obtain ⟨r1, x1, e1, h⟩ := jj_b2o h
  refine jj_callVi (as := [.ref a2, .int a3]) (c_Pr_frameHeight (d := d + 0) h_a1 h_a2 e1) d_Ck_isGoodForFrame_10 ck_Ck_93 (sh_Pr h_a1).2 (sh_Pr h_a1).1 ⟨_, rfl, rfl⟩ rfl rfl (Nat.le_of_ble_eq_true rfl) ?_
  refine jj_ic_eq (tgt := 18) d_Ck_isGoodForFrame_13 rfl (fun c2 => ?_) (fun c2 => ?_)
  · rw [if_pos c2] at h
    refine jj_iconst d_Ck_isGoodForFrame_18 jc_i_0 ?_
    refine jj_istore (lo' := [_, _, _, _, _]) d_Ck_isGoodForFrame_19 rfl (by decide) rfl ?_
    exact jj_J.sub (hrec _ _ _ _ h) (fun i v hi => jj_mask_ok [true, true, true, true, true] hi)
  · rw [if_neg c2] at h
    refine jj_iconst d_Ck_isGoodForFrame_16 jc_i_0 ?_
    cases h
    exact jj_zreturn d_Ck_isGoodForFrame_17 rfl (Or.inl rfl) ⟨rfl, rfl⟩
def f_Ck_isGoodForFrame (this : Nat) (a1 : Nat) (a2 : Nat) (a3 : Int32) (x : jj_Mem) : Option (Int32 × jj_Mem) := k_Ck_isGoodForFrame_0 (g_Ck_isGoodForFrame 1000) this a1 a2 a3 x
theorem c_Ck_isGoodForFrame {X : jj_X} {d : Nat} {this : Nat} {a1 : Nat} {a2 : Nat} {a3 : Int32} (h_this : o_Ck this) (h_a1 : o_Pr a1) (h_a2 : o_Me a2) {x : jj_Mem} {q : Int32 × jj_Mem} (h : f_Ck_isGoodForFrame this a1 a2 a3 x = some q) : jj_Met Y0 X (d + 1) m_Ck_isGoodForFrame [.ref this, .ref a1, .ref a2, .int a3] x (jp_i q) :=
  jj_metp 1 (lo := [some (.ref this), some (.ref a1), some (.ref a2), some (.int a3), none]) rfl (Nat.le_of_ble_eq_true rfl) rfl (t_Ck_isGoodForFrame_0 _ (t_Ck_isGoodForFrame_g 1000) h_this h_a1 h_a2 h)
def f_Ck_typePut (this : Nat) (a1 : Nat) (a2 : Nat) (a3 : Int32) (x : jj_Mem) : Option (Int32 × jj_Mem) :=
  jj_b2 (f_Pr_code a1 a2 a3 x) (fun r1 x1 => (if r1 = 1 then some (3, x1) else if r1 = 184 then jj_b2 (f_Pr_called a1 a2 a3 x1) (fun r4 x4 => if bo_Me r4 = true then some ((x4 r4 2), x4) else none) else if r1 = 188 then some (2, x1) else some (1, x1)))
set_option maxHeartbeats 2000000 in
theorem t_Ck_typePut_0 {X : jj_X} {d : Nat} {this : Nat} {a1 : Nat} {a2 : Nat} {a3 : Int32} (h_this : o_Ck this) (h_a1 : o_Pr a1) (h_a2 : o_Me a2) {x : jj_Mem} {q : Int32 × jj_Mem} (h : f_Ck_typePut this a1 a2 a3 x = some q) : jj_J Y0 X (d + 1) m_Ck_typePut 0 [some (.ref this), some (.ref a1), some (.ref a2), some (.int a3)] [] x (jp_i q) := by
  unfold f_Ck_typePut at h
  refine jj_aload_n d_Ck_typePut_0 rfl ?_
  refine jj_aload_n d_Ck_typePut_1 rfl ?_
  refine jj_iload_n d_Ck_typePut_2 rfl ?_
  obtain ⟨r1, x1, e1, h⟩ := jj_b2o h
  refine jj_callVi (as := [.ref a2, .int a3]) (c_Pr_code (d := d + 0) h_a1 h_a2 e1) d_Ck_typePut_3 ck_Ck_44 (sh_Pr h_a1).2 (sh_Pr h_a1).1 ⟨_, rfl, rfl⟩ rfl rfl (Nat.le_of_ble_eq_true rfl) ?_
  by_cases c2 : r1 = 1
  · rw [if_pos c2] at h
    refine jj_lookup (tgt := 40) d_Ck_typePut_6 rfl (by rw [c2] <;> rfl) rfl ?_
    refine jj_iconst d_Ck_typePut_40 jc_i_3 ?_
    cases h
    exact jj_ireturn d_Ck_typePut_41 rfl ⟨rfl, rfl⟩
  rw [if_neg c2] at h
  by_cases c3 : r1 = 184
  · rw [if_pos c3] at h
    refine jj_lookup (tgt := 44) d_Ck_typePut_6 rfl (by rw [c3] <;> rfl) rfl ?_
    refine jj_aload_n d_Ck_typePut_44 rfl ?_
    refine jj_aload_n d_Ck_typePut_45 rfl ?_
    refine jj_iload_n d_Ck_typePut_46 rfl ?_
    obtain ⟨r4, x4, e4, h⟩ := jj_b2o h
    obtain ⟨i5, h⟩ := jj_gt h
    refine jj_callVr (as := [.ref a2, .int a3]) (c_Pr_called (d := d + 0) h_a1 h_a2 e4) d_Ck_typePut_47 ck_Ck_146 (sh_Pr h_a1).2 (sh_Pr h_a1).1 ⟨_, rfl, rfl⟩ rfl rfl (Nat.le_of_ble_eq_true rfl) ?_
    refine jj_getI d_Ck_typePut_50 fk_Ck_150 (sh_Me (ob_Me i5)).2 (sh_Me (ob_Me i5)).1 rfl rfl ?_
    cases h
    exact jj_ireturn d_Ck_typePut_53 rfl ⟨rfl, rfl⟩
  rw [if_neg c3] at h
  by_cases c6 : r1 = 188
  · rw [if_pos c6] at h
    refine jj_lookup (tgt := 42) d_Ck_typePut_6 rfl (by rw [c6] <;> rfl) rfl ?_
    refine jj_iconst d_Ck_typePut_42 jc_i_2 ?_
    cases h
    exact jj_ireturn d_Ck_typePut_43 rfl ⟨rfl, rfl⟩
  rw [if_neg c6] at h
  refine jj_lookup (tgt := 54) d_Ck_typePut_6 rfl ((lv_osw c2 (by decide)).trans ((lv_osw c3 (by decide)).trans ((lv_osw c6 (by decide)).trans (rfl)))) rfl ?_
  refine jj_iconst d_Ck_typePut_54 jc_i_1 ?_
  cases h
  exact jj_ireturn d_Ck_typePut_55 rfl ⟨rfl, rfl⟩
theorem c_Ck_typePut {X : jj_X} {d : Nat} {this : Nat} {a1 : Nat} {a2 : Nat} {a3 : Int32} (h_this : o_Ck this) (h_a1 : o_Pr a1) (h_a2 : o_Me a2) {x : jj_Mem} {q : Int32 × jj_Mem} (h : f_Ck_typePut this a1 a2 a3 x = some q) : jj_Met Y0 X (d + 1) m_Ck_typePut [.ref this, .ref a1, .ref a2, .int a3] x (jp_i q) :=
  jj_metp 0 (lo := [some (.ref this), some (.ref a1), some (.ref a2), some (.int a3)]) rfl (Nat.le_of_ble_eq_true rfl) rfl (t_Ck_typePut_0 h_this h_a1 h_a2 h)
def k_Ma_goesToTarget_53 (s0 : Int32) (s1 : Int32) (x : jj_Mem) : Option (Int32 × jj_Mem) :=
  (if s0 = s1 then some (1, x) else some (0, x))
set_option maxHeartbeats 2000000 in
theorem t_Ma_goesToTarget_53 {X : jj_X} {d : Nat} {s0 : Int32} {s1 : Int32}  {x : jj_Mem} {q : Int32 × jj_Mem} (h : k_Ma_goesToTarget_53 s0 s1 x = some q) : jj_J Y0 X (d + 1) m_Ma_goesToTarget 53 [none, none, none, none] [.int s1, .int s0] x (jp_i q) := by
  unfold k_Ma_goesToTarget_53 at h
  refine jj_ic_ne (tgt := 60) d_Ma_goesToTarget_53 rfl (fun c1 => ?_) (fun c1 => ?_)
  · rw [if_neg c1] at h
    refine jj_iconst d_Ma_goesToTarget_60 jc_i_0 ?_
    cases h
    exact jj_zreturn d_Ma_goesToTarget_61 rfl (Or.inl rfl) ⟨rfl, rfl⟩
  · rw [if_pos c1] at h
    refine jj_iconst d_Ma_goesToTarget_56 jc_i_1 ?_
    refine jj_goto (tgt := 61) d_Ma_goesToTarget_57 rfl ?_
    cases h
    exact jj_zreturn d_Ma_goesToTarget_61 rfl (Or.inr rfl) ⟨rfl, rfl⟩
def k_Ma_goesToTarget_41 (l2 : Int32) (s0 : Int32) (x : jj_Mem) : Option (Int32 × jj_Mem) :=
  (if l2 = 198 then k_Ma_goesToTarget_53 s0 1 x else k_Ma_goesToTarget_53 s0 0 x)
set_option maxHeartbeats 2000000 in
theorem t_Ma_goesToTarget_41 {X : jj_X} {d : Nat} {l2 : Int32} {s0 : Int32}  {x : jj_Mem} {q : Int32 × jj_Mem} (h : k_Ma_goesToTarget_41 l2 s0 x = some q) : jj_J Y0 X (d + 1) m_Ma_goesToTarget 41 [none, none, some (.int l2), none] [.int s0] x (jp_i q) := by
  unfold k_Ma_goesToTarget_41 at h
  refine jj_iload_n d_Ma_goesToTarget_41 rfl ?_
  refine jj_sipush d_Ma_goesToTarget_42 jc_s_198 ?_
  refine jj_ic_ne (tgt := 52) d_Ma_goesToTarget_45 rfl (fun c1 => ?_) (fun c1 => ?_)
  · rw [if_neg c1] at h
    refine jj_iconst d_Ma_goesToTarget_52 jc_i_0 ?_
    exact jj_J.sub (t_Ma_goesToTarget_53  h) (fun i v hi => jj_mask_ok [false, false, false, false] hi)
  · rw [if_pos c1] at h
    refine jj_iconst d_Ma_goesToTarget_48 jc_i_1 ?_
    refine jj_goto (tgt := 53) d_Ma_goesToTarget_49 rfl ?_
    exact jj_J.sub (t_Ma_goesToTarget_53  h) (fun i v hi => jj_mask_ok [false, false, false, false] hi)
def k_Ma_goesToTarget_28 (l1 : Nat) (l2 : Int32) (x : jj_Mem) : Option (Int32 × jj_Mem) :=
  jj_b2 (f_St_kindTaken l1 x) (fun r1 x1 => (if r1 = 3 then k_Ma_goesToTarget_41 l2 1 x1 else k_Ma_goesToTarget_41 l2 0 x1))
set_option maxHeartbeats 2000000 in
theorem t_Ma_goesToTarget_28 {X : jj_X} {d : Nat} {l1 : Nat} {l2 : Int32} (h_l1 : o_St l1) {x : jj_Mem} {q : Int32 × jj_Mem} (h : k_Ma_goesToTarget_28 l1 l2 x = some q) : jj_J Y0 X (d + 1) m_Ma_goesToTarget 28 [none, some (.ref l1), some (.int l2), none] [] x (jp_i q) := by
  unfold k_Ma_goesToTarget_28 at h
  refine jj_aload_n d_Ma_goesToTarget_28 rfl ?_
  obtain ⟨r1, x1, e1, h⟩ := jj_b2o h
  refine jj_callVi (as := []) (c_St_kindTaken (d := d + 0) h_l1 e1) d_Ma_goesToTarget_29 ck_Ma_143 (sh_St h_l1).2 (sh_St h_l1).1 ⟨_, rfl, rfl⟩ rfl rfl (Nat.le_of_ble_eq_true rfl) ?_
  refine jj_iconst d_Ma_goesToTarget_32 jc_i_3 ?_
  refine jj_ic_ne (tgt := 40) d_Ma_goesToTarget_33 rfl (fun c2 => ?_) (fun c2 => ?_)
  · rw [if_neg c2] at h
    refine jj_iconst d_Ma_goesToTarget_40 jc_i_0 ?_
    exact jj_J.sub (t_Ma_goesToTarget_41  h) (fun i v hi => jj_mask_ok [false, false, true, false] hi)
  · rw [if_pos c2] at h
    refine jj_iconst d_Ma_goesToTarget_36 jc_i_1 ?_
    refine jj_goto (tgt := 41) d_Ma_goesToTarget_37 rfl ?_
    exact jj_J.sub (t_Ma_goesToTarget_41  h) (fun i v hi => jj_mask_ok [false, false, true, false] hi)
def f_Ma_goesToTarget (this : Nat) (a1 : Nat) (a2 : Int32) (x : jj_Mem) : Option (Int32 × jj_Mem) :=
  (if a2 = 167 then some (1, x) else jj_b2 (f_St_take a1 x) (fun r2 x2 => (if a2 = 198 then k_Ma_goesToTarget_28 a1 a2 x2 else (if a2 = 199 then k_Ma_goesToTarget_28 a1 a2 x2 else (if 158 < a2 then jj_b2 (f_St_take a1 x2) (fun r6 x6 => jj_b2 (f_Ma_holds this (a2 - 159) r6 r2 x6) (fun r7 x7 => if jj_zb r7 = true then some (r7, x7) else none)) else jj_b2 (f_Ma_holds this (a2 - 153) r2 0 x2) (fun r9 x9 => if jj_zb r9 = true then some (r9, x9) else none))))))
set_option maxHeartbeats 2000000 in
theorem t_Ma_goesToTarget_0 {X : jj_X} {d : Nat} {this : Nat} {a1 : Nat} {a2 : Int32} (h_this : o_Ma this) (h_a1 : o_St a1) {x : jj_Mem} {q : Int32 × jj_Mem} (h : f_Ma_goesToTarget this a1 a2 x = some q) : jj_J Y0 X (d + 1) m_Ma_goesToTarget 0 [some (.ref this), some (.ref a1), some (.int a2), none] [] x (jp_i q) := by
  unfold f_Ma_goesToTarget at h
  refine jj_iload_n d_Ma_goesToTarget_0 rfl ?_
  refine jj_sipush d_Ma_goesToTarget_1 jc_s_167 ?_
  refine jj_ic_ne (tgt := 9) d_Ma_goesToTarget_4 rfl (fun c1 => ?_) (fun c1 => ?_)
  · rw [if_neg c1] at h
    refine jj_aload_n d_Ma_goesToTarget_9 rfl ?_
    obtain ⟨r2, x2, e2, h⟩ := jj_b2o h
    refine jj_callVi (as := []) (c_St_take (d := d + 0) h_a1 e2) d_Ma_goesToTarget_10 ck_Ma_139 (sh_St h_a1).2 (sh_St h_a1).1 ⟨_, rfl, rfl⟩ rfl rfl (Nat.le_of_ble_eq_true rfl) ?_
    refine jj_istore_n (lo' := [_, _, _, _]) d_Ma_goesToTarget_13 rfl (by decide) rfl ?_
    refine jj_iload_n d_Ma_goesToTarget_14 rfl ?_
    refine jj_sipush d_Ma_goesToTarget_15 jc_s_198 ?_
    refine jj_ic_eq (tgt := 28) d_Ma_goesToTarget_18 rfl (fun c3 => ?_) (fun c3 => ?_)
    · rw [if_pos c3] at h
      exact jj_J.sub (t_Ma_goesToTarget_28 h_a1 h) (fun i v hi => jj_mask_ok [false, true, true, false] hi)
    · rw [if_neg c3] at h
      refine jj_iload_n d_Ma_goesToTarget_21 rfl ?_
      refine jj_sipush d_Ma_goesToTarget_22 jc_s_199 ?_
      refine jj_ic_ne (tgt := 62) d_Ma_goesToTarget_25 rfl (fun c4 => ?_) (fun c4 => ?_)
      · rw [if_neg c4] at h
        refine jj_iload_n d_Ma_goesToTarget_62 rfl ?_
        refine jj_sipush d_Ma_goesToTarget_63 jc_s_158 ?_
        refine jj_ic_gt (tgt := 81) d_Ma_goesToTarget_66 rfl (fun c5 => ?_) (fun c5 => ?_)
        · rw [if_pos c5] at h
          refine jj_aload_n d_Ma_goesToTarget_81 rfl ?_
          refine jj_iload_n d_Ma_goesToTarget_82 rfl ?_
          refine jj_sipush d_Ma_goesToTarget_83 jc_s_159 ?_
          refine jj_isub d_Ma_goesToTarget_86 ?_
          refine jj_aload_n d_Ma_goesToTarget_87 rfl ?_
          obtain ⟨r6, x6, e6, h⟩ := jj_b2o h
          refine jj_callVi (as := []) (c_St_take (d := d + 0) h_a1 e6) d_Ma_goesToTarget_88 ck_Ma_139 (sh_St h_a1).2 (sh_St h_a1).1 ⟨_, rfl, rfl⟩ rfl rfl (Nat.le_of_ble_eq_true rfl) ?_
          refine jj_iload_n d_Ma_goesToTarget_91 rfl ?_
          obtain ⟨r7, x7, e7, h⟩ := jj_b2o h
          refine jj_callVi (as := [.int (a2 - 159), .int r6, .int r2]) (c_Ma_holds (d := d + 0) h_this e7) d_Ma_goesToTarget_92 ck_Ma_157 (sh_Ma h_this).2 (sh_Ma h_this).1 ⟨_, rfl, rfl⟩ rfl rfl (Nat.le_of_ble_eq_true rfl) ?_
          obtain ⟨i8, h⟩ := jj_gt h
          cases h
          exact jj_zreturn d_Ma_goesToTarget_95 rfl (jj_zbo i8) ⟨rfl, rfl⟩
        · rw [if_neg c5] at h
          refine jj_aload_n d_Ma_goesToTarget_69 rfl ?_
          refine jj_iload_n d_Ma_goesToTarget_70 rfl ?_
          refine jj_sipush d_Ma_goesToTarget_71 jc_s_153 ?_
          refine jj_isub d_Ma_goesToTarget_74 ?_
          refine jj_iload_n d_Ma_goesToTarget_75 rfl ?_
          refine jj_iconst d_Ma_goesToTarget_76 jc_i_0 ?_
          obtain ⟨r9, x9, e9, h⟩ := jj_b2o h
          refine jj_callVi (as := [.int (a2 - 153), .int r2, .int 0]) (c_Ma_holds (d := d + 0) h_this e9) d_Ma_goesToTarget_77 ck_Ma_157 (sh_Ma h_this).2 (sh_Ma h_this).1 ⟨_, rfl, rfl⟩ rfl rfl (Nat.le_of_ble_eq_true rfl) ?_
          obtain ⟨i10, h⟩ := jj_gt h
          cases h
          exact jj_zreturn d_Ma_goesToTarget_80 rfl (jj_zbo i10) ⟨rfl, rfl⟩
      · rw [if_pos c4] at h
        exact jj_J.sub (t_Ma_goesToTarget_28 h_a1 h) (fun i v hi => jj_mask_ok [false, true, true, false] hi)
  · rw [if_pos c1] at h
    refine jj_iconst d_Ma_goesToTarget_7 jc_i_1 ?_
    cases h
    exact jj_zreturn d_Ma_goesToTarget_8 rfl (Or.inr rfl) ⟨rfl, rfl⟩
theorem c_Ma_goesToTarget {X : jj_X} {d : Nat} {this : Nat} {a1 : Nat} {a2 : Int32} (h_this : o_Ma this) (h_a1 : o_St a1) {x : jj_Mem} {q : Int32 × jj_Mem} (h : f_Ma_goesToTarget this a1 a2 x = some q) : jj_Met Y0 X (d + 1) m_Ma_goesToTarget [.ref this, .ref a1, .int a2] x (jp_i q) :=
  jj_metp 1 (lo := [some (.ref this), some (.ref a1), some (.int a2), none]) rfl (Nat.le_of_ble_eq_true rfl) rfl (t_Ma_goesToTarget_0 h_this h_a1 h)
end
