section
-- ===== PART A: goes FIRST, ahead of the names: the tables' words, and 'selects' of the private methods out of them =====
/-- a private method of a class that the tables say can be made, by its rows of tables_1 -/
def lw_okq (q : MethodName × Nat) : Prop := (q.1.cls ≠ "java/lang/invoke/MethodHandle" ∧ q.1.cls ≠ "java/lang/invoke/VarHandle") ∧ Cond.instantiable q.1.cls q.2 ∈ tables_1 ∧ Cond.privateMethod q.1 ∈ tables_1 ∧ Cond.instanceMethod q.1 ∈ tables_1
theorem lw_p0 : lw_okq (⟨"java/util/ArrayList", "add", "(Ljava/lang/Object;[Ljava/lang/Object;I)V"⟩, 3) := ⟨⟨by decide +kernel, by decide +kernel⟩, List.mem_of_getElem? (i := 51) (by decide +kernel), List.mem_of_getElem? (i := 101) (by decide +kernel), List.mem_of_getElem? (i := 102) (by decide +kernel)⟩
theorem lw_p1 : lw_okq (⟨"java/util/ArrayList", "grow", "()[Ljava/lang/Object;"⟩, 3) := ⟨⟨by decide +kernel, by decide +kernel⟩, List.mem_of_getElem? (i := 51) (by decide +kernel), List.mem_of_getElem? (i := 105) (by decide +kernel), List.mem_of_getElem? (i := 106) (by decide +kernel)⟩
theorem lw_p2 : lw_okq (⟨"java/util/ArrayList", "grow", "(I)[Ljava/lang/Object;"⟩, 3) := ⟨⟨by decide +kernel, by decide +kernel⟩, List.mem_of_getElem? (i := 51) (by decide +kernel), List.mem_of_getElem? (i := 109) (by decide +kernel), List.mem_of_getElem? (i := 110) (by decide +kernel)⟩
theorem lw_p3 : lw_okq (⟨"ConstraintCompiler", "isWellFormed", "(IIII)Z"⟩, 10) := ⟨⟨by decide +kernel, by decide +kernel⟩, List.mem_of_getElem? (i := 25) (by decide +kernel), List.mem_of_getElem? (i := 196) (by decide +kernel), List.mem_of_getElem? (i := 197) (by decide +kernel)⟩
theorem lw_p4 : lw_okq (⟨"ConstraintCompiler", "isMade", "(I)Z"⟩, 10) := ⟨⟨by decide +kernel, by decide +kernel⟩, List.mem_of_getElem? (i := 25) (by decide +kernel), List.mem_of_getElem? (i := 200) (by decide +kernel), List.mem_of_getElem? (i := 201) (by decide +kernel)⟩
theorem lw_p5 : lw_okq (⟨"java/lang/Throwable", "fillInStackTrace", "(I)Ljava/lang/Throwable;"⟩, 6) := ⟨⟨by decide +kernel, by decide +kernel⟩, List.mem_of_getElem? (i := 248) (by decide +kernel), List.mem_of_getElem? (i := 246) (by decide +kernel), List.mem_of_getElem? (i := 247) (by decide +kernel)⟩
theorem lw_p6 : lw_okq (⟨"ConstraintCompiler", "hasRoomFor", "(IIII)Z"⟩, 10) := ⟨⟨by decide +kernel, by decide +kernel⟩, List.mem_of_getElem? (i := 25) (by decide +kernel), List.mem_of_getElem? (i := 273) (by decide +kernel), List.mem_of_getElem? (i := 274) (by decide +kernel)⟩
theorem lw_p7 : lw_okq (⟨"ConstraintCompiler", "constraintsNeeded", "(IIII)I"⟩, 10) := ⟨⟨by decide +kernel, by decide +kernel⟩, List.mem_of_getElem? (i := 25) (by decide +kernel), List.mem_of_getElem? (i := 277) (by decide +kernel), List.mem_of_getElem? (i := 278) (by decide +kernel)⟩
theorem lw_p8 : lw_okq (⟨"ConstraintCompiler", "sumOf", "(I)LConstraintCompiler$Sum;"⟩, 10) := ⟨⟨by decide +kernel, by decide +kernel⟩, List.mem_of_getElem? (i := 25) (by decide +kernel), List.mem_of_getElem? (i := 281) (by decide +kernel), List.mem_of_getElem? (i := 282) (by decide +kernel)⟩
theorem lw_p9 : lw_okq (⟨"ConstraintCompiler", "difference", "(II)LConstraintCompiler$Sum;"⟩, 10) := ⟨⟨by decide +kernel, by decide +kernel⟩, List.mem_of_getElem? (i := 25) (by decide +kernel), List.mem_of_getElem? (i := 311) (by decide +kernel), List.mem_of_getElem? (i := 312) (by decide +kernel)⟩
theorem lw_p10 : lw_okq (⟨"ConstraintCompiler$Sum", "combinedWith", "(LConstraintCompiler$Sum;II)LConstraintCompiler$Sum;"⟩, 1) := ⟨⟨by decide +kernel, by decide +kernel⟩, List.mem_of_getElem? (i := 33) (by decide +kernel), List.mem_of_getElem? (i := 319) (by decide +kernel), List.mem_of_getElem? (i := 320) (by decide +kernel)⟩
theorem lw_p11 : lw_okq (⟨"ConstraintCompiler", "makeInput", "()LConstraintCompiler$Expression;"⟩, 10) := ⟨⟨by decide +kernel, by decide +kernel⟩, List.mem_of_getElem? (i := 25) (by decide +kernel), List.mem_of_getElem? (i := 344) (by decide +kernel), List.mem_of_getElem? (i := 345) (by decide +kernel)⟩
theorem lw_p12 : lw_okq (⟨"ConstraintCompiler", "addVariable", "(ILConstraintCompiler$Sum;LConstraintCompiler$Sum;)I"⟩, 10) := ⟨⟨by decide +kernel, by decide +kernel⟩, List.mem_of_getElem? (i := 25) (by decide +kernel), List.mem_of_getElem? (i := 348) (by decide +kernel), List.mem_of_getElem? (i := 349) (by decide +kernel)⟩
theorem lw_p13 : lw_okq (⟨"ConstraintCompiler", "makeSum", "(IIII)LConstraintCompiler$Sum;"⟩, 10) := ⟨⟨by decide +kernel, by decide +kernel⟩, List.mem_of_getElem? (i := 25) (by decide +kernel), List.mem_of_getElem? (i := 366) (by decide +kernel), List.mem_of_getElem? (i := 367) (by decide +kernel)⟩
theorem lw_p14 : lw_okq (⟨"ConstraintCompiler", "makeProduct", "(LConstraintCompiler$Sum;LConstraintCompiler$Sum;)LConstraintCompiler$Sum;"⟩, 10) := ⟨⟨by decide +kernel, by decide +kernel⟩, List.mem_of_getElem? (i := 25) (by decide +kernel), List.mem_of_getElem? (i := 374) (by decide +kernel), List.mem_of_getElem? (i := 375) (by decide +kernel)⟩
theorem lw_p15 : lw_okq (⟨"ConstraintCompiler", "makeConstrainedProduct", "(LConstraintCompiler$Sum;LConstraintCompiler$Sum;)LConstraintCompiler$Sum;"⟩, 10) := ⟨⟨by decide +kernel, by decide +kernel⟩, List.mem_of_getElem? (i := 25) (by decide +kernel), List.mem_of_getElem? (i := 382) (by decide +kernel), List.mem_of_getElem? (i := 383) (by decide +kernel)⟩
def lw_privs_1 : List (MethodName × Nat) := [(⟨"java/util/ArrayList", "add", "(Ljava/lang/Object;[Ljava/lang/Object;I)V"⟩, 3), (⟨"java/util/ArrayList", "grow", "()[Ljava/lang/Object;"⟩, 3), (⟨"java/util/ArrayList", "grow", "(I)[Ljava/lang/Object;"⟩, 3), (⟨"ConstraintCompiler", "isWellFormed", "(IIII)Z"⟩, 10), (⟨"ConstraintCompiler", "isMade", "(I)Z"⟩, 10), (⟨"java/lang/Throwable", "fillInStackTrace", "(I)Ljava/lang/Throwable;"⟩, 6), (⟨"ConstraintCompiler", "hasRoomFor", "(IIII)Z"⟩, 10), (⟨"ConstraintCompiler", "constraintsNeeded", "(IIII)I"⟩, 10), (⟨"ConstraintCompiler", "sumOf", "(I)LConstraintCompiler$Sum;"⟩, 10), (⟨"ConstraintCompiler", "difference", "(II)LConstraintCompiler$Sum;"⟩, 10), (⟨"ConstraintCompiler$Sum", "combinedWith", "(LConstraintCompiler$Sum;II)LConstraintCompiler$Sum;"⟩, 1), (⟨"ConstraintCompiler", "makeInput", "()LConstraintCompiler$Expression;"⟩, 10), (⟨"ConstraintCompiler", "addVariable", "(ILConstraintCompiler$Sum;LConstraintCompiler$Sum;)I"⟩, 10), (⟨"ConstraintCompiler", "makeSum", "(IIII)LConstraintCompiler$Sum;"⟩, 10), (⟨"ConstraintCompiler", "makeProduct", "(LConstraintCompiler$Sum;LConstraintCompiler$Sum;)LConstraintCompiler$Sum;"⟩, 10), (⟨"ConstraintCompiler", "makeConstrainedProduct", "(LConstraintCompiler$Sum;LConstraintCompiler$Sum;)LConstraintCompiler$Sum;"⟩, 10)]
theorem lw_r1 : ∀ q ∈ lw_privs_1, lw_okq q := List.forall_mem_cons.mpr ⟨lw_p0, List.forall_mem_cons.mpr ⟨lw_p1, List.forall_mem_cons.mpr ⟨lw_p2, List.forall_mem_cons.mpr ⟨lw_p3, List.forall_mem_cons.mpr ⟨lw_p4, List.forall_mem_cons.mpr ⟨lw_p5, List.forall_mem_cons.mpr ⟨lw_p6, List.forall_mem_cons.mpr ⟨lw_p7, List.forall_mem_cons.mpr ⟨lw_p8, List.forall_mem_cons.mpr ⟨lw_p9, List.forall_mem_cons.mpr ⟨lw_p10, List.forall_mem_cons.mpr ⟨lw_p11, List.forall_mem_cons.mpr ⟨lw_p12, List.forall_mem_cons.mpr ⟨lw_p13, List.forall_mem_cons.mpr ⟨lw_p14, List.forall_mem_cons.mpr ⟨lw_p15, fun _ h => absurd h List.not_mem_nil⟩⟩⟩⟩⟩⟩⟩⟩⟩⟩⟩⟩⟩⟩⟩⟩
theorem lw_p16 : lw_okq (⟨"ConstraintCompiler", "addConstraint", "(LConstraintCompiler$Sum;LConstraintCompiler$Sum;LConstraintCompiler$Sum;)V"⟩, 10) := ⟨⟨by decide +kernel, by decide +kernel⟩, List.mem_of_getElem? (i := 25) (by decide +kernel), List.mem_of_getElem? (i := 386) (by decide +kernel), List.mem_of_getElem? (i := 387) (by decide +kernel)⟩
theorem lw_p17 : lw_okq (⟨"ConstraintCompiler", "makeShare", "(LConstraintCompiler$Sum;LConstraintCompiler$Sum;)LConstraintCompiler$Sum;"⟩, 10) := ⟨⟨by decide +kernel, by decide +kernel⟩, List.mem_of_getElem? (i := 25) (by decide +kernel), List.mem_of_getElem? (i := 406) (by decide +kernel), List.mem_of_getElem? (i := 407) (by decide +kernel)⟩
theorem lw_p18 : lw_okq (⟨"ConstraintCompiler", "makeSame", "(LConstraintCompiler$Sum;)LConstraintCompiler$Sum;"⟩, 10) := ⟨⟨by decide +kernel, by decide +kernel⟩, List.mem_of_getElem? (i := 25) (by decide +kernel), List.mem_of_getElem? (i := 410) (by decide +kernel), List.mem_of_getElem? (i := 411) (by decide +kernel)⟩
theorem lw_p19 : lw_okq (⟨"ConstraintCompiler", "makePower", "(LConstraintCompiler$Sum;I)LConstraintCompiler$Sum;"⟩, 10) := ⟨⟨by decide +kernel, by decide +kernel⟩, List.mem_of_getElem? (i := 25) (by decide +kernel), List.mem_of_getElem? (i := 414) (by decide +kernel), List.mem_of_getElem? (i := 415) (by decide +kernel)⟩
theorem lw_p20 : lw_okq (⟨"ConstraintCompiler", "fillDraft", "()Z"⟩, 10) := ⟨⟨by decide +kernel, by decide +kernel⟩, List.mem_of_getElem? (i := 25) (by decide +kernel), List.mem_of_getElem? (i := 477) (by decide +kernel), List.mem_of_getElem? (i := 478) (by decide +kernel)⟩
theorem lw_p21 : lw_okq (⟨"ConstraintCompiler", "howManyBroken", "()I"⟩, 10) := ⟨⟨by decide +kernel, by decide +kernel⟩, List.mem_of_getElem? (i := 25) (by decide +kernel), List.mem_of_getElem? (i := 508) (by decide +kernel), List.mem_of_getElem? (i := 509) (by decide +kernel)⟩
theorem lw_p22 : lw_okq (⟨"ConstraintCompiler", "hasWitness", "()Z"⟩, 10) := ⟨⟨by decide +kernel, by decide +kernel⟩, List.mem_of_getElem? (i := 25) (by decide +kernel), List.mem_of_getElem? (i := 525) (by decide +kernel), List.mem_of_getElem? (i := 526) (by decide +kernel)⟩
theorem lw_p23 : lw_okq (⟨"ConstraintCompilerModel", "fits", "(IIII)Z"⟩, 19) := ⟨⟨by decide +kernel, by decide +kernel⟩, List.mem_of_getElem? (i := 595) (by decide +kernel), List.mem_of_getElem? (i := 667) (by decide +kernel), List.mem_of_getElem? (i := 668) (by decide +kernel)⟩
theorem lw_p24 : lw_okq (⟨"ConstraintCompilerModel", "made", "(I)Z"⟩, 19) := ⟨⟨by decide +kernel, by decide +kernel⟩, List.mem_of_getElem? (i := 595) (by decide +kernel), List.mem_of_getElem? (i := 674) (by decide +kernel), List.mem_of_getElem? (i := 675) (by decide +kernel)⟩
theorem lw_p25 : lw_okq (⟨"ConstraintCompilerModel", "raise", "(I)I"⟩, 19) := ⟨⟨by decide +kernel, by decide +kernel⟩, List.mem_of_getElem? (i := 595) (by decide +kernel), List.mem_of_getElem? (i := 678) (by decide +kernel), List.mem_of_getElem? (i := 679) (by decide +kernel)⟩
theorem lw_p26 : lw_okq (⟨"ConstraintCompilerModel", "needs", "(IIII)I"⟩, 19) := ⟨⟨by decide +kernel, by decide +kernel⟩, List.mem_of_getElem? (i := 595) (by decide +kernel), List.mem_of_getElem? (i := 682) (by decide +kernel), List.mem_of_getElem? (i := 683) (by decide +kernel)⟩
theorem lw_p27 : lw_okq (⟨"ConstraintCompilerModel", "isConstant", "(I)Z"⟩, 19) := ⟨⟨by decide +kernel, by decide +kernel⟩, List.mem_of_getElem? (i := 595) (by decide +kernel), List.mem_of_getElem? (i := 686) (by decide +kernel), List.mem_of_getElem? (i := 687) (by decide +kernel)⟩
theorem lw_p28 : lw_okq (⟨"ConstraintCompilerModel", "plainEither", "(III)Z"⟩, 19) := ⟨⟨by decide +kernel, by decide +kernel⟩, List.mem_of_getElem? (i := 595) (by decide +kernel), List.mem_of_getElem? (i := 690) (by decide +kernel), List.mem_of_getElem? (i := 691) (by decide +kernel)⟩
theorem lw_p29 : lw_okq (⟨"ConstraintCompilerModel", "add", "([III)V"⟩, 19) := ⟨⟨by decide +kernel, by decide +kernel⟩, List.mem_of_getElem? (i := 595) (by decide +kernel), List.mem_of_getElem? (i := 700) (by decide +kernel), List.mem_of_getElem? (i := 701) (by decide +kernel)⟩
theorem lw_p30 : lw_okq (⟨"ConstraintCompilerModel", "work", "(IIII)V"⟩, 19) := ⟨⟨by decide +kernel, by decide +kernel⟩, List.mem_of_getElem? (i := 595) (by decide +kernel), List.mem_of_getElem? (i := 707) (by decide +kernel), List.mem_of_getElem? (i := 708) (by decide +kernel)⟩
theorem lw_p31 : lw_okq (⟨"ConstraintCompilerModel", "variable", "(II)I"⟩, 19) := ⟨⟨by decide +kernel, by decide +kernel⟩, List.mem_of_getElem? (i := 595) (by decide +kernel), List.mem_of_getElem? (i := 711) (by decide +kernel), List.mem_of_getElem? (i := 712) (by decide +kernel)⟩
def lw_privs_2 : List (MethodName × Nat) := [(⟨"ConstraintCompiler", "addConstraint", "(LConstraintCompiler$Sum;LConstraintCompiler$Sum;LConstraintCompiler$Sum;)V"⟩, 10), (⟨"ConstraintCompiler", "makeShare", "(LConstraintCompiler$Sum;LConstraintCompiler$Sum;)LConstraintCompiler$Sum;"⟩, 10), (⟨"ConstraintCompiler", "makeSame", "(LConstraintCompiler$Sum;)LConstraintCompiler$Sum;"⟩, 10), (⟨"ConstraintCompiler", "makePower", "(LConstraintCompiler$Sum;I)LConstraintCompiler$Sum;"⟩, 10), (⟨"ConstraintCompiler", "fillDraft", "()Z"⟩, 10), (⟨"ConstraintCompiler", "howManyBroken", "()I"⟩, 10), (⟨"ConstraintCompiler", "hasWitness", "()Z"⟩, 10), (⟨"ConstraintCompilerModel", "fits", "(IIII)Z"⟩, 19), (⟨"ConstraintCompilerModel", "made", "(I)Z"⟩, 19), (⟨"ConstraintCompilerModel", "raise", "(I)I"⟩, 19), (⟨"ConstraintCompilerModel", "needs", "(IIII)I"⟩, 19), (⟨"ConstraintCompilerModel", "isConstant", "(I)Z"⟩, 19), (⟨"ConstraintCompilerModel", "plainEither", "(III)Z"⟩, 19), (⟨"ConstraintCompilerModel", "add", "([III)V"⟩, 19), (⟨"ConstraintCompilerModel", "work", "(IIII)V"⟩, 19), (⟨"ConstraintCompilerModel", "variable", "(II)I"⟩, 19)]
theorem lw_r2 : ∀ q ∈ lw_privs_2, lw_okq q := List.forall_mem_cons.mpr ⟨lw_p16, List.forall_mem_cons.mpr ⟨lw_p17, List.forall_mem_cons.mpr ⟨lw_p18, List.forall_mem_cons.mpr ⟨lw_p19, List.forall_mem_cons.mpr ⟨lw_p20, List.forall_mem_cons.mpr ⟨lw_p21, List.forall_mem_cons.mpr ⟨lw_p22, List.forall_mem_cons.mpr ⟨lw_p23, List.forall_mem_cons.mpr ⟨lw_p24, List.forall_mem_cons.mpr ⟨lw_p25, List.forall_mem_cons.mpr ⟨lw_p26, List.forall_mem_cons.mpr ⟨lw_p27, List.forall_mem_cons.mpr ⟨lw_p28, List.forall_mem_cons.mpr ⟨lw_p29, List.forall_mem_cons.mpr ⟨lw_p30, List.forall_mem_cons.mpr ⟨lw_p31, fun _ h => absurd h List.not_mem_nil⟩⟩⟩⟩⟩⟩⟩⟩⟩⟩⟩⟩⟩⟩⟩⟩
theorem lw_p32 : lw_okq (⟨"ConstraintCompilerModel", "fetch", "([II)V"⟩, 19) := ⟨⟨by decide +kernel, by decide +kernel⟩, List.mem_of_getElem? (i := 595) (by decide +kernel), List.mem_of_getElem? (i := 718) (by decide +kernel), List.mem_of_getElem? (i := 719) (by decide +kernel)⟩
theorem lw_p33 : lw_okq (⟨"ConstraintCompilerModel", "multiply", "()V"⟩, 19) := ⟨⟨by decide +kernel, by decide +kernel⟩, List.mem_of_getElem? (i := 595) (by decide +kernel), List.mem_of_getElem? (i := 722) (by decide +kernel), List.mem_of_getElem? (i := 723) (by decide +kernel)⟩
theorem lw_p34 : lw_okq (⟨"ConstraintCompilerModel", "keep", "(II[I)V"⟩, 19) := ⟨⟨by decide +kernel, by decide +kernel⟩, List.mem_of_getElem? (i := 595) (by decide +kernel), List.mem_of_getElem? (i := 726) (by decide +kernel), List.mem_of_getElem? (i := 727) (by decide +kernel)⟩
theorem lw_p35 : lw_okq (⟨"ConstraintCompilerModel", "share", "(II)V"⟩, 19) := ⟨⟨by decide +kernel, by decide +kernel⟩, List.mem_of_getElem? (i := 595) (by decide +kernel), List.mem_of_getElem? (i := 730) (by decide +kernel), List.mem_of_getElem? (i := 731) (by decide +kernel)⟩
theorem lw_p36 : lw_okq (⟨"ConstraintCompilerModel", "same", "(II)V"⟩, 19) := ⟨⟨by decide +kernel, by decide +kernel⟩, List.mem_of_getElem? (i := 595) (by decide +kernel), List.mem_of_getElem? (i := 734) (by decide +kernel), List.mem_of_getElem? (i := 735) (by decide +kernel)⟩
theorem lw_p37 : lw_okq (⟨"ConstraintCompilerModel", "valueOf", "(II[I)I"⟩, 19) := ⟨⟨by decide +kernel, by decide +kernel⟩, List.mem_of_getElem? (i := 595) (by decide +kernel), List.mem_of_getElem? (i := 750) (by decide +kernel), List.mem_of_getElem? (i := 751) (by decide +kernel)⟩
theorem lw_p38 : lw_okq (⟨"ConstraintCompilerModel", "bad", "()I"⟩, 19) := ⟨⟨by decide +kernel, by decide +kernel⟩, List.mem_of_getElem? (i := 595) (by decide +kernel), List.mem_of_getElem? (i := 757) (by decide +kernel), List.mem_of_getElem? (i := 758) (by decide +kernel)⟩
theorem lw_p39 : lw_okq (⟨"ConstraintCompilerModel", "holds", "(I[I)Z"⟩, 19) := ⟨⟨by decide +kernel, by decide +kernel⟩, List.mem_of_getElem? (i := 595) (by decide +kernel), List.mem_of_getElem? (i := 761) (by decide +kernel), List.mem_of_getElem? (i := 762) (by decide +kernel)⟩
def lw_privs_3 : List (MethodName × Nat) := [(⟨"ConstraintCompilerModel", "fetch", "([II)V"⟩, 19), (⟨"ConstraintCompilerModel", "multiply", "()V"⟩, 19), (⟨"ConstraintCompilerModel", "keep", "(II[I)V"⟩, 19), (⟨"ConstraintCompilerModel", "share", "(II)V"⟩, 19), (⟨"ConstraintCompilerModel", "same", "(II)V"⟩, 19), (⟨"ConstraintCompilerModel", "valueOf", "(II[I)I"⟩, 19), (⟨"ConstraintCompilerModel", "bad", "()I"⟩, 19), (⟨"ConstraintCompilerModel", "holds", "(I[I)Z"⟩, 19)]
theorem lw_r3 : ∀ q ∈ lw_privs_3, lw_okq q := List.forall_mem_cons.mpr ⟨lw_p32, List.forall_mem_cons.mpr ⟨lw_p33, List.forall_mem_cons.mpr ⟨lw_p34, List.forall_mem_cons.mpr ⟨lw_p35, List.forall_mem_cons.mpr ⟨lw_p36, List.forall_mem_cons.mpr ⟨lw_p37, List.forall_mem_cons.mpr ⟨lw_p38, List.forall_mem_cons.mpr ⟨lw_p39, fun _ h => absurd h List.not_mem_nil⟩⟩⟩⟩⟩⟩⟩⟩
def lw_privs : List (MethodName × Nat) := lw_privs_1 ++ (lw_privs_2 ++ (lw_privs_3))
def lw_tbl : List Cond := k2_sels lw_privs ++ tables_1
theorem lw_privs_ok : ∀ q ∈ lw_privs, lw_okq q := by
  show ∀ q ∈ lw_privs_1 ++ (lw_privs_2 ++ (lw_privs_3)), lw_okq q
  exact List.forall_mem_append.mpr ⟨lw_r1, List.forall_mem_append.mpr ⟨lw_r2, lw_r3⟩⟩
end
section
/-! ===== BEGIN words of one list among another's, by their places ===== -/
theorem goodIn_r {big : List Cond} (ws : List Cond) (ps : List Nat) (hp : ws = ps.filterMap (fun i => big[i]?)) (h : ws.all goodWord = true) : GoodIn big ws := by
  intro w hw
  have h1 := List.all_eq_true.mp h w hw
  rw [hp] at hw
  obtain ⟨i, -, hi⟩ := List.mem_filterMap.mp hw
  have hm : w ∈ big := by first | exact List.mem_of_getElem? hi | exact List.getElem?_mem hi
  exact ⟨hm, good_of_word h1⟩
theorem goodIn_app {big a b : List Cond} (ha : GoodIn big a) (hb : GoodIn big b) : GoodIn big (a ++ b) := fun w h => (List.mem_append.mp h).elim (ha w) (hb w)
theorem goodIn_ca {big a b : List Cond} {c : Cond} (ha : GoodIn big (c :: a)) (hb : GoodIn big b) : GoodIn big (c :: (a ++ b)) := fun w h => (List.mem_cons.mp h).elim (fun e => ha w (List.mem_cons.mpr (Or.inl e))) (fun h => (List.mem_append.mp h).elim (fun h => ha w (List.mem_cons.mpr (Or.inr h))) (hb w))
theorem goodIn_sub {big ws : List Cond} (hm : ∀ w ∈ ws, w ∈ big) (h : ws.all goodWord = true) : GoodIn big ws := fun w hw => ⟨hm w hw, good_of_word (List.all_eq_true.mp h w hw)⟩
/-! ===== END ===== -/

/-! ===== BEGIN exceptions that leave a method, and their catching by the caller (launches without stack traces) ===== -/
section VXA
/-! The laws vx_back, vx_callV, vx_callS, vx_callSW, vx_throw0, vx_throwS follow proofs of the library, with one case more: JvmDerived/Free/Laws.lean (Back.of_free), Shelf42/LK1.lean (callV, callS), Shelf/KitTraced.lean (throwNew0V, throwNewS). -/
/-- where a method has thrown q: the class by its name, the cell, what was written, the world -/
def vx_T (XC : String → State → State → Prop) (st : State) (q : Addr) (t : State) (mc ms : Nat) (free : Addr → Prop) : Prop :=
  ∃ (E : String) (ce : Cell) (L : List Loc), XC E st t ∧ t.heap[q]? = some ce ∧ ce.vm = .none ∧ st.vm.findClass E = some ce.cls ∧ st.WarmedH t.vm ∧ st.sameButNew ({ t with vm := st.vm } : State) L mc ms ∧ ∀ z ∈ L, free z.base
def vx_Q (Qc : Array Value → State → Outcome → State → Prop) (XC : String → State → State → Prop) (mc ms : Nat) (free : Addr → Prop) : Array Value → State → Outcome → State → Prop := fun a st o t =>
  (Qc a st o t ∧ ∃ L, FrameEnd st o t L mc ms ∧ ∀ q ∈ L, free q.base) ∨ ∃ q, o = .threw q ∧ vx_T XC st q t mc ms free
/-- a callee that returns or throws -/
def vx_Met (l : Launch) (y : MethodName) (ws : List Cond) (rm : Room) (Pc : Array Value → State → Prop) (Qc : Array Value → State → Outcome → State → Prop) (XC : String → State → State → Prop) (mc ms : Nat) (free : Addr → Prop) : Prop :=
  MetFree l y (headSpec ws rm) Pc (fun _ _ _ _ _ => True) (vx_Q Qc XC mc ms free)
def vx_Post (XC : String → State → State → Prop) (mc ms : Nat) (free : Addr → Prop) : Pt → Array Value → Addr → Pt → Prop := fun A a q B =>
  ∃ (g : JFrame) (mk : MethodId) (t : State) (L : List Loc) (E : String) (ce : Cell), B.U.heap = t.heap ∧ B.U.vm = t.vm ∧ XC E (A.U.calling g mk a) t ∧ t.heap[q]? = some ce ∧ ce.vm = .none ∧ A.U.vm.findClass E = some ce.cls ∧ B.locs = A.locs ++ L ∧ (∀ z ∈ L, free z.base) ∧ B.cells = A.cells + mc ∧ B.slots = A.slots + ms
def vx_Back (l : Launch) (R : Room) (p : Program) (e : Env) (below : List Frame) (s : State) (sargs : Array Value) (y : MethodName) (len W9 : Nat)
    (Pre : Pt → Array Value → Prop) (Post : Pt → Array Value → Option Value → Pt → Prop) (PostX : Pt → Array Value → Addr → Pt → Prop) : Prop :=
  ∀ (m : MethodId) (meth : Method) (c : Code) (A : Pt) (g : JFrame) (ig : Instr) (mk : MethodId) (a : Array Value),
    Stand p l e R s m sargs below meth c A.U A.locs A.cells A.slots → g.method = m → g.locals.size = c.maxLocals → decode c.code g.pc = .ok (ig, len) →
    2 * g.monitorRoom + (g.stack.map fun v => v.category).sum ≤ W9 → A.U.methodNamed? y = some mk → Pre A a →
    (∃ (v : Option Value) (B : Pt), Stand p l e R s m sargs below meth c B.U B.locs B.cells B.slots ∧ Post A a v B ∧
      Steps p.tables e below (doInvoke e (A.U.setTop g) [] mk a).1 (B.U.setTop { g with pc := g.pc + len, stack := v.toList ++ g.stack })) ∨
    (∃ (q : Addr) (B : Pt), Stand p l e R s m sargs below meth c B.U B.locs B.cells B.slots ∧ PostX A a q B ∧
      Steps p.tables e below (doInvoke e (A.U.setTop g) [] mk a).1 ((B.U.setTop g).pushFrame (.throwing q)))
section Payer
variable {l : Launch} {R : Room} {p : Program} {e : Env} {below : List Frame} {s : State} {sargs : Array Value} {y : MethodName} {len W9 : Nat}
theorem vx_back {ws : List Cond} {rm : Room} {Pc : Array Value → State → Prop} {Qc : Array Value → State → Outcome → State → Prop} {XC : String → State → State → Prop} {mc ms : Nat} {free : Addr → Prop} {bytes : ByteArray} {maxL : Nat} {ret : Option FieldType}
    (hM : vx_Met l y ws rm Pc Qc XC mc ms free) (hblind : FrameBlind Pc) (hrc : rm.cells = mc) (hrs : rm.slots = ms)
    (hframes : rm.frames + 1 ≤ R.frames) (hlocals : W9 + (maxL + 11) + rm.locals ≤ R.locals)
    (hws : ∀ w ∈ ws, ∀ a' U, s.WarmedH U.vm → w.before a' U = true) (hcode : Cond.code y bytes maxL ret ∈ ws) (hinit : ∀ a' U, s.WarmedH U.vm → (Cond.initialized y.cls).before a' U = true) :
    vx_Back l R p e below s sargs y len W9 (PreOf R mc ms Pc) (PostOf Qc mc ms free) (vx_Post XC mc ms free) := by
  intro m meth c A g ig mk a X hg hsize hdg hW hn hp
  have h1 : (headSpec ws rm).pre.before a A.U = true := atoms_intro fun w hw => hws w hw _ _ X.warmed
  have h2 : (Cond.code y bytes maxL ret).before a A.U = true := hws _ hcode _ _ X.warmed
  have h3 : (Cond.initialized y.cls).before a A.U = true := hinit _ _ X.warmed
  have h4 : A.cells + (headSpec ws rm).room.cells ≤ R.cells := by rw [show (headSpec ws rm).room.cells = mc from hrc]; exact hp.1
  have h5 : A.slots + (headSpec ws rm).room.slots ≤ R.slots := by rw [show (headSpec ws rm).room.slots = ms from hrs]; exact hp.2.1
  have hPc : Pc a (A.U.calling g mk a) := hblind _ _ _ _ hp.2.2
  obtain ⟨U, Ls, c0, s0⟩ := A
  dsimp only [Pt.U, Pt.locs, Pt.cells, Pt.slots] at h1 h2 h3 h4 h5 X hn hPc ⊢
  obtain ⟨methY, cY, hmY, hcY, -, hlY, -, -, -, -⟩ := Cond.code_spec hn h2
  obtain ⟨kY, hkY, -⟩ := className_of_methodNamed hn
  have hinitY : kY.init = .initialized := Cond.initialized_spec (findClass_of_methodNamed hn) hkY h3
  have h : At U g.method c below := by rw [hg]; exact X.here
  have hlocals9 : W9 + (maxL + 11) + (headSpec ws rm).room.locals ≤ R.locals := hlocals
  have happ : (headSpec ws rm).appliesLoose y e.platform (U.calling g mk a) = true :=
    Spec.appliesLoose_calling (g := g) h hdg hn hkY hinitY
      (X.room_calling (g := g) (R' := (headSpec ws rm).room) hsize hmY hcY hframes (by rw [hlY]; omega) h4 h5) h1
  obtain ⟨mid, hmid⟩ := h.above
  have hfr : (U.setTop g).frames = (.java g :: mid) ++ below := by rw [State.frames_setTop' g h.top, hmid]; rfl
  obtain ⟨o, s₂, hsteps, -, hend, hq⟩ := Steps.callFree hM p X.admits X.cas X.clock (acts := []) hfr happ hPc trivial
  have hq' : vx_Q Qc XC mc ms free a (U.calling g mk a) o s₂ := hq
  rw [State.frames_setTop' g h.top] at hend
  obtain ⟨g₀, hg0⟩ := Option.isSome_iff_exists.mp h.top
  obtain ⟨r, hr⟩ := State.topJava?_eq_some.mp hg0
  have hr' : (({ U with heap := s₂.heap, slotsUsed := s₂.slotsUsed } : State).setVm s₂.vm).frames = .java g₀ :: r := hr
  rcases hq' with ⟨hqc, L, hfe, hL⟩ | ⟨q, rfl, E, ce, L, hx, hce, hcv, hcl, hW₂, hsm, hL⟩
  · obtain ⟨⟨v, rfl⟩, hW₂, e2, q2, q3, q4, q5, q6⟩ := id hfe
    have e3 : s₂ = ({ (U.calling g mk a).setFrames s₂.frames with heap := s₂.heap, slotsUsed := s₂.slotsUsed } : State).setVm s₂.vm := by
      have : s₂ = ({ s₂ with vm := (U.calling g mk a).vm } : State).setVm s₂.vm := rfl
      rw [e2] at this
      exact this
    obtain ⟨c₂, i₂, len₂, hc₂, hd₂, hf₂⟩ := hend
    have hW' : U.WarmedH s₂.vm := hW₂
    have hcc : c₂ = c := by
      have h1 : s₂.code? g.method = U.code? g.method := by
        rw [State.code?_eq, State.code?_eq, hW'.alike.method?]
      exact Option.some.inj (hc₂.symm.trans (h1.trans h.code))
    subst hcc
    have hlen : len₂ = len := by rw [hdg] at hd₂; cases hd₂; rfl
    subst hlen
    have hs₂ : s₂ = (({ U with heap := s₂.heap, slotsUsed := s₂.slotsUsed } : State).setVm s₂.vm).setTop { g with pc := g.pc + len₂, stack := v.toList ++ g.stack } := by
      refine e3.trans ?_
      rw [hf₂, State.calling_eq h.top, State.setFrames_setFrames, State.setTop_of_frames _ hr', hr]
      rfl
    have hsame : U.sameButNew ({ U with heap := s₂.heap, slotsUsed := s₂.slotsUsed } : State) L mc ms := by
      refine ⟨?_, q2, q3, q4, q5, q6⟩
      obtain ⟨t, ht, -⟩ := State.frames_cons hr
      show ({ U with heap := s₂.heap, slotsUsed := s₂.slotsUsed } : State) = { U.setFrames U.frames with heap := s₂.heap, slotsUsed := s₂.slotsUsed }
      rw [State.setFrames_self ht]
    subst hg
    refine Or.inl ⟨v, ⟨(({ U with heap := s₂.heap, slotsUsed := s₂.slotsUsed } : State).setVm s₂.vm), Ls ++ L, c0 + mc, s0 + ms⟩,
      ⟨X.admits, X.cas, X.clock, X.frames, X.room, X.hears, X.method, X.code, (X.here.setHeapUsed s₂.heap s₂.slotsUsed).setVm hW'.alike, X.tail, State.WarmedH.trans X.warmed hW', X.limits, X.bytes, X.same.trans (hsame.setVm s.vm)⟩,
      ⟨g, mk, s₂, L, rfl, rfl, hqc, rfl, hL, rfl, rfl⟩, ?_⟩
    show Steps p.tables e below _ ((({ U with heap := s₂.heap, slotsUsed := s₂.slotsUsed } : State).setVm s₂.vm).setTop { g with pc := g.pc + len₂, stack := v.toList ++ g.stack })
    rw [← hs₂]
    exact hsteps
  · obtain ⟨e2, q2, q3, q4, q5, q6⟩ := id hsm
    have e3 : s₂ = ({ (U.calling g mk a).setFrames s₂.frames with heap := s₂.heap, slotsUsed := s₂.slotsUsed } : State).setVm s₂.vm := by
      have : s₂ = ({ s₂ with vm := (U.calling g mk a).vm } : State).setVm s₂.vm := rfl
      rw [e2] at this
      exact this
    have hf₂ : s₂.frames = .throwing q :: .java g :: U.frames.tail := hend
    have hW' : U.WarmedH s₂.vm := hW₂
    have hs₂ : s₂ = ((({ U with heap := s₂.heap, slotsUsed := s₂.slotsUsed } : State).setVm s₂.vm).setTop g).pushFrame (.throwing q) := by
      refine e3.trans ?_
      rw [hf₂, State.calling_eq h.top, State.setFrames_setFrames, State.pushFrame, State.frames_setTop _ hr', State.setTop_of_frames _ hr', State.setFrames_setFrames, hr]
      rfl
    have hsame : U.sameButNew ({ U with heap := s₂.heap, slotsUsed := s₂.slotsUsed } : State) L mc ms := by
      refine ⟨?_, q2, q3, q4, q5, q6⟩
      obtain ⟨t, ht, -⟩ := State.frames_cons hr
      show ({ U with heap := s₂.heap, slotsUsed := s₂.slotsUsed } : State) = { U.setFrames U.frames with heap := s₂.heap, slotsUsed := s₂.slotsUsed }
      rw [State.setFrames_self ht]
    subst hg
    refine Or.inr ⟨q, ⟨(({ U with heap := s₂.heap, slotsUsed := s₂.slotsUsed } : State).setVm s₂.vm), Ls ++ L, c0 + mc, s0 + ms⟩,
      ⟨X.admits, X.cas, X.clock, X.frames, X.room, X.hears, X.method, X.code, (X.here.setHeapUsed s₂.heap s₂.slotsUsed).setVm hW'.alike, X.tail, State.WarmedH.trans X.warmed hW', X.limits, X.bytes, X.same.trans (hsame.setVm s.vm)⟩,
      ⟨g, mk, s₂, L, E, ce, rfl, rfl, hx, hce, hcv, hcl, rfl, hL, rfl, rfl⟩, ?_⟩
    show Steps p.tables e below _ (((({ U with heap := s₂.heap, slotsUsed := s₂.slotsUsed } : State).setVm s₂.vm).setTop g).pushFrame (.throwing q))
    rw [← hs₂]
    exact hsteps
end Payer
section Calls
variable {p : Program} {l : Launch} {e : Env} {R : Room} {s : State} {m : MethodId} {args : Array Value} {below : List Frame} {meth : Method} {c : Code} {T : State} {locs : List Loc} {cells slots : Nat}
theorem vx_callV (X : Stand p l e R s m args below meth c T locs cells slots) (hexec : p.tables.exec = Jvm.exec) {own C : String} {index : Nat} {y : MethodName} {bytes : ByteArray} {maxL : Nat} {ret : Option FieldType}
    (hown : s.vm.findClass own = some m.cls) (hlink : (Cond.methodLink own index y).before args s = true) (hinst : (Cond.instanceMethod y).before args s = true) (hsel : (Cond.selects C y y).before args s = true)
    (hcode : (Cond.code y bytes maxL ret).before args s = true) (hy : y.cls ≠ "java/lang/invoke/MethodHandle" ∧ y.cls ≠ "java/lang/invoke/VarHandle")
    {W9 : Nat} {Pre : Pt → Array Value → Prop} {Post : Pt → Array Value → Option Value → Pt → Prop} {PostX : Pt → Array Value → Addr → Pt → Prop} (hK : vx_Back l R p e below s args y 3 W9 Pre Post PostX)
    {b : Addr} {cellB : Cell} (hcell : T.heap[b]? = some cellB) (hobj : cellB.vm.isStatics = false) (hcls : s.vm.findClass C = some cellB.cls)
    {g : JFrame} (hg : g.method = m) (hsize : g.locals.size = c.maxLocals) {argsL rest : List Value} (hlen : ∀ sig, parseMethodDescriptor y.desc = some sig → argsL.length = sig.parameters.length)
    (hstack : g.stack = argsL.reverse ++ .ref b :: rest) (hW : 2 * g.monitorRoom + (rest.map fun v => v.category).sum ≤ W9) (hdg : decode c.code g.pc = .ok (.invokevirtual index, 3))
    (hpre : ∀ vm₁, s.WarmedH vm₁ → Pre ⟨T.setVm vm₁, locs, cells, slots⟩ (Value.ref b :: argsL).toArray) :
    (∃ (v : Option Value) (vm₁ : Vm) (B : Pt), s.WarmedH vm₁ ∧ Stand p l e R s m args below meth c B.U B.locs B.cells B.slots ∧ Post ⟨T.setVm vm₁, locs, cells, slots⟩ (Value.ref b :: argsL).toArray v B ∧
      ∀ target, Steps p.tables e below (B.U.setTop { g with pc := g.pc + 3, stack := v.toList ++ rest }) target → Steps p.tables e below (T.setTop g) target) ∨
    (∃ (q : Addr) (vm₁ : Vm) (B : Pt), s.WarmedH vm₁ ∧ Stand p l e R s m args below meth c B.U B.locs B.cells B.slots ∧ PostX ⟨T.setVm vm₁, locs, cells, slots⟩ (Value.ref b :: argsL).toArray q B ∧
      Steps p.tables e below (T.setTop g) ((B.U.setTop { g with stack := rest }).pushFrame (.throwing q))) := by
  obtain ⟨mk, methM, hnamed, hmethM, hstM, habM⟩ := Cond.instanceMethod_spec hinst
  obtain ⟨methM', cM, hmethM', -, -, -, -, -, -, hsigM⟩ := Cond.code_spec hnamed hcode
  cases hmethM.symm.trans hmethM'
  obtain ⟨c2, r2, m2, q1, q2, q3, q4, kP, hkP, hkPi⟩ := Cond.selects_spec hsel
  cases hcls.symm.trans q1
  cases (State.methodFound?_of_named hnamed hy).symm.trans q2
  cases hnamed.symm.trans q3
  have hselP : selectMethod e.platform s.vm cellB.cls mk = .method mk := by rw [Launch.admits_selectMethod X.admits]; exact q4
  obtain ⟨vm₁, X₁, hstep₁⟩ := X.invokevirtual hexec hown hlink hnamed hmethM hstM hkP hkPi hy (a := b) (cell := cellB) hcell
    (fun z h => by rw [h] at hobj; cases hobj) hselP hmethM habM hkP hkPi (g := g) hg (argsL := argsL) (rest := rest) (hlen _ hsigM) hstack hdg
  rcases hK m meth c ⟨T.setVm vm₁, locs, cells, slots⟩ { g with stack := rest } (.invokevirtual index) mk (Value.ref b :: argsL).toArray X₁ hg hsize hdg hW (X₁.named hnamed) (hpre vm₁ X₁.warmed) with ⟨v, B, X', hpost, hsteps⟩ | ⟨q, B, X', hpost, hsteps⟩
  · exact Or.inl ⟨v, vm₁, B, X₁.warmed, X', hpost, fun target h => hstep₁ _ fun acts => by rw [doInvoke_state]; exact hsteps.trans h⟩
  · exact Or.inr ⟨q, vm₁, B, X₁.warmed, X', hpost, hstep₁ _ fun acts => by rw [doInvoke_state]; exact hsteps⟩
theorem vx_callS (X : Stand p l e R s m args below meth c T locs cells slots) (hexec : p.tables.exec = Jvm.exec) {own : String} {index : Nat} {y : MethodName} {bytes : ByteArray} {maxL : Nat} {ret : Option FieldType}
    (hown : s.vm.findClass own = some m.cls) (hlink : (Cond.methodLink own index y).before args s = true) (hstat : (Cond.static y).before args s = true) (hinit : (Cond.initialized y.cls).before args s = true)
    (hcode : (Cond.code y bytes maxL ret).before args s = true) (hy : y.cls ≠ "java/lang/invoke/MethodHandle" ∧ y.cls ≠ "java/lang/invoke/VarHandle")
    {W9 : Nat} {Pre : Pt → Array Value → Prop} {Post : Pt → Array Value → Option Value → Pt → Prop} {PostX : Pt → Array Value → Addr → Pt → Prop} (hK : vx_Back l R p e below s args y 3 W9 Pre Post PostX)
    {g : JFrame} (hg : g.method = m) (hsize : g.locals.size = c.maxLocals) {argsL rest : List Value} (hlen : ∀ sig, parseMethodDescriptor y.desc = some sig → argsL.length = sig.parameters.length)
    (hstack : g.stack = argsL.reverse ++ rest) (hW : 2 * g.monitorRoom + (rest.map fun v => v.category).sum ≤ W9) (hdg : decode c.code g.pc = .ok (.invokestatic index, 3))
    (hpre : ∀ vm₁, s.WarmedH vm₁ → Pre ⟨T.setVm vm₁, locs, cells, slots⟩ argsL.toArray) :
    (∃ (v : Option Value) (vm₁ : Vm) (B : Pt), s.WarmedH vm₁ ∧ Stand p l e R s m args below meth c B.U B.locs B.cells B.slots ∧ Post ⟨T.setVm vm₁, locs, cells, slots⟩ argsL.toArray v B ∧
      ∀ target, Steps p.tables e below (B.U.setTop { g with pc := g.pc + 3, stack := v.toList ++ rest }) target → Steps p.tables e below (T.setTop g) target) ∨
    (∃ (q : Addr) (vm₁ : Vm) (B : Pt), s.WarmedH vm₁ ∧ Stand p l e R s m args below meth c B.U B.locs B.cells B.slots ∧ PostX ⟨T.setVm vm₁, locs, cells, slots⟩ argsL.toArray q B ∧
      Steps p.tables e below (T.setTop g) ((B.U.setTop { g with stack := rest }).pushFrame (.throwing q))) := by
  obtain ⟨mk, hnamed⟩ := Cond.code_named hcode
  obtain ⟨methM, cM, hmethM, -, -, -, -, -, -, hsigM⟩ := Cond.code_spec hnamed hcode
  have hstatic : methM.isStatic = true := Cond.static_spec hnamed hmethM hstat
  obtain ⟨kP, hkP, -⟩ := className_of_methodNamed hnamed
  have hinitP : kP.init = .initialized := Cond.initialized_spec (findClass_of_methodNamed hnamed) hkP hinit
  obtain ⟨vm₁, X₁, hstep₁⟩ := X.invokestatic hexec hown hlink hnamed hmethM hstatic hkP hinitP hy (g := g) hg (argsL := argsL) (rest := rest) (hlen _ hsigM) hstack hdg
  rcases hK m meth c ⟨T.setVm vm₁, locs, cells, slots⟩ { g with stack := rest } (.invokestatic index) mk argsL.toArray X₁ hg hsize hdg hW (X₁.named hnamed) (hpre vm₁ X₁.warmed) with ⟨v, B, X', hpost, hsteps⟩ | ⟨q, B, X', hpost, hsteps⟩
  · exact Or.inl ⟨v, vm₁, B, X₁.warmed, X', hpost, fun target h => hstep₁ _ fun acts => by rw [doInvoke_state]; exact hsteps.trans h⟩
  · exact Or.inr ⟨q, vm₁, B, X₁.warmed, X', hpost, hstep₁ _ fun acts => by rw [doInvoke_state]; exact hsteps⟩
end Calls
theorem vx_cls {s : State} {T : State} {vm₁ : Vm} {E : String} {k : ClassId} (hW : s.WarmedH vm₁) (h : (T.setVm vm₁).vm.findClass E = some k) : s.vm.findClass E = some k := by
  have h1 : vm₁.findClass E = some k := h
  rw [hW.alike.findClass] at h1
  exact h1
/-- the method's frame g, with q thrown over it -/
def vx_W (p : Program) (l : Launch) (e : Env) (R : Room) (s : State) (m : MethodId) (args : Array Value) (below : List Frame) (meth : Method) (c : Code) (H : Heap) (locs : List Loc) (cells slots : Nat) (Q : State → Prop) (g : JFrame) (q : Addr) : Prop :=
  ∀ T : State, T.heap = H → Stand p l e R s m args below meth c T locs cells slots → ∃ t, Steps p.tables e below ((T.setTop g).pushFrame (.throwing q)) t ∧ Q t
def vx_Run (p : Program) (l : Launch) (e : Env) (R : Room) (s : State) (m : MethodId) (args : Array Value) (below : List Frame) (meth : Method) (c : Code) (H : Heap) (locs : List Loc) (cells slots mc ms : Nat) (g : JFrame) (rest : List Value) (Qa : State → Outcome → State → Prop) (XC : String → State → State → Prop) (free : Addr → Prop) : Prop :=
  ∀ T : State, T.heap = H → Stand p l e R s m args below meth c T locs cells slots →
    (∃ (v : Option Value) (st₀ t T' : State) (L : List Loc), st₀.heap = H ∧ Stand p l e R s m args below meth c T' (locs ++ L) (cells + mc) (slots + ms) ∧ (∀ q ∈ L, free q.base) ∧ T'.heap = t.heap ∧ T'.vm = t.vm ∧ Qa st₀ (.returned v) t ∧
      Goes p e below T g T' { g with pc := g.pc + 3, stack := v.toList ++ rest }) ∨
    (∃ (q : Addr) (st₀ t T' : State) (L : List Loc) (E : String) (ce : Cell), st₀.heap = H ∧ Stand p l e R s m args below meth c T' (locs ++ L) (cells + mc) (slots + ms) ∧ (∀ z ∈ L, free z.base) ∧ T'.heap = t.heap ∧ T'.vm = t.vm ∧ XC E st₀ t ∧ t.heap[q]? = some ce ∧ ce.vm = .none ∧ s.vm.findClass E = some ce.cls ∧
      Steps p.tables e below (T.setTop g) ((T'.setTop { g with stack := rest }).pushFrame (.throwing q)))
def vx_X {S : Type} (px : S → Prop) (B : String → S → State → Prop) (A : Nat → Prop) : String → State → State → Prop := fun E st t => ∃ u : S, px u ∧ B E u t ∧ va_F A st t
section Runs
variable {p : Program} {l : Launch} {e : Env} {R : Room} {s : State} {m : MethodId} {args : Array Value} {below : List Frame} {meth : Method} {c : Code} {H : Heap} {locs : List Loc} {cells slots : Nat}
variable {y : MethodName} {bytes cc : ByteArray} {maxL nL mc ms n index : Nat} {ret : Option FieldType} {ws : List Cond} {rm : Room} {Pc : Array Value → State → Prop} {Qc : Array Value → State → Outcome → State → Prop} {XC : String → State → State → Prop} {free : Addr → Prop} {Ts : List Cond} {own C : String} {b : Addr} {As rest : List Value} {g : JFrame}
theorem vx_callBack (cb : CallB R s args own index y bytes maxL ret ws rm mc ms n) (hM : vx_Met l y ws rm Pc Qc XC mc ms free) (hbl : FrameBlind Pc) : vx_Back l R p e below s args y 3 8 (PreOf R mc ms Pc) (PostOf Qc mc ms free) (vx_Post XC mc ms free) := by
  obtain ⟨hrc, hrs, hfr, hlo, hws, hcw, -, hini, -⟩ := cb
  exact vx_back (bytes := bytes) (maxL := maxL) (ret := ret) hM hbl hrc hrs hfr hlo hws hcw (fun a' U hW => word_at hW (Or.inl (by first | rfl | simp [Cond.onTables, Cond.keeps, Cond.steady])) hini)
theorem vx_runV (S : CallFix p m c cc nL s args Ts own) (hM : vx_Met l y ws rm Pc Qc XC mc ms free) (cw : CallW R s args own C index y bytes maxL ret ws rm mc ms n) (hp : PreV s H C b Pc As)
    (hg : g.method = m) (hn : As.length = n) (hsize : g.locals.size = nL) (hstack : g.stack = As.reverse ++ .ref b :: rest) (hW : 2 * g.monitorRoom + (rest.map fun v => v.category).sum ≤ 8) (hdg : decode cc g.pc = .ok (.invokevirtual index, 3)) (hf : cells + mc ≤ R.cells ∧ slots + ms ≤ R.slots) :
    vx_Run p l e R s m args below meth c H locs cells slots mc ms g rest (Qc (Value.ref b :: As).toArray) XC free := by
  have hK : vx_Back l R p e below s args y 3 8 (PreOf R mc ms Pc) (PostOf Qc mc ms free) (vx_Post XC mc ms free) := vx_callBack cw.1 hM hp.1
  obtain ⟨⟨-, -, -, -, -, -, hcode, -, hy, hlen, hl⟩, hin, hse⟩ := cw
  obtain ⟨hx, hb, hml, ho, -⟩ := S
  obtain ⟨-, ⟨cellB, hcB, hoB, hclB⟩, hPc⟩ := hp
  intro T hT X
  rcases vx_callV X hx (C := C) (bytes := bytes) (maxL := maxL) (ret := ret) ho hl hin hse hcode hy hK (by rw [hT]; exact hcB) hoB hclB hg (hsize.trans hml.symm) (argsL := As) (rest := rest) (fun sig h => hn.trans (hlen sig h)) hstack hW (by rw [hb]; exact hdg)
    (fun vm₁ hW₁ => ⟨hf.1, hf.2, hPc (T.setVm vm₁) hT hW₁⟩) with ⟨v, vm₁, ⟨U', l2, c2, s2⟩, hW₁, X', ⟨g', mk, t, L, e1, e2, hq, h1, hL, h2, h3⟩, st⟩ | ⟨q, vm₁, ⟨U', l2, c2, s2⟩, hW₁, X', ⟨g', mk, t, L, E, ce, e1, e2, hq, hce, hcv, hcl, h1, hL, h2, h3⟩, st⟩
  · dsimp only [Pt.U, Pt.locs, Pt.cells, Pt.slots] at X' e1 e2 h1 h2 h3 st
    subst h1; subst h2; subst h3
    exact Or.inl ⟨v, (T.setVm vm₁).calling g' mk (Value.ref b :: As).toArray, t, U', L, hT, X', hL, e1, e2, hq, st⟩
  · dsimp only [Pt.U, Pt.locs, Pt.cells, Pt.slots] at X' e1 e2 h1 h2 h3 st hcl
    subst h1; subst h2; subst h3
    exact Or.inr ⟨q, (T.setVm vm₁).calling g' mk (Value.ref b :: As).toArray, t, U', L, E, ce, hT, X', hL, e1, e2, hq, hce, hcv, vx_cls hW₁ hcl, st⟩
theorem vx_runS (S : CallFix p m c cc nL s args Ts own) (hM : vx_Met l y ws rm Pc Qc XC mc ms free) (cw : CallB R s args own index y bytes maxL ret ws rm mc ms n ∧ (Cond.static y).before args s = true) (hp : PreS s H Pc As)
    (hg : g.method = m) (hn : As.length = n) (hsize : g.locals.size = nL) (hstack : g.stack = As.reverse ++ rest) (hW : 2 * g.monitorRoom + (rest.map fun v => v.category).sum ≤ 8) (hdg : decode cc g.pc = .ok (.invokestatic index, 3)) (hf : cells + mc ≤ R.cells ∧ slots + ms ≤ R.slots) :
    vx_Run p l e R s m args below meth c H locs cells slots mc ms g rest (Qc As.toArray) XC free := by
  have hK : vx_Back l R p e below s args y 3 8 (PreOf R mc ms Pc) (PostOf Qc mc ms free) (vx_Post XC mc ms free) := vx_callBack cw.1 hM hp.1
  obtain ⟨⟨-, -, -, -, -, -, hcode, hini, hy, hlen, hl⟩, hstt⟩ := cw
  obtain ⟨hx, hb, hml, ho, -⟩ := S
  intro T hT X
  rcases vx_callS X hx (bytes := bytes) (maxL := maxL) (ret := ret) ho hl hstt hini hcode hy hK hg (hsize.trans hml.symm) (argsL := As) (rest := rest) (fun sig h => hn.trans (hlen sig h)) hstack hW (by rw [hb]; exact hdg)
    (fun vm₁ hW₁ => ⟨hf.1, hf.2, hp.2 (T.setVm vm₁) hT hW₁⟩) with ⟨v, vm₁, ⟨U', l2, c2, s2⟩, hW₁, X', ⟨g', mk, t, L, e1, e2, hq, h1, hL, h2, h3⟩, st⟩ | ⟨q, vm₁, ⟨U', l2, c2, s2⟩, hW₁, X', ⟨g', mk, t, L, E, ce, e1, e2, hq, hce, hcv, hcl, h1, hL, h2, h3⟩, st⟩
  · dsimp only [Pt.U, Pt.locs, Pt.cells, Pt.slots] at X' e1 e2 h1 h2 h3 st
    subst h1; subst h2; subst h3
    exact Or.inl ⟨v, (T.setVm vm₁).calling g' mk As.toArray, t, U', L, hT, X', hL, e1, e2, hq, st⟩
  · dsimp only [Pt.U, Pt.locs, Pt.cells, Pt.slots] at X' e1 e2 h1 h2 h3 st hcl
    subst h1; subst h2; subst h3
    exact Or.inr ⟨q, (T.setVm vm₁).calling g' mk As.toArray, t, U', L, E, ce, hT, X', hL, e1, e2, hq, hce, hcv, vx_cls hW₁ hcl, st⟩
end Runs
section Rows
variable {p : Program} {l : Launch} {e : Env} {R : Room} {s : State} {m : MethodId} {args : Array Value} {below : List Frame} {meth : Method} {c : Code} {H : Heap} {locs : List Loc} {cells slots : Nat} {Q : State → Prop}
variable {mc ms : Nat} {free : Addr → Prop} {A0 A1 : Nat → Prop} {H0 : Heap} {a : Array Value} {pc : Nat} {ls : Array Slot} {st0 rest : List Value}
theorem vx_keep {st₀ t T' : State} {L : List Loc} (h0 : st₀.heap = H) (e1 : T'.heap = t.heap) (hS : va_S A0 H0 H locs) (hA : ∀ q, q < H.size → A1 q → A0 q) (hf : ∀ q, free q → A0 q) (hL : ∀ q ∈ L, free q.base) (hF : va_F A1 st₀ t) :
    H.size ≤ T'.heap.size ∧ (∀ q : Nat, q < H.size → ¬ A1 q → T'.heap[q]? = H[q]?) ∧ va_S A0 H0 T'.heap (locs ++ L) := by
  obtain ⟨hz, hk⟩ := hF
  rw [h0] at hz hk
  exact ⟨by rw [e1]; exact hz, fun q h1 h2 => by rw [e1]; exact hk q h1 h2,
    ⟨Nat.le_trans hS.1 (by rw [e1]; exact hz), fun q h1 h2 => by rw [e1, hk q (Nat.lt_of_lt_of_le h1 hS.1) (fun z => h2 (hA q (Nat.lt_of_lt_of_le h1 hS.1) z))]; exact hS.2.1 q h1 h2, fun q hq => by
      rcases List.mem_append.mp hq with h | h
      · exact hS.2.2 q h
      · exact hf _ (hL q h)⟩⟩
theorem vx_calli {S SX : Type} {post : Int32 → S → Prop} {px : SX → Prop} {B : S → State → Prop} {BX : String → SX → State → Prop} {AX : Nat → Prop} (hr : vx_Run p l e R s m args below meth c H locs cells slots mc ms (F0 m pc ls st0) rest (va_Qi post B A1 a) (vx_X px BX AX) free) (hS : va_S A0 H0 H locs) (hA : ∀ q, q < H.size → A1 q → A0 q) (hf : ∀ q, free q → A0 q) (hAX : ∀ q, q < H.size → AX q → A0 q)
    (kx : ∀ (E : String) (ce : Cell) (q9 : Addr) (u : SX) (t : State) (H1 : Heap) (locs1 : List Loc), t.heap = H1 → s.vm.Alike t.vm → px u → BX E u t → H.size ≤ H1.size → (∀ q : Nat, q < H.size → ¬ AX q → H1[q]? = H[q]?) → va_S A0 H0 H1 locs1 → H1[q9]? = some ce → ce.vm = .none → s.vm.findClass E = some ce.cls → vx_W p l e R s m args below meth c H1 locs1 (cells + mc) (slots + ms) Q (F0 m pc ls rest) q9)
    (kk : ∀ (r : Int32) (u : S) (t : State) (H1 : Heap) (locs1 : List Loc), t.heap = H1 → s.vm.Alike t.vm → post r u → B u t → H.size ≤ H1.size → (∀ q : Nat, q < H.size → ¬ A1 q → H1[q]? = H[q]?) → va_S A0 H0 H1 locs1 → W p l e R s m args below meth c H1 locs1 (cells + mc) (slots + ms) Q (F0 m (pc + 3) ls (.int r :: rest))) : W p l e R s m args below meth c H locs cells slots Q (F0 m pc ls st0) := by
  intro T hT X
  rcases hr T hT X with ⟨v, st₀, t, T', L, h0, X', hL, e1, e2, ⟨⟨r, u, hv, hp, hb⟩, hF⟩, st⟩ | ⟨q, st₀, t, T', L, E, ce, h0, X', hL, e1, e2, ⟨u, hp, hb, hF⟩, hce, hcv, hcl, st⟩
  · cases hv
    obtain ⟨k1, k2, k3⟩ := vx_keep h0 e1 hS hA hf hL hF
    obtain ⟨t2, a1, b1⟩ := kk r u t T'.heap (locs ++ L) e1.symm (by rw [← e2]; exact X'.warmed.alike) hp hb k1 k2 k3 T' rfl X'
    exact ⟨t2, st t2 a1, b1⟩
  · obtain ⟨k1, k2, k3⟩ := vx_keep h0 e1 hS hAX hf hL hF
    obtain ⟨t2, a1, b1⟩ := kx E ce q u t T'.heap (locs ++ L) e1.symm (by rw [← e2]; exact X'.warmed.alike) hp hb k1 k2 k3 (by rw [e1]; exact hce) hcv hcl T' rfl X'
    exact ⟨t2, st.trans a1, b1⟩
theorem vx_calll {S SX : Type} {post : Int64 → S → Prop} {px : SX → Prop} {B : S → State → Prop} {BX : String → SX → State → Prop} {AX : Nat → Prop} (hr : vx_Run p l e R s m args below meth c H locs cells slots mc ms (F0 m pc ls st0) rest (va_Ql post B A1 a) (vx_X px BX AX) free) (hS : va_S A0 H0 H locs) (hA : ∀ q, q < H.size → A1 q → A0 q) (hf : ∀ q, free q → A0 q) (hAX : ∀ q, q < H.size → AX q → A0 q)
    (kx : ∀ (E : String) (ce : Cell) (q9 : Addr) (u : SX) (t : State) (H1 : Heap) (locs1 : List Loc), t.heap = H1 → s.vm.Alike t.vm → px u → BX E u t → H.size ≤ H1.size → (∀ q : Nat, q < H.size → ¬ AX q → H1[q]? = H[q]?) → va_S A0 H0 H1 locs1 → H1[q9]? = some ce → ce.vm = .none → s.vm.findClass E = some ce.cls → vx_W p l e R s m args below meth c H1 locs1 (cells + mc) (slots + ms) Q (F0 m pc ls rest) q9)
    (kk : ∀ (r : Int64) (u : S) (t : State) (H1 : Heap) (locs1 : List Loc), t.heap = H1 → s.vm.Alike t.vm → post r u → B u t → H.size ≤ H1.size → (∀ q : Nat, q < H.size → ¬ A1 q → H1[q]? = H[q]?) → va_S A0 H0 H1 locs1 → W p l e R s m args below meth c H1 locs1 (cells + mc) (slots + ms) Q (F0 m (pc + 3) ls (.long r :: rest))) : W p l e R s m args below meth c H locs cells slots Q (F0 m pc ls st0) := by
  intro T hT X
  rcases hr T hT X with ⟨v, st₀, t, T', L, h0, X', hL, e1, e2, ⟨⟨r, u, hv, hp, hb⟩, hF⟩, st⟩ | ⟨q, st₀, t, T', L, E, ce, h0, X', hL, e1, e2, ⟨u, hp, hb, hF⟩, hce, hcv, hcl, st⟩
  · cases hv
    obtain ⟨k1, k2, k3⟩ := vx_keep h0 e1 hS hA hf hL hF
    obtain ⟨t2, a1, b1⟩ := kk r u t T'.heap (locs ++ L) e1.symm (by rw [← e2]; exact X'.warmed.alike) hp hb k1 k2 k3 T' rfl X'
    exact ⟨t2, st t2 a1, b1⟩
  · obtain ⟨k1, k2, k3⟩ := vx_keep h0 e1 hS hAX hf hL hF
    obtain ⟨t2, a1, b1⟩ := kx E ce q u t T'.heap (locs ++ L) e1.symm (by rw [← e2]; exact X'.warmed.alike) hp hb k1 k2 k3 (by rw [e1]; exact hce) hcv hcl T' rfl X'
    exact ⟨t2, st.trans a1, b1⟩
theorem vx_callf {S SX : Type} {post : UInt32 → S → Prop} {px : SX → Prop} {B : S → State → Prop} {BX : String → SX → State → Prop} {AX : Nat → Prop} (hr : vx_Run p l e R s m args below meth c H locs cells slots mc ms (F0 m pc ls st0) rest (va_Qf post B A1 a) (vx_X px BX AX) free) (hS : va_S A0 H0 H locs) (hA : ∀ q, q < H.size → A1 q → A0 q) (hf : ∀ q, free q → A0 q) (hAX : ∀ q, q < H.size → AX q → A0 q)
    (kx : ∀ (E : String) (ce : Cell) (q9 : Addr) (u : SX) (t : State) (H1 : Heap) (locs1 : List Loc), t.heap = H1 → s.vm.Alike t.vm → px u → BX E u t → H.size ≤ H1.size → (∀ q : Nat, q < H.size → ¬ AX q → H1[q]? = H[q]?) → va_S A0 H0 H1 locs1 → H1[q9]? = some ce → ce.vm = .none → s.vm.findClass E = some ce.cls → vx_W p l e R s m args below meth c H1 locs1 (cells + mc) (slots + ms) Q (F0 m pc ls rest) q9)
    (kk : ∀ (r : UInt32) (u : S) (t : State) (H1 : Heap) (locs1 : List Loc), t.heap = H1 → s.vm.Alike t.vm → post r u → B u t → H.size ≤ H1.size → (∀ q : Nat, q < H.size → ¬ A1 q → H1[q]? = H[q]?) → va_S A0 H0 H1 locs1 → W p l e R s m args below meth c H1 locs1 (cells + mc) (slots + ms) Q (F0 m (pc + 3) ls (.float r :: rest))) : W p l e R s m args below meth c H locs cells slots Q (F0 m pc ls st0) := by
  intro T hT X
  rcases hr T hT X with ⟨v, st₀, t, T', L, h0, X', hL, e1, e2, ⟨⟨r, u, hv, hp, hb⟩, hF⟩, st⟩ | ⟨q, st₀, t, T', L, E, ce, h0, X', hL, e1, e2, ⟨u, hp, hb, hF⟩, hce, hcv, hcl, st⟩
  · cases hv
    obtain ⟨k1, k2, k3⟩ := vx_keep h0 e1 hS hA hf hL hF
    obtain ⟨t2, a1, b1⟩ := kk r u t T'.heap (locs ++ L) e1.symm (by rw [← e2]; exact X'.warmed.alike) hp hb k1 k2 k3 T' rfl X'
    exact ⟨t2, st t2 a1, b1⟩
  · obtain ⟨k1, k2, k3⟩ := vx_keep h0 e1 hS hAX hf hL hF
    obtain ⟨t2, a1, b1⟩ := kx E ce q u t T'.heap (locs ++ L) e1.symm (by rw [← e2]; exact X'.warmed.alike) hp hb k1 k2 k3 (by rw [e1]; exact hce) hcv hcl T' rfl X'
    exact ⟨t2, st.trans a1, b1⟩
theorem vx_calld {S SX : Type} {post : UInt64 → S → Prop} {px : SX → Prop} {B : S → State → Prop} {BX : String → SX → State → Prop} {AX : Nat → Prop} (hr : vx_Run p l e R s m args below meth c H locs cells slots mc ms (F0 m pc ls st0) rest (va_Qd post B A1 a) (vx_X px BX AX) free) (hS : va_S A0 H0 H locs) (hA : ∀ q, q < H.size → A1 q → A0 q) (hf : ∀ q, free q → A0 q) (hAX : ∀ q, q < H.size → AX q → A0 q)
    (kx : ∀ (E : String) (ce : Cell) (q9 : Addr) (u : SX) (t : State) (H1 : Heap) (locs1 : List Loc), t.heap = H1 → s.vm.Alike t.vm → px u → BX E u t → H.size ≤ H1.size → (∀ q : Nat, q < H.size → ¬ AX q → H1[q]? = H[q]?) → va_S A0 H0 H1 locs1 → H1[q9]? = some ce → ce.vm = .none → s.vm.findClass E = some ce.cls → vx_W p l e R s m args below meth c H1 locs1 (cells + mc) (slots + ms) Q (F0 m pc ls rest) q9)
    (kk : ∀ (r : UInt64) (u : S) (t : State) (H1 : Heap) (locs1 : List Loc), t.heap = H1 → s.vm.Alike t.vm → post r u → B u t → H.size ≤ H1.size → (∀ q : Nat, q < H.size → ¬ A1 q → H1[q]? = H[q]?) → va_S A0 H0 H1 locs1 → W p l e R s m args below meth c H1 locs1 (cells + mc) (slots + ms) Q (F0 m (pc + 3) ls (.double r :: rest))) : W p l e R s m args below meth c H locs cells slots Q (F0 m pc ls st0) := by
  intro T hT X
  rcases hr T hT X with ⟨v, st₀, t, T', L, h0, X', hL, e1, e2, ⟨⟨r, u, hv, hp, hb⟩, hF⟩, st⟩ | ⟨q, st₀, t, T', L, E, ce, h0, X', hL, e1, e2, ⟨u, hp, hb, hF⟩, hce, hcv, hcl, st⟩
  · cases hv
    obtain ⟨k1, k2, k3⟩ := vx_keep h0 e1 hS hA hf hL hF
    obtain ⟨t2, a1, b1⟩ := kk r u t T'.heap (locs ++ L) e1.symm (by rw [← e2]; exact X'.warmed.alike) hp hb k1 k2 k3 T' rfl X'
    exact ⟨t2, st t2 a1, b1⟩
  · obtain ⟨k1, k2, k3⟩ := vx_keep h0 e1 hS hAX hf hL hF
    obtain ⟨t2, a1, b1⟩ := kx E ce q u t T'.heap (locs ++ L) e1.symm (by rw [← e2]; exact X'.warmed.alike) hp hb k1 k2 k3 (by rw [e1]; exact hce) hcv hcl T' rfl X'
    exact ⟨t2, st.trans a1, b1⟩
theorem vx_callv {S SX : Type} {post : S → Prop} {px : SX → Prop} {B : S → State → Prop} {BX : String → SX → State → Prop} {AX : Nat → Prop} (hr : vx_Run p l e R s m args below meth c H locs cells slots mc ms (F0 m pc ls st0) rest (va_Qv post B A1 a) (vx_X px BX AX) free) (hS : va_S A0 H0 H locs) (hA : ∀ q, q < H.size → A1 q → A0 q) (hf : ∀ q, free q → A0 q) (hAX : ∀ q, q < H.size → AX q → A0 q)
    (kx : ∀ (E : String) (ce : Cell) (q9 : Addr) (u : SX) (t : State) (H1 : Heap) (locs1 : List Loc), t.heap = H1 → s.vm.Alike t.vm → px u → BX E u t → H.size ≤ H1.size → (∀ q : Nat, q < H.size → ¬ AX q → H1[q]? = H[q]?) → va_S A0 H0 H1 locs1 → H1[q9]? = some ce → ce.vm = .none → s.vm.findClass E = some ce.cls → vx_W p l e R s m args below meth c H1 locs1 (cells + mc) (slots + ms) Q (F0 m pc ls rest) q9)
    (kk : ∀ (u : S) (t : State) (H1 : Heap) (locs1 : List Loc), t.heap = H1 → s.vm.Alike t.vm → post u → B u t → H.size ≤ H1.size → (∀ q : Nat, q < H.size → ¬ A1 q → H1[q]? = H[q]?) → va_S A0 H0 H1 locs1 → W p l e R s m args below meth c H1 locs1 (cells + mc) (slots + ms) Q (F0 m (pc + 3) ls (rest))) : W p l e R s m args below meth c H locs cells slots Q (F0 m pc ls st0) := by
  intro T hT X
  rcases hr T hT X with ⟨v, st₀, t, T', L, h0, X', hL, e1, e2, ⟨⟨u, hv, hp, hb⟩, hF⟩, st⟩ | ⟨q, st₀, t, T', L, E, ce, h0, X', hL, e1, e2, ⟨u, hp, hb, hF⟩, hce, hcv, hcl, st⟩
  · cases hv
    obtain ⟨k1, k2, k3⟩ := vx_keep h0 e1 hS hA hf hL hF
    obtain ⟨t2, a1, b1⟩ := kk u t T'.heap (locs ++ L) e1.symm (by rw [← e2]; exact X'.warmed.alike) hp hb k1 k2 k3 T' rfl X'
    exact ⟨t2, st t2 a1, b1⟩
  · obtain ⟨k1, k2, k3⟩ := vx_keep h0 e1 hS hAX hf hL hF
    obtain ⟨t2, a1, b1⟩ := kx E ce q u t T'.heap (locs ++ L) e1.symm (by rw [← e2]; exact X'.warmed.alike) hp hb k1 k2 k3 (by rw [e1]; exact hce) hcv hcl T' rfl X'
    exact ⟨t2, st.trans a1, b1⟩
/-- caught by the row x of this method's table; the rows ahead don't take it -/
theorem vx_catch {own name : String} {E : String} {ce : Cell} {q : Addr} (hown : s.vm.findClass own = some m.cls) (pre : List ExceptionTableEntry) (x : ExceptionTableEntry) (suf : List ExceptionTableEntry) (hsplit : c.exceptionTable.toList = pre ++ x :: suf)
    (hpass : ∀ z ∈ pre, covers z pc = false ∨ (z.catchType ≠ 0 ∧ ∃ nm : String, (Cond.classLink own z.catchType nm).before args s = true ∧ va_Nc E nm s)) (hx : covers x pc = true) (h0 : x.catchType ≠ 0)
    (hlink : (Cond.classLink own x.catchType name).before args s = true) (hcast : (Cond.castable E name).before args s = true) (hcell : H[q]? = some ce) (hv : ce.vm = .none) (hcl : s.vm.findClass E = some ce.cls)
    (kk : W p l e R s m args below meth c H locs cells slots Q (F0 m x.handlerPc ls [.ref q])) : vx_W p l e R s m args below meth c H locs cells slots Q (F0 m pc ls rest) q := by
  intro T hT X
  have hpl : e.platform.magicAccessors = ({} : Platform).magicAccessors := by rw [X.admits.platform]
  obtain ⟨c3, c4, hc3, hc4, hasg⟩ := Cond.castable_spec hcast
  cases Option.some.inj (hc3.symm.trans hcl)
  obtain ⟨c5, hc5, hcl5⟩ := Cond.classLink_spec hown hlink e.platform hpl
  cases Option.some.inj (hc4.symm.trans hc5)
  obtain ⟨vm', X', st⟩ := X.thenCaughtThrough q (g := F0 m pc ls rest) rfl (Steps.refl _) (by rw [hT]; exact hcell) (by rw [hv]; rfl) (by obtain ⟨k9, h9, -⟩ := Vm.findClass_spec hcl; exact ⟨k9, h9⟩) pre x suf hsplit
    (fun z hz => by
      rcases hpass z hz with h | ⟨hz0, nm, hl1, hn1⟩
      · exact Or.inl h
      · obtain ⟨c6, hc6, hcl6⟩ := Cond.classLink_spec hown hl1 e.platform hpl
        obtain ⟨a8, b8, h1, h2, h3⟩ := hn1
        cases Option.some.inj (h1.symm.trans hcl)
        cases Option.some.inj (h2.symm.trans hc6)
        exact Or.inr ⟨hz0, _, hcl6, h3⟩) hx (Or.inr ⟨h0, c4, hcl5, hasg⟩)
  obtain ⟨t, a1, b1⟩ := kk (T.setVm vm') hT X'
  exact ⟨t, st.trans a1, b1⟩
end Rows
section Ends
variable {p : Program} {l : Launch} {e : Env} {R : Room} {s : State} {m : MethodId} {args : Array Value} {below : List Frame} {meth : Method} {c : Code} {H : Heap} {locs : List Loc} {cells slots : Nat} {Q : State → Prop}
variable {mc ms : Nat} {free : Addr → Prop} {A0 A1 : Nat → Prop} {H0 : Heap} {a : Array Value} {ls : Array Slot} {st0 rest : List Value}
variable {Qc : Array Value → State → Outcome → State → Prop} {XC : String → State → State → Prop}
/-- what a body that may throw owes at its end -/
def vx_MQ (below : List Frame) (Qc : Array Value → State → Outcome → State → Prop) (XC : String → State → State → Prop) (a : Array Value) (s : State) (mc ms : Nat) (free : Addr → Prop) : State → Prop := fun t =>
  ∃ o, t.status = .running ∧ Ended t below o ∧ vx_Q Qc XC mc ms free a s o t
theorem vx_ret {g : JFrame} {mc ms : Nat} (k : W p l e R s m args below meth c H locs cells slots (MQ below Qc args s mc ms free) g) : W p l e R s m args below meth c H locs cells slots (vx_MQ below Qc XC args s mc ms free) g := by
  intro T hT X
  obtain ⟨t, a1, o, b1, b2, b3, b4⟩ := k T hT X
  exact ⟨t, a1, o, b1, b2, Or.inl ⟨b3, b4⟩⟩
/-- not caught here: it goes on to the caller -/
theorem vx_widen {g : JFrame} {q : Addr} {k n : Nat} (h1 : cells ≤ k) (h2 : slots ≤ n) (kk : vx_W p l e R s m args below meth c H locs k n Q g q) : vx_W p l e R s m args below meth c H locs cells slots Q g q := fun T hT X => kk T hT (stand_widen X h1 h2)
theorem vx_out {pc : Nat} {E : String} {ce : Cell} {q : Addr} {mc ms : Nat} (hout : ∀ x ∈ c.exceptionTable.toList, covers x pc = false) (hlocks : meth.locks = false) (hcell : H[q]? = some ce) (hv : ce.vm = .none) (hcl : s.vm.findClass E = some ce.cls)
    (hx : ∀ t : State, t.heap = H → s.vm.Alike t.vm → XC E s t) (hf : ∀ z ∈ locs, free z.base) (hc : cells ≤ mc) (hs : slots ≤ ms) :
    vx_W p l e R s m args below meth c H locs cells slots (vx_MQ below Qc XC args s mc ms free) (F0 m pc ls rest) q := by
  intro T hT X
  obtain ⟨st1, hrun, hend, hW, hsm⟩ := X.leaveThrown q (g := F0 m pc ls rest) rfl rfl rfl hout hlocks
  have hcell9 : (T.setFrames (.throwing q :: below)).heap[q]? = some ce := by
    show T.heap[q]? = some ce
    rw [hT]; exact hcell
  exact ⟨_, st1, .threw q, hrun, hend, Or.inr ⟨q, rfl, E, ce, locs, hx _ hT hW.alike, hcell9, hv, hcl, hW, hsm.mono hc hs, hf⟩⟩
theorem vx_frame {U : State} {k n : Nat} (h : s.sameButNew ({ U with vm := s.vm } : State) locs k n) : s.heap.size ≤ U.heap.size ∧ ∀ q : Nat, q < s.heap.size → (∀ z ∈ locs, z.base ≠ q) → U.heap[q]? = s.heap[q]? := by
  obtain ⟨-, h2, -, -, -, h6⟩ := h
  refine ⟨h2, fun q hq hz => ?_⟩
  obtain ⟨c9, e1, e2, e3, e4⟩ := h6 q _ (Array.getElem?_eq_getElem hq)
  have hs : c9.slots = (s.heap[q]).slots := Array.ext_getElem? fun i => e4 i fun hm => hz _ hm rfl
  have h9 : c9 = s.heap[q] := by
    rw [hs] at e2
    exact e2
  have e5 : U.heap[q]? = some c9 := e1
  rw [e5, h9, Array.getElem?_eq_getElem hq]
/-- the words of a throw but the four that speak of the heap -/
def vx_no (w : Cond) : Bool := decide (w ≠ .isRef (.static Bundle.tN "UNASSIGNED_STACK" Bundle.steD)) && decide (w ≠ .isRef (.static Bundle.tN "SUPPRESSED_SENTINEL" Bundle.listD)) && decide (w ≠ .laysStatic Bundle.tN "UNASSIGNED_STACK" Bundle.steD) && decide (w ≠ .laysStatic Bundle.tN "SUPPRESSED_SENTINEL" Bundle.listD)
def vx_at0 (own : String) (ic : Nat) (X : String) (names : List String) : List Cond := (Bundle.ownAtoms0 own ic X names).filter vx_no
def vx_atS (own : String) (ic : Nat) (X : String) (names : List String) : List Cond := (Bundle.ownAtoms own ic X names).filter vx_no
/-- a word that the tables alone decide, or a good one -/
def vx_ot (w : Cond) : Bool := w.onTables || goodWord w
theorem vx_ot_at {args a' : Array Value} {s U : State} {w : Cond} (hW : s.WarmedH U.vm) (hvm : s.vm = U.vm) (hg : vx_ot w = true) (h : w.before args s = true) : w.before a' U = true := by
  simp only [vx_ot, Bool.or_eq_true] at hg
  rcases hg with hg | hg
  · exact va_tabs hg hvm h
  · exact word_at hW (good_of_word hg) h
/-- a list's words: the good ones out of the method's own list, the others by premises of their own -/
theorem vx_hat {args : Array Value} {s : State} {L B : List Cond} (h1 : ∀ w ∈ L.filter goodWord, w.before args s = true) (h2 : ∀ w ∈ L.filter (fun w => !goodWord w), w ∈ B) (h3 : ∀ w ∈ B, w.before args s = true) : ∀ w ∈ L, w.before args s = true := by
  intro w hw
  by_cases g : goodWord w = true
  · exact h1 w (List.mem_filter.mpr ⟨hw, g⟩)
  · refine h3 w (h2 w (List.mem_filter.mpr ⟨hw, ?_⟩))
    show (!goodWord w) = true
    cases hgw : goodWord w
    · rfl
    · exact absurd hgw g
theorem vx_c {args : Array Value} {s : State} {w : Cond} {B : List Cond} (h : w.before args s = true) (t : ∀ w ∈ B, w.before args s = true) : ∀ w' ∈ w :: B, w'.before args s = true := fun w' h' => (List.mem_cons.mp h').elim (fun e => by rw [e]; exact h) (t w')
theorem vx_n {args : Array Value} {s : State} : ∀ w ∈ ([] : List Cond), w.before args s = true := fun _ h => nomatch h
theorem vx_own {args : Array Value} {s : State} {L : List Cond} (h1 : ∀ w ∈ L.filter vx_no, w.before args s = true)
    (hU : (Cond.isRef (.static Bundle.tN "UNASSIGNED_STACK" Bundle.steD)).before args s = true) (hN : (Cond.isRef (.static Bundle.tN "SUPPRESSED_SENTINEL" Bundle.listD)).before args s = true)
    (lU : (Cond.laysStatic Bundle.tN "UNASSIGNED_STACK" Bundle.steD).before args s = true) (lN : (Cond.laysStatic Bundle.tN "SUPPRESSED_SENTINEL" Bundle.listD).before args s = true) : ∀ w ∈ L, w.before args s = true := by
  intro w hw
  by_cases e1 : w = .isRef (.static Bundle.tN "UNASSIGNED_STACK" Bundle.steD)
  · rw [e1]; exact hU
  · by_cases e2 : w = .isRef (.static Bundle.tN "SUPPRESSED_SENTINEL" Bundle.listD)
    · rw [e2]; exact hN
    · by_cases e3 : w = .laysStatic Bundle.tN "UNASSIGNED_STACK" Bundle.steD
      · rw [e3]; exact lU
      · by_cases e4 : w = .laysStatic Bundle.tN "SUPPRESSED_SENTINEL" Bundle.listD
        · rw [e4]; exact lN
        · exact h1 w (List.mem_filter.mpr ⟨hw, by unfold vx_no; rw [decide_eq_true e1, decide_eq_true e2, decide_eq_true e3, decide_eq_true e4]; rfl⟩)
/-- where a static field lies, its class's statics cell in H -/
def vx_L (C n d : String) (A : Nat → Prop) (U : State) (H : Heap) : Prop := ∃ (c : ClassId) (k : Class) (i : Nat) (f : Field) (a : Nat) (cell : Cell), U.vm.findClass C = some c ∧ U.fieldFound? C n d = some (c, k, i, f) ∧ f.isStatic = true ∧ k.statics = some a ∧ H[a]? = some cell ∧ cell.vm.isStatics = true ∧ cell.cls = c ∧ f.slot < cell.slots.size ∧ k.staticTypes[f.slot]? = some f.type ∧ ¬ A a
theorem vx_L.moved {C n d : String} {A : Nat → Prop} {u U : State} {H : Heap} (hvm : u.vm.Alike U.vm) (h : vx_L C n d A u H) : vx_L C n d A U H := by
  obtain ⟨c, k, i, f, a, cell, h1, h2, h3, h4, h5, h6, h7, h8, h9, h10⟩ := h
  obtain ⟨k', hi', he⟩ := State.fieldFound?_setVm hvm h2
  exact ⟨c, k', i, f, a, cell, by rw [hvm.findClass]; exact h1, hi', h3, by rw [he]; exact h4, h5, h6, h7, h8, by rw [he]; exact h9, h10⟩
theorem vx_L.kept {C n d : String} {A : Nat → Prop} {U : State} {H H1 : Heap} (h : vx_L C n d A U H) (hq : ∀ a : Nat, a < H.size → ¬ A a → H1[a]? = H[a]?) : vx_L C n d A U H1 := by
  obtain ⟨c, k, i, f, a, cell, h1, h2, h3, h4, h5, h6, h7, h8, h9, h10⟩ := h
  exact ⟨c, k, i, f, a, cell, h1, h2, h3, h4, by rw [hq a (Array.getElem?_eq_some_iff.mp h5).1 h10]; exact h5, h6, h7, h8, h9, h10⟩
theorem vx_L.narrow {C n d : String} {A B : Nat → Prop} {U : State} {H : Heap} (h : vx_L C n d A U H) (hAB : ∀ q, B q → A q) : vx_L C n d B U H := by
  obtain ⟨c, k, i, f, a, cell, h1, h2, h3, h4, h5, h6, h7, h8, h9, h10⟩ := h
  exact ⟨c, k, i, f, a, cell, h1, h2, h3, h4, h5, h6, h7, h8, h9, fun z => h10 (hAB _ z)⟩
theorem vx_L.word {C n d : String} {A : Nat → Prop} {s : State} {args : Array Value} (h : vx_L C n d A s s.heap) : (Cond.laysStatic C n d).before args s = true := by
  obtain ⟨c, k, i, f, a, cell, h1, h2, h3, h4, h5, h6, h7, h8, h9, -⟩ := h
  show (Cond.laysStatic C n d).holds args s none s [] = true
  exact Cond.laysStatic_of h1 h2 h3 h4 h5 h6 h7 h8 h9
/-- .. and what it holds: null or some reference -/
def vx_Zq (C n d : String) (A : Nat → Prop) (U : State) (H : Heap) : Prop := va_Zq C n d A U H ∧ vx_L C n d A U H
theorem vx_Zq.moved {C n d : String} {A : Nat → Prop} {u U : State} {H : Heap} (hvm : u.vm.Alike U.vm) (h : vx_Zq C n d A u H) : vx_Zq C n d A U H := ⟨va_Zq.moved hvm h.1, vx_L.moved hvm h.2⟩
theorem vx_Zq.kept {C n d : String} {A : Nat → Prop} {U : State} {H H1 : Heap} (h : vx_Zq C n d A U H) (hq : ∀ a : Nat, a < H.size → ¬ A a → H1[a]? = H[a]?) : vx_Zq C n d A U H1 := ⟨va_Zq.kept h.1 hq, vx_L.kept h.2 hq⟩
theorem vx_Zq.narrow {C n d : String} {A B : Nat → Prop} {U : State} {H : Heap} (h : vx_Zq C n d A U H) (hAB : ∀ q, B q → A q) : vx_Zq C n d B U H := ⟨va_Zq.narrow h.1 hAB, vx_L.narrow h.2 hAB⟩
theorem vx_Zqof {args : Array Value} {s : State} {C n d : String} {A : Nat → Prop} (hl : (Cond.laysStatic C n d).before args s = true) (hini : (Cond.initialized C).before args s = true) (h : (Cond.isRef (.static C n d)).before args s = true) (hA : ∀ a : Nat, a < s.heap.size → ¬ A a) : vx_Zq C n d A s s.heap := by
  refine ⟨va_Zqof hl hini h hA, ?_⟩
  obtain ⟨c, k, i, f, a, cell, h1, h2, h3, h4, h5, h6, h7, h8, h9⟩ := Cond.laysStatic_spec hl
  exact ⟨c, k, i, f, a, cell, h1, h2, h3, h4, h5, h6, h7, h8, h9, hA a (Array.getElem?_eq_some_iff.mp h5).1⟩
theorem vx_isRef {C n d : String} {v : Value} {A : Nat → Prop} {s : State} {args : Array Value} (h : va_Z C n d v A s s.heap) (hv : v.isRef = true) : (Cond.isRef (.static C n d)).before args s = true := by
  obtain ⟨cf, kf, fi, f, a, cell, h1, h2, h3, h4, h5, h6, h7, -⟩ := h
  have he : (Term.static C n d).eval args s none [] s = some v := by
    simp [Term.eval, State.fieldNamed?, h1, h2, h4, h5, h6, h7]
  simp only [Cond.before, Cond.holds, Cond.value, he]
  cases v <;> simp_all [Value.isRef]
theorem vx_isRefq {C n d : String} {A : Nat → Prop} {s : State} {args : Array Value} (h : va_Zq C n d A s s.heap) : (Cond.isRef (.static C n d)).before args s = true := by
  rcases h with h | ⟨t, h⟩
  · exact vx_isRef h rfl
  · exact vx_isRef h rfl
/-- the same frame, seen from here: as if the method were called anew in this heap -/
theorem vx_rebase {T : State} (X : Stand p l e R s m args below meth c T locs cells slots) {R' : Room} (hf : R'.frames ≤ R.frames) (hl : R'.locals ≤ R.locals) (hc : cells + R'.cells ≤ R.cells) (hs : slots + R'.slots ≤ R.slots) :
    Stand p l e R' ((T.setVm s.vm).setFrames (.invoking m args :: below)) m args below meth c T [] 0 0 := by
  have htop : (T.setVm s.vm).topJava?.isSome := X.here.top
  have hF : ((T.setVm s.vm).setFrames (.invoking m args :: below)).frames = .invoking m args :: below := State.frames_setFrames _ (State.cur_lt_of_top htop)
  obtain ⟨g₀, hg0⟩ := Option.isSome_iff_exists.mp htop
  obtain ⟨r, hr⟩ := State.topJava?_eq_some.mp hg0
  have hl9 : e.platform.stackLimits (T.setVm s.vm).me = e.platform.stackLimits s.me := X.limits
  have hb9 : (T.setVm s.vm).me.stackBytes = s.me.stackBytes := X.bytes
  refine ⟨X.admits, X.cas, X.clock, hF, ?_, X.hears, X.method, X.code, X.here, X.tail, X.warmed, ?_, ?_, ?_⟩
  · have h := X.room
    have hU : ((T.setVm s.vm).setFrames (.invoking m args :: below)).localsInUse = s.localsInUse := by
      rw [State.localsInUse_invoking hF (meth := meth) (c := c) X.method X.code, State.localsInUse_invoking X.frames X.method X.code]
    simp only [State.hasRoom, Bool.and_eq_true, decide_eq_true_eq] at h ⊢
    obtain ⟨⟨⟨⟨h1, h2, h3, h4, h5, h6⟩, h7⟩, h8⟩, h9⟩ := h
    rw [X.frames, List.length_cons] at h2 h3
    have q1 := X.heapSize
    have q2 := X.used
    simp only [hF, hU, List.length_cons, State.stackLimits_setFrames, State.stackBytes_setFrames, hl9, hb9]
    refine ⟨⟨⟨⟨by omega, by omega, by omega, by omega, by omega, h6⟩, ?_⟩, ?_⟩, X.book⟩
    · show T.heap.size + R'.cells ≤ e.platform.maxCells
      omega
    · show T.slotsUsed + R'.slots ≤ e.platform.maxSlots
      omega
  · rw [State.stackLimits_setFrames]; rfl
  · rw [State.stackBytes_setFrames]; rfl
  · refine ⟨?_, Nat.le_refl _, Nat.le_refl _, ?_, ?_, fun a c9 h9 => ⟨c9, h9, rfl, rfl, fun _ _ => rfl⟩⟩
    · obtain ⟨t, ht, -⟩ := State.frames_cons hr
      show T.setVm s.vm = { ((T.setVm s.vm).setFrames (.invoking m args :: below)).setFrames (T.setVm s.vm).frames with heap := T.heap, slotsUsed := T.slotsUsed }
      rw [State.setFrames_setFrames, State.setFrames_self ht]
      rfl
    · show T.slotsUsed = T.slotsUsed + ((T.heap.toList.drop T.heap.size).map (·.slots.size)).sum
      rw [List.drop_eq_nil_of_le (Nat.le_of_eq Array.length_toList)]
      rfl
    · show ((T.heap.toList.drop T.heap.size).map (·.slots.size)).sum ≤ 0
      rw [List.drop_eq_nil_of_le (Nat.le_of_eq Array.length_toList)]
      exact Nat.le_refl _
/-- 'throw new E()': new; dup; invokespecial; athrow -/
theorem vx_throw0 {cc : ByteArray} {pc : Nat} (hexec : p.tables.exec = Jvm.exec) (hb : c.code = cc) (hl : l.stackTraces = false) {own cls : String} {names : List String} {ik ic mc ms : Nat} {A : Nat → Prop}
    (hown : s.vm.findClass own = some m.cls) (hcls : Bundle.fit cls = true) (hnames : ∀ n ∈ names, Bundle.fit n = true)
    (hk : (Cond.classLink own ik cls).before args s = true) (hini : (Cond.initialized cls).before args s = true) (hat : ∀ w ∈ vx_at0 own ic cls names, w.before args s = true)
    (hgood : ∀ w ∈ Cond.classLink own ik cls :: Cond.initialized cls :: vx_at0 own ic cls names, vx_ot w = true)
    (hU : vx_Zq Bundle.tN "UNASSIGNED_STACK" Bundle.steD A s s.heap) (hN : vx_Zq Bundle.tN "SUPPRESSED_SENTINEL" Bundle.listD A s s.heap) (hS : va_S A s.heap H locs) (hsize : ls.size = c.maxLocals)
    (d0 : decode cc pc = .ok (.new ik, 3)) (d3 : decode cc (pc + 3) = .ok (.dup, 1)) (d4 : decode cc (pc + 4) = .ok (.invokespecial ic, 3)) (d7 : decode cc (pc + 7) = .ok (.athrow, 1))
    (hout : ∀ x ∈ c.exceptionTable.toList, covers x (pc + 7) = false)
    (hRframes : names.length + 3 < R.frames) (hRlocals : (rest.map fun v => v.category).sum + (13 * (names.length + 1) + 42) ≤ R.locals) (hRcells : cells + 1 ≤ R.cells) (hRslots : slots + 6 ≤ R.slots) (hlocks : meth.locks = false)
    (hx : ∀ t : State, s.vm.Alike t.vm → H.size ≤ t.heap.size → (∀ q : Nat, q < H.size → t.heap[q]? = H[q]?) → XC cls s t)
    (hf : ∀ z ∈ locs, free z.base) (hc : cells + 1 ≤ mc) (hs : slots + 6 ≤ ms) :
    W p l e R s m args below meth c H locs cells slots (vx_MQ below Qc XC args s mc ms free) (F0 m pc ls rest) := by
  intro T hT X
  have htr : e.platform.stackTraces = false := (show e.platform.stackTraces = l.stackTraces by rw [X.admits.platform]).trans hl
  have Y := vx_rebase X (R' := { frames := R.frames, locals := R.locals, cells := 1, slots := 6 }) (Nat.le_refl _) (Nat.le_refl _) hRcells hRslots
  obtain ⟨s', hA⟩ : ∃ z, z = (T.setVm s.vm).setFrames (.invoking m args :: below) := ⟨_, rfl⟩
  rw [← hA] at Y
  have hvm : s'.vm = s.vm := by rw [hA]; rfl
  have hhp : s'.heap = H := by rw [hA]; exact hT
  have hW0 : s.WarmedH s'.vm := by rw [hvm]; exact State.WarmedH.refl s
  have hat' : ∀ w ∈ vx_at0 own ic cls names, w.before args s' = true := fun w hw => vx_ot_at hW0 hvm.symm (hgood w (List.mem_cons_of_mem _ (List.mem_cons_of_mem _ hw))) (hat w hw)
  have hk' : (Cond.classLink own ik cls).before args s' = true := vx_ot_at hW0 hvm.symm (hgood _ List.mem_cons_self) hk
  have hini' : (Cond.initialized cls).before args s' = true := vx_ot_at hW0 hvm.symm (hgood _ (List.mem_cons_of_mem _ List.mem_cons_self)) hini
  have hU' : vx_Zq Bundle.tN "UNASSIGNED_STACK" Bundle.steD A s' s'.heap := by rw [hhp]; exact vx_Zq.moved hW0.alike (hU.kept hS.2.1)
  have hN' : vx_Zq Bundle.tN "SUPPRESSED_SENTINEL" Bundle.listD A s' s'.heap := by rw [hhp]; exact vx_Zq.moved hW0.alike (hN.kept hS.2.1)
  have h : ∀ w ∈ Bundle.ownAtoms0 own ic cls names, w.before args s' = true := vx_own hat' (vx_isRefq hU'.1) (vx_isRefq hN'.1) hU'.2.word hN'.2.word
  have hown' : s'.vm.findClass own = some m.cls := by rw [hvm]; exact hown
  have hins : (Cond.instantiable cls 6).before args s' = true := h _ (by simp [Bundle.ownAtoms0])
  obtain ⟨vm₁, cX, kX, hfX, hkX, -, -, X₁, st1⟩ := Y.newCold hexec (own := own) (C := cls) (index := ik) (n := 6) hown' hk' hins hini'
    (g := F0 m pc ls rest) rfl (by rw [hb]; exact d0) (Nat.le_refl _) (Nat.le_refl _)
  generalize hT1 : (T.setVm vm₁).pushCell { cls := cX, slots := kX.instanceTypes.map defaultValue, vm := .none } = T1 at X₁ st1
  have hcat : (Value.ref T.heap.size).category = 1 := rfl
  have hcellA : T1.heap[T.heap.size]? = some (freshCell cX kX) := by rw [← hT1]; exact State.heap_pushCell_size _ _
  have d3' : decode c.code (pc + 3) = .ok (.dup, 1) := by rw [hb]; exact d3
  obtain ⟨U, hsteps, hrun, hend, hW, hsame, ce, hce, hO⟩ := X₁.ctorThrow0 hexec htr (own := own) (cls := cls) (names := names) (ic := ic) hown' hcls hnames h (fun x hx => nomatch hx) hfX hkX hcellA (by rw [hhp, hT]; exact Nat.le_refl _)
    (g := { method := m, pc := pc + 4, locals := ls, stack := .ref T.heap.size :: .ref T.heap.size :: rest, locked := none }) rfl hsize rfl rfl (rest := rest) rfl
    (by rw [hb]; exact d4) (by rw [hb]; exact d7) hout hRframes (by simp only [List.map_cons, List.sum_cons, hcat]; omega) hlocks
  obtain ⟨f1, f2⟩ := vx_frame hsame
  rw [hhp] at f1 f2
  have hWs : s.WarmedH U.vm := State.WarmedH.trans hW0 hW
  have hcl : s.vm.findClass cls = some ce.cls := by
    have h9 := hO.cls
    rw [hvm] at h9
    exact h9
  have hall : s.sameButNew ({ U with vm := s.vm } : State) locs mc ms := by
    subst hA
    obtain ⟨e1, e2⟩ := hsame
    rw [State.setFrames_setFrames] at e1
    have h2 : (T.setVm s.vm).sameButNew ({ U with vm := s.vm } : State) [] (0 + 1) (0 + 6) := ⟨e1, e2⟩
    have h3 := X.same.trans h2
    rw [List.append_nil] at h3
    exact h3.mono hc hs
  refine ⟨U, ?_, .threw T.heap.size, hrun, hend, Or.inr ⟨T.heap.size, rfl, cls, ce, locs, hx U hWs.alike f1 (fun q hq => f2 q hq (fun z hz => nomatch hz)), hce, hO.vm, hcl, hWs, hall, hf⟩⟩
  refine st1 _ ?_
  show Steps p.tables e below (T1.setTop { method := m, pc := pc + 3, locals := ls, stack := .ref T.heap.size :: rest, locked := none }) _
  jvm_step X₁.here [X₁.here.top, hexec, d3', Value.category]
  exact hsteps
/-- 'throw new E("text")': new; dup; ldc; invokespecial; athrow -/
theorem vx_throwS {cc : ByteArray} {pc : Nat} (hexec : p.tables.exec = Jvm.exec) (hb : c.code = cc) (hl : l.stackTraces = false) {own cls text : String} {names : List String} {ik is ic mc ms sa : Nat} {A : Nat → Prop}
    (hown : s.vm.findClass own = some m.cls) (hcls : Bundle.fit cls = true) (hnames : ∀ n ∈ names, Bundle.fit n = true)
    (hk : (Cond.classLink own ik cls).before args s = true) (hini : (Cond.initialized cls).before args s = true) (hstr : vk_R own is text sa s) (hat : ∀ w ∈ vx_atS own ic cls names, w.before args s = true)
    (hgood : ∀ w ∈ Cond.classLink own ik cls :: Cond.initialized cls :: vx_atS own ic cls names, vx_ot w = true)
    (hU : vx_Zq Bundle.tN "UNASSIGNED_STACK" Bundle.steD A s s.heap) (hN : vx_Zq Bundle.tN "SUPPRESSED_SENTINEL" Bundle.listD A s s.heap) (hS : va_S A s.heap H locs) (hsize : ls.size = c.maxLocals)
    (d0 : decode cc pc = .ok (.new ik, 3)) (d3 : decode cc (pc + 3) = .ok (.dup, 1)) (d4 : decode cc (pc + 4) = .ok (.ldc is, 2)) (d6 : decode cc (pc + 6) = .ok (.invokespecial ic, 3)) (d9 : decode cc (pc + 9) = .ok (.athrow, 1))
    (hout : ∀ x ∈ c.exceptionTable.toList, covers x (pc + 9) = false)
    (hRframes : names.length + 3 < R.frames) (hRlocals : (rest.map fun v => v.category).sum + (13 * (names.length + 1) + 43) ≤ R.locals) (hRcells : cells + 1 ≤ R.cells) (hRslots : slots + 6 ≤ R.slots) (hlocks : meth.locks = false)
    (hx : ∀ t : State, s.vm.Alike t.vm → H.size ≤ t.heap.size → (∀ q : Nat, q < H.size → t.heap[q]? = H[q]?) → XC cls s t)
    (hf : ∀ z ∈ locs, free z.base) (hc : cells + 1 ≤ mc) (hs : slots + 6 ≤ ms) :
    W p l e R s m args below meth c H locs cells slots (vx_MQ below Qc XC args s mc ms free) (F0 m pc ls rest) := by
  intro T hT X
  have htr : e.platform.stackTraces = false := (show e.platform.stackTraces = l.stackTraces by rw [X.admits.platform]).trans hl
  have Y := vx_rebase X (R' := { frames := R.frames, locals := R.locals, cells := 1, slots := 6 }) (Nat.le_refl _) (Nat.le_refl _) hRcells hRslots
  obtain ⟨s', hA⟩ : ∃ z, z = (T.setVm s.vm).setFrames (.invoking m args :: below) := ⟨_, rfl⟩
  rw [← hA] at Y
  have hvm : s'.vm = s.vm := by rw [hA]; rfl
  have hhp : s'.heap = H := by rw [hA]; exact hT
  have hW0 : s.WarmedH s'.vm := by rw [hvm]; exact State.WarmedH.refl s
  have hat' : ∀ w ∈ vx_atS own ic cls names, w.before args s' = true := fun w hw => vx_ot_at hW0 hvm.symm (hgood w (List.mem_cons_of_mem _ (List.mem_cons_of_mem _ hw))) (hat w hw)
  have hk' : (Cond.classLink own ik cls).before args s' = true := vx_ot_at hW0 hvm.symm (hgood _ List.mem_cons_self) hk
  have hini' : (Cond.initialized cls).before args s' = true := vx_ot_at hW0 hvm.symm (hgood _ (List.mem_cons_of_mem _ List.mem_cons_self)) hini
  have hU' : vx_Zq Bundle.tN "UNASSIGNED_STACK" Bundle.steD A s' s'.heap := by rw [hhp]; exact vx_Zq.moved hW0.alike (hU.kept hS.2.1)
  have hN' : vx_Zq Bundle.tN "SUPPRESSED_SENTINEL" Bundle.listD A s' s'.heap := by rw [hhp]; exact vx_Zq.moved hW0.alike (hN.kept hS.2.1)
  have h : ∀ w ∈ Bundle.ownAtoms own ic cls names, w.before args s' = true := vx_own hat' (vx_isRefq hU'.1) (vx_isRefq hN'.1) hU'.2.word hN'.2.word
  have hown' : s'.vm.findClass own = some m.cls := by rw [hvm]; exact hown
  have hins : (Cond.instantiable cls 6).before args s' = true := h _ (by simp [Bundle.ownAtoms])
  obtain ⟨vm₁, cX, kX, hfX, hkX, -, -, X₁, st1⟩ := Y.newCold hexec (own := own) (C := cls) (index := ik) (n := 6) hown' hk' hins hini'
    (g := F0 m pc ls rest) rfl (by rw [hb]; exact d0) (Nat.le_refl _) (Nat.le_refl _)
  generalize hT1 : (T.setVm vm₁).pushCell { cls := cX, slots := kX.instanceTypes.map defaultValue, vm := .none } = T1 at X₁ st1
  have hcat : (Value.ref T.heap.size).category = 1 := rfl
  have hcellA : T1.heap[T.heap.size]? = some (freshCell cX kX) := by rw [← hT1]; exact State.heap_pushCell_size _ _
  have d3' : decode c.code (pc + 3) = .ok (.dup, 1) := by rw [hb]; exact d3
  have d4' : decode c.code (pc + 4) = .ok (.ldc is, 2) := by rw [hb]; exact d4
  have hstr' : vk_R own is text sa s' := vk_R.warm hW0 hstr
  obtain ⟨U, hsteps, hrun, hend, hW, hsame, ce, hce, hO⟩ := X₁.ctorThrowS hexec htr (own := own) (cls := cls) (names := names) (ic := ic) hown' hcls hnames h (fun x hx => nomatch hx) hfX hkX hcellA (by rw [hhp, hT]; exact Nat.le_refl _) (msg := .ref sa) rfl
    (g := { method := m, pc := pc + 6, locals := ls, stack := .ref sa :: .ref T.heap.size :: .ref T.heap.size :: rest, locked := none }) rfl hsize rfl rfl (rest := rest) rfl
    (by rw [hb]; exact d6) (by rw [hb]; exact d9) hout hRframes (by simp only [List.map_cons, List.sum_cons, hcat]; omega) hlocks
  obtain ⟨f1, f2⟩ := vx_frame hsame
  rw [hhp] at f1 f2
  have hWs : s.WarmedH U.vm := State.WarmedH.trans hW0 hW
  have hcl : s.vm.findClass cls = some ce.cls := by
    have h9 := hO.cls
    rw [hvm] at h9
    exact h9
  have hall : s.sameButNew ({ U with vm := s.vm } : State) locs mc ms := by
    subst hA
    obtain ⟨e1, e2⟩ := hsame
    rw [State.setFrames_setFrames] at e1
    have h2 : (T.setVm s.vm).sameButNew ({ U with vm := s.vm } : State) [] (0 + 1) (0 + 6) := ⟨e1, e2⟩
    have h3 := X.same.trans h2
    rw [List.append_nil] at h3
    exact h3.mono hc hs
  refine ⟨U, ?_, .threw T.heap.size, hrun, hend, Or.inr ⟨T.heap.size, rfl, cls, ce, locs, hx U hWs.alike f1 (fun q hq => f2 q hq (fun z hz => nomatch hz)), hce, hO.vm, hcl, hWs, hall, hf⟩⟩
  refine st1 _ ?_
  show Steps p.tables e below (T1.setTop { method := m, pc := pc + 3, locals := ls, stack := .ref T.heap.size :: rest, locked := none }) _
  jvm_step X₁.here [X₁.here.top, hexec, d3', Value.category]
  exact X₁.ldcString hexec (own := own) (text := text) (index := is) (a := sa) hown' hstr'.1 hstr'.2
    (g := { method := m, pc := pc + 4, locals := ls, stack := .ref T.heap.size :: .ref T.heap.size :: rest, locked := none }) rfl d4' _ hsteps
/-- 'throw new E("text")', the text by a wide index -/
theorem vx_throwSW {cc : ByteArray} {pc : Nat} (hexec : p.tables.exec = Jvm.exec) (hb : c.code = cc) (hl : l.stackTraces = false) {own cls text : String} {names : List String} {ik is ic mc ms sa : Nat} {A : Nat → Prop}
    (hown : s.vm.findClass own = some m.cls) (hcls : Bundle.fit cls = true) (hnames : ∀ n ∈ names, Bundle.fit n = true)
    (hk : (Cond.classLink own ik cls).before args s = true) (hini : (Cond.initialized cls).before args s = true) (hstr : vk_R own is text sa s) (hat : ∀ w ∈ vx_atS own ic cls names, w.before args s = true)
    (hgood : ∀ w ∈ Cond.classLink own ik cls :: Cond.initialized cls :: vx_atS own ic cls names, vx_ot w = true)
    (hU : vx_Zq Bundle.tN "UNASSIGNED_STACK" Bundle.steD A s s.heap) (hN : vx_Zq Bundle.tN "SUPPRESSED_SENTINEL" Bundle.listD A s s.heap) (hS : va_S A s.heap H locs) (hsize : ls.size = c.maxLocals)
    (d0 : decode cc pc = .ok (.new ik, 3)) (d3 : decode cc (pc + 3) = .ok (.dup, 1)) (d4 : decode cc (pc + 4) = .ok (.ldc_w is, 3)) (d7 : decode cc (pc + 7) = .ok (.invokespecial ic, 3)) (d10 : decode cc (pc + 10) = .ok (.athrow, 1))
    (hout : ∀ x ∈ c.exceptionTable.toList, covers x (pc + 10) = false)
    (hRframes : names.length + 3 < R.frames) (hRlocals : (rest.map fun v => v.category).sum + (13 * (names.length + 1) + 43) ≤ R.locals) (hRcells : cells + 1 ≤ R.cells) (hRslots : slots + 6 ≤ R.slots) (hlocks : meth.locks = false)
    (hx : ∀ t : State, s.vm.Alike t.vm → H.size ≤ t.heap.size → (∀ q : Nat, q < H.size → t.heap[q]? = H[q]?) → XC cls s t)
    (hf : ∀ z ∈ locs, free z.base) (hc : cells + 1 ≤ mc) (hs : slots + 6 ≤ ms) :
    W p l e R s m args below meth c H locs cells slots (vx_MQ below Qc XC args s mc ms free) (F0 m pc ls rest) := by
  intro T hT X
  have htr : e.platform.stackTraces = false := (show e.platform.stackTraces = l.stackTraces by rw [X.admits.platform]).trans hl
  have Y := vx_rebase X (R' := { frames := R.frames, locals := R.locals, cells := 1, slots := 6 }) (Nat.le_refl _) (Nat.le_refl _) hRcells hRslots
  obtain ⟨s', hA⟩ : ∃ z, z = (T.setVm s.vm).setFrames (.invoking m args :: below) := ⟨_, rfl⟩
  rw [← hA] at Y
  have hvm : s'.vm = s.vm := by rw [hA]; rfl
  have hhp : s'.heap = H := by rw [hA]; exact hT
  have hW0 : s.WarmedH s'.vm := by rw [hvm]; exact State.WarmedH.refl s
  have hat' : ∀ w ∈ vx_atS own ic cls names, w.before args s' = true := fun w hw => vx_ot_at hW0 hvm.symm (hgood w (List.mem_cons_of_mem _ (List.mem_cons_of_mem _ hw))) (hat w hw)
  have hk' : (Cond.classLink own ik cls).before args s' = true := vx_ot_at hW0 hvm.symm (hgood _ List.mem_cons_self) hk
  have hini' : (Cond.initialized cls).before args s' = true := vx_ot_at hW0 hvm.symm (hgood _ (List.mem_cons_of_mem _ List.mem_cons_self)) hini
  have hU' : vx_Zq Bundle.tN "UNASSIGNED_STACK" Bundle.steD A s' s'.heap := by rw [hhp]; exact vx_Zq.moved hW0.alike (hU.kept hS.2.1)
  have hN' : vx_Zq Bundle.tN "SUPPRESSED_SENTINEL" Bundle.listD A s' s'.heap := by rw [hhp]; exact vx_Zq.moved hW0.alike (hN.kept hS.2.1)
  have h : ∀ w ∈ Bundle.ownAtoms own ic cls names, w.before args s' = true := vx_own hat' (vx_isRefq hU'.1) (vx_isRefq hN'.1) hU'.2.word hN'.2.word
  have hown' : s'.vm.findClass own = some m.cls := by rw [hvm]; exact hown
  have hins : (Cond.instantiable cls 6).before args s' = true := h _ (by simp [Bundle.ownAtoms])
  obtain ⟨vm₁, cX, kX, hfX, hkX, -, -, X₁, st1⟩ := Y.newCold hexec (own := own) (C := cls) (index := ik) (n := 6) hown' hk' hins hini'
    (g := F0 m pc ls rest) rfl (by rw [hb]; exact d0) (Nat.le_refl _) (Nat.le_refl _)
  generalize hT1 : (T.setVm vm₁).pushCell { cls := cX, slots := kX.instanceTypes.map defaultValue, vm := .none } = T1 at X₁ st1
  have hcat : (Value.ref T.heap.size).category = 1 := rfl
  have hcellA : T1.heap[T.heap.size]? = some (freshCell cX kX) := by rw [← hT1]; exact State.heap_pushCell_size _ _
  have d3' : decode c.code (pc + 3) = .ok (.dup, 1) := by rw [hb]; exact d3
  have d4' : decode c.code (pc + 4) = .ok (.ldc_w is, 3) := by rw [hb]; exact d4
  have hstr' : vk_R own is text sa s' := vk_R.warm hW0 hstr
  obtain ⟨U, hsteps, hrun, hend, hW, hsame, ce, hce, hO⟩ := X₁.ctorThrowS hexec htr (own := own) (cls := cls) (names := names) (ic := ic) hown' hcls hnames h (fun x hx => nomatch hx) hfX hkX hcellA (by rw [hhp, hT]; exact Nat.le_refl _) (msg := .ref sa) rfl
    (g := { method := m, pc := pc + 7, locals := ls, stack := .ref sa :: .ref T.heap.size :: .ref T.heap.size :: rest, locked := none }) rfl hsize rfl rfl (rest := rest) rfl
    (by rw [hb]; exact d7) (by rw [hb]; exact d10) hout hRframes (by simp only [List.map_cons, List.sum_cons, hcat]; omega) hlocks
  obtain ⟨f1, f2⟩ := vx_frame hsame
  rw [hhp] at f1 f2
  have hWs : s.WarmedH U.vm := State.WarmedH.trans hW0 hW
  have hcl : s.vm.findClass cls = some ce.cls := by
    have h9 := hO.cls
    rw [hvm] at h9
    exact h9
  have hall : s.sameButNew ({ U with vm := s.vm } : State) locs mc ms := by
    subst hA
    obtain ⟨e1, e2⟩ := hsame
    rw [State.setFrames_setFrames] at e1
    have h2 : (T.setVm s.vm).sameButNew ({ U with vm := s.vm } : State) [] (0 + 1) (0 + 6) := ⟨e1, e2⟩
    have h3 := X.same.trans h2
    rw [List.append_nil] at h3
    exact h3.mono hc hs
  refine ⟨U, ?_, .threw T.heap.size, hrun, hend, Or.inr ⟨T.heap.size, rfl, cls, ce, locs, hx U hWs.alike f1 (fun q hq => f2 q hq (fun z hz => nomatch hz)), hce, hO.vm, hcl, hWs, hall, hf⟩⟩
  refine st1 _ ?_
  show Steps p.tables e below (T1.setTop { method := m, pc := pc + 3, locals := ls, stack := .ref T.heap.size :: rest, locked := none }) _
  jvm_step X₁.here [X₁.here.top, hexec, d3', Value.category]
  exact X₁.ldcStringW hexec (own := own) (text := text) (index := is) (a := sa) hown' hstr'.1 hstr'.2
    (g := { method := m, pc := pc + 4, locals := ls, stack := .ref T.heap.size :: .ref T.heap.size :: rest, locked := none }) rfl d4' _ hsteps
end Ends
section Bodies
variable {l : Launch}
theorem vx_ofW {y : MethodName} {ws ws' : List Cond} {rm : Room} {Pc : Array Value → State → Prop} {Qc : Array Value → State → Outcome → State → Prop} {XC : String → State → State → Prop} {mc ms : Nat} {free : Addr → Prop} {cc : ByteArray} {maxL : Nat} {ret : Option FieldType}
    (hy : plainName y.cls = true) (hw : ws = Cond.code y cc maxL ret :: ws')
    (body : ∀ p e s m args below meth c s₁, BodyLoose p l y (headSpec ws rm) cc maxL ret e s m args below meth c s₁ → c.maxLocals = maxL → (∀ x ∈ c.exceptionTable.toList, False) → Pc args s →
      W p l e (headSpec ws rm).room s m args below meth c s.heap [] 0 0 (vx_MQ below Qc XC args s mc ms free) (entryFrame m args maxL)) : vx_Met l y ws rm Pc Qc XC mc ms free := by
  refine MetFree.of_bodyS (code := cc) (maxLocals := maxL) (ret := ret) hy ?_ ?_
  · intro args s m h hn
    obtain ⟨meth, c, h1, h2, h3, h4, h5, h6, -, -⟩ := Cond.code_spec hn (atoms_spec (ws := ws) h _ (by rw [hw]; exact List.mem_cons_self))
    exact ⟨meth, c, h1, h2, h3, h4, h5, h6⟩
  · intro p e s m args below meth c s₁ B hml hP _
    have hh0 : s₁.heap = s.heap := by rw [B.state]; rfl
    have ht : ∀ x ∈ c.exceptionTable.toList, False := by
      obtain ⟨meth9, c9, h1, h2, -, -, -, -, h7, -⟩ := Cond.code_spec B.named (atoms_spec (ws := ws) B.pre _ (by rw [hw]; exact List.mem_cons_self))
      cases Option.some.inj (h1.symm.trans B.method)
      cases Option.some.inj (h2.symm.trans (Stand.of_body B).code)
      intro x hx
      rw [Array.isEmpty_iff.mp h7] at hx
      cases hx
    obtain ⟨t, a1, o, b1, b2, b3⟩ := body p e s m args below meth c s₁ B hml ht hP s₁ hh0 (Stand.of_body B)
    exact ⟨t, o, a1, b1, b2, b3⟩
/-- the table of a body with handlers -/
theorem vx_table {p : Program} {x y : MethodName} {S : Spec} {cc bytes : ByteArray} {maxL maxL' : Nat} {ret ret' : Option FieldType} {e : Env} {s s₁ : State} {m : MethodId} {args : Array Value} {below : List Frame} {meth : Method} {c : Code} {hh : List (Nat × Nat × Nat × Nat)}
    (B : BodyLoose p l y S cc maxL ret e s m args below meth c s₁) (h : (Cond.codeWith y bytes maxL' ret' hh).before args s = true) : c.exceptionTable.toList = tableOf hh := by
  obtain ⟨m9, meth9, c9, hn9, h1, h2, -, -, h6, -⟩ := Cond.codeWith_spec h
  cases Option.some.inj (hn9.symm.trans B.named)
  cases Option.some.inj (h1.symm.trans B.method)
  cases Option.some.inj (h2.symm.trans (Stand.of_body B).code)
  rw [← h6, table_eq]
end Bodies
end VXA
/-! ===== END ===== -/
/-! ===== BEGIN a static call of a method with an exception table ===== -/
section VXS
variable {p : Program} {l : Launch} {e : Env} {R : Room} {s : State} {m : MethodId} {args : Array Value} {below : List Frame} {meth : Method} {c : Code} {T : State} {H : Heap} {locs : List Loc} {cells slots : Nat}
abbrev vx_CSW (R : Room) (s : State) (args : Array Value) (own : String) (index : Nat) (y : MethodName) (bytes : ByteArray) (maxL : Nat) (ret : Option FieldType) (hh : List (Nat × Nat × Nat × Nat)) (ws : List Cond) (rm : Room) (mc ms n : Nat) : Prop :=
  (rm.cells = mc ∧ rm.slots = ms ∧ rm.frames + 1 ≤ R.frames ∧ 8 + (maxL + 11) + rm.locals ≤ R.locals ∧ (∀ w ∈ ws, ∀ (a' : Array Value) (U : State), s.WarmedH U.vm → w.before a' U = true) ∧ Cond.codeWith y bytes maxL ret hh ∈ ws) ∧
  (Cond.codeWith y bytes maxL ret hh).before args s = true ∧ (Cond.initialized y.cls).before args s = true ∧ (y.cls ≠ "java/lang/invoke/MethodHandle" ∧ y.cls ≠ "java/lang/invoke/VarHandle") ∧
  (∀ sig, parseMethodDescriptor y.desc = some sig → n = sig.parameters.length) ∧ (Cond.methodLink own index y).before args s = true ∧ (Cond.static y).before args s = true
theorem vx_cwSW {own : String} {index maxL mc ms : Nat} {y : MethodName} {bytes : ByteArray} {ret : Option FieldType} {hh : List (Nat × Nat × Nat × Nat)} {Ts ws ws' : List Cond} {rm : Room} (n : Nat) (ht : ∀ w ∈ Ts, w.before args s = true) (hT : GoodIn Ts (va_wsS own index y ws)) (hw : ws = Cond.codeWith y bytes maxL ret hh :: ws') (hrc : rm.cells = mc) (hrs : rm.slots = ms)
    (hd : y.cls ≠ "java/lang/invoke/MethodHandle" ∧ y.cls ≠ "java/lang/invoke/VarHandle" ∧ (parseMethodDescriptor y.desc).map (fun d => d.parameters.length) = some n) (hR : rm.frames + 1 ≤ R.frames ∧ 8 + (maxL + 11) + rm.locals ≤ R.locals) :
    vx_CSW R s args own index y bytes maxL ret hh ws rm mc ms n := by
  have ok : ∀ w ∈ va_wsS own index y ws, w.before args s = true := fun w h => ht w (hT w h).1
  have hG : GoodIn Ts ws := fun w h => hT w (by unfold va_wsS; exact List.mem_append_right _ h)
  have hc : Cond.codeWith y bytes maxL ret hh ∈ ws := by rw [hw]; exact List.mem_cons_self
  refine ⟨⟨hrc, hrs, hR.1, hR.2, pay_in ht hG, hc⟩, ht _ (hG _ hc).1, ok _ (by simp [va_wsS]), ⟨hd.1, hd.2.1⟩, fun sig h => ?_, ok _ (by simp [va_wsS]), ok _ (by simp [va_wsS])⟩
  have h2 := hd.2.2
  rw [h] at h2
  exact (Option.some.inj h2).symm
theorem vx_callSW (X : Stand p l e R s m args below meth c T locs cells slots) (hexec : p.tables.exec = Jvm.exec) {own : String} {index : Nat} {y : MethodName} {bytes : ByteArray} {maxL : Nat} {ret : Option FieldType} {hh : List (Nat × Nat × Nat × Nat)}
    (hown : s.vm.findClass own = some m.cls) (hlink : (Cond.methodLink own index y).before args s = true) (hstat : (Cond.static y).before args s = true) (hinit : (Cond.initialized y.cls).before args s = true)
    (hcode : (Cond.codeWith y bytes maxL ret hh).before args s = true) (hy : y.cls ≠ "java/lang/invoke/MethodHandle" ∧ y.cls ≠ "java/lang/invoke/VarHandle")
    {W9 : Nat} {Pre : Pt → Array Value → Prop} {Post : Pt → Array Value → Option Value → Pt → Prop} (hK : Back l R p e below s args y 3 W9 Pre Post)
    {g : JFrame} (hg : g.method = m) (hsize : g.locals.size = c.maxLocals) {argsL rest : List Value} (hlen : ∀ sig, parseMethodDescriptor y.desc = some sig → argsL.length = sig.parameters.length)
    (hstack : g.stack = argsL.reverse ++ rest) (hW : 2 * g.monitorRoom + (rest.map fun v => v.category).sum ≤ W9) (hdg : decode c.code g.pc = .ok (.invokestatic index, 3))
    (hpre : ∀ vm₁, s.WarmedH vm₁ → Pre ⟨T.setVm vm₁, locs, cells, slots⟩ argsL.toArray) :
    ∃ (v : Option Value) (vm₁ : Vm) (B : Pt), s.WarmedH vm₁ ∧ Stand p l e R s m args below meth c B.U B.locs B.cells B.slots ∧ Post ⟨T.setVm vm₁, locs, cells, slots⟩ argsL.toArray v B ∧
      ∀ target, Steps p.tables e below (B.U.setTop { g with pc := g.pc + 3, stack := v.toList ++ rest }) target → Steps p.tables e below (T.setTop g) target := by
  obtain ⟨mk, methM, cM, hnamed, hmethM, -, -, -, -, -, -, hsigM⟩ := Cond.codeWith_spec hcode
  have hstatic : methM.isStatic = true := Cond.static_spec hnamed hmethM hstat
  obtain ⟨kP, hkP, -⟩ := className_of_methodNamed hnamed
  have hinitP : kP.init = .initialized := Cond.initialized_spec (findClass_of_methodNamed hnamed) hkP hinit
  obtain ⟨vm₁, X₁, hstep₁⟩ := X.invokestatic hexec hown hlink hnamed hmethM hstatic hkP hinitP hy (g := g) hg (argsL := argsL) (rest := rest) (hlen _ hsigM) hstack hdg
  obtain ⟨v, B, X', hpost, hsteps⟩ := hK m meth c ⟨T.setVm vm₁, locs, cells, slots⟩ { g with stack := rest } (.invokestatic index) mk argsL.toArray X₁ hg hsize hdg hW (X₁.named hnamed) (hpre vm₁ X₁.warmed)
  exact ⟨v, vm₁, B, X₁.warmed, X', hpost, fun target h => hstep₁ _ fun acts => by rw [doInvoke_state]; exact hsteps.trans h⟩
theorem vx_runSW {y : MethodName} {bytes cc : ByteArray} {maxL nL mc ms n index : Nat} {ret : Option FieldType} {hh : List (Nat × Nat × Nat × Nat)} {ws : List Cond} {rm : Room} {Pc : Array Value → State → Prop} {Qc : Array Value → State → Outcome → State → Prop} {free : Addr → Prop} {Ts : List Cond} {own : String} {As rest : List Value} {g : JFrame}
    (S : CallFix p m c cc nL s args Ts own) (hM : Met l y ws rm Pc Qc mc ms free) (cw : vx_CSW R s args own index y bytes maxL ret hh ws rm mc ms n) (hp : PreS s H Pc As)
    (hg : g.method = m) (hn : As.length = n) (hsize : g.locals.size = nL) (hstack : g.stack = As.reverse ++ rest) (hW : 2 * g.monitorRoom + (rest.map fun v => v.category).sum ≤ 8) (hdg : decode cc g.pc = .ok (.invokestatic index, 3)) (hf : cells + mc ≤ R.cells ∧ slots + ms ≤ R.slots) :
    va_Run p l e R s m args below meth c H locs cells slots mc ms g rest (Qc As.toArray) (free) := by
  obtain ⟨⟨hrc, hrs, hfr, hlo, hws, hcw⟩, hcode, hini, hy, hlen, hl, hstt⟩ := cw
  have hK : Back l R p e below s args y 3 8 (PreOf R mc ms Pc) (PostOf Qc mc ms free) := va_backW (hh := hh) (bytes := bytes) (maxL := maxL) (ret := ret) hM hp.1 hrc hrs hfr hlo hws hcw (fun a' U hW => word_at hW (Or.inl (by first | rfl | simp [Cond.onTables, Cond.keeps, Cond.steady])) hini)
  obtain ⟨hx, hb, hml, ho, -⟩ := S
  intro T hT X
  obtain ⟨v, vm₁, ⟨U', l2, c2, s2⟩, hW₁, X', ⟨g', mk, t, L, e1, e2, hq, h1, hL, h2, h3⟩, st⟩ := vx_callSW X hx (hh := hh) (bytes := bytes) (maxL := maxL) (ret := ret) ho hl hstt hini hcode hy hK hg (hsize.trans hml.symm) (argsL := As) (rest := rest) (fun sig h => hn.trans (hlen sig h)) hstack hW (by rw [hb]; exact hdg)
    (fun vm₁ hW₁ => ⟨hf.1, hf.2, hp.2 (T.setVm vm₁) hT hW₁⟩)
  dsimp only [Pt.U, Pt.locs, Pt.cells, Pt.slots] at X' e1 e2 h1 h2 h3 st
  subst h1; subst h2; subst h3
  exact ⟨v, (T.setVm vm₁).calling g' mk As.toArray, t, U', L, hT, X', hL, e1, e2, hq, st⟩
/-- not caught here, past rows that name other classes: it goes on to the caller -/
theorem vx_outP {p : Program} {l : Launch} {e : Env} {R : Room} {s : State} {m : MethodId} {args : Array Value} {below : List Frame} {meth : Method} {c : Code} {H : Heap} {locs : List Loc} {cells slots : Nat} {free : Addr → Prop} {ls : Array Slot} {rest : List Value} {Qc : Array Value → State → Outcome → State → Prop} {XC : String → State → State → Prop}
    {pc : Nat} {own E : String} {ce : Cell} {q : Addr} {mc ms : Nat} (hown : s.vm.findClass own = some m.cls) (hlocks : meth.locks = false)
    (hpass : ∀ z ∈ c.exceptionTable.toList, covers z pc = false ∨ (z.catchType ≠ 0 ∧ ∃ nm : String, (Cond.classLink own z.catchType nm).before args s = true ∧ va_Nc E nm s)) (hcell : H[q]? = some ce) (hv : ce.vm = .none) (hcl : s.vm.findClass E = some ce.cls)
    (hx : ∀ t : State, t.heap = H → s.vm.Alike t.vm → XC E s t) (hf : ∀ z ∈ locs, free z.base) (hc : cells ≤ mc) (hs : slots ≤ ms) :
    vx_W p l e R s m args below meth c H locs cells slots (vx_MQ below Qc XC args s mc ms free) (F0 m pc ls rest) q := by
  intro T hT X
  have hpl : e.platform.magicAccessors = ({} : Platform).magicAccessors := by rw [X.admits.platform]
  obtain ⟨vm', hW', X', st⟩ := X.outThrough hlocks q (g := F0 m pc ls rest) rfl rfl rfl (cell := ce) (by rw [hT]; exact hcell) (by rw [hv]; rfl)
    (by obtain ⟨k9, h9, -⟩ := Vm.findClass_spec hcl; exact ⟨k9, h9⟩) (fun z hz => by
      rcases hpass z hz with h | ⟨hz0, nm, hl1, hn1⟩
      · exact Or.inl h
      · obtain ⟨c6, hc6, hcl6⟩ := Cond.classLink_spec hown hl1 e.platform hpl
        obtain ⟨a8, b8, h1, h2, h3⟩ := hn1
        cases Option.some.inj (h1.symm.trans hcl)
        cases Option.some.inj (h2.symm.trans hc6)
        exact Or.inr ⟨hz0, _, hcl6, h3⟩)
  obtain ⟨g₀, hfr⟩ := X'.frames_eq
  have hcell9 : ((T.setVm vm').setFrames (.throwing q :: below)).heap[q]? = some ce := by
    show T.heap[q]? = some ce
    rw [hT]; exact hcell
  have hend : Ended ((T.setVm vm').setFrames (.throwing q :: below)) below (.threw q) := State.frames_setFrames _ (State.cur_lt_of_frames hfr)
  refine ⟨(T.setVm vm').setFrames (.throwing q :: below), ?_, .threw q, X'.here.running, hend, Or.inr ⟨q, rfl, E, ce, locs, hx _ hT (X'.ends _).1.alike, hcell9, hv, hcl, (X'.ends _).1, (X'.ends _).2.mono hc hs, hf⟩⟩
  rw [X.pushThrowing_eq]
  exact st
/-- a thing of a world lies in the heap -/
theorem vx_lt {D : va_G} {cl : List vw_C} {ws : va_W} {H1 : Heap} (h : va_P D cl ws H1) {k : Nat} {q : Nat × va_E} (hk : ws[k]? = some q) : q.1 < H1.size := (h k q hk).lt
end VXS
/-! ===== END ===== -/
/-! ===== BEGIN methods with a table of their own: called by a name, returning or throwing ===== -/
section VXH
/-! vx_backW, vx_callVX, vx_callSX, vx_callVW, vx_runVW, vx_runVX, vx_runSX, vx_ofWH follow the same proofs as their sisters above (Free/Laws.lean, Shelf42/LK1.lean); vx_outP calls Shelf42/NT130.lean (outThrough). -/
section
variable {l : Launch} {R : Room} {p : Program} {e : Env} {below : List Frame} {s : State} {sargs : Array Value} {y : MethodName} {len W9 : Nat}
theorem vx_backW {ws : List Cond} {rm : Room} {Pc : Array Value → State → Prop} {Qc : Array Value → State → Outcome → State → Prop} {XC : String → State → State → Prop} {mc ms : Nat} {free : Addr → Prop} {bytes : ByteArray} {maxL : Nat} {ret : Option FieldType} {hh : List (Nat × Nat × Nat × Nat)}
    (hM : vx_Met l y ws rm Pc Qc XC mc ms free) (hblind : FrameBlind Pc) (hrc : rm.cells = mc) (hrs : rm.slots = ms)
    (hframes : rm.frames + 1 ≤ R.frames) (hlocals : W9 + (maxL + 11) + rm.locals ≤ R.locals)
    (hws : ∀ w ∈ ws, ∀ a' U, s.WarmedH U.vm → w.before a' U = true) (hcode : Cond.codeWith y bytes maxL ret hh ∈ ws) (hinit : ∀ a' U, s.WarmedH U.vm → (Cond.initialized y.cls).before a' U = true) :
    vx_Back l R p e below s sargs y len W9 (PreOf R mc ms Pc) (PostOf Qc mc ms free) (vx_Post XC mc ms free) := by
  intro m meth c A g ig mk a X hg hsize hdg hW hn hp
  have h1 : (headSpec ws rm).pre.before a A.U = true := atoms_intro fun w hw => hws w hw _ _ X.warmed
  have h2 : (Cond.codeWith y bytes maxL ret hh).before a A.U = true := hws _ hcode _ _ X.warmed
  have h3 : (Cond.initialized y.cls).before a A.U = true := hinit _ _ X.warmed
  have h4 : A.cells + (headSpec ws rm).room.cells ≤ R.cells := by rw [show (headSpec ws rm).room.cells = mc from hrc]; exact hp.1
  have h5 : A.slots + (headSpec ws rm).room.slots ≤ R.slots := by rw [show (headSpec ws rm).room.slots = ms from hrs]; exact hp.2.1
  have hPc : Pc a (A.U.calling g mk a) := hblind _ _ _ _ hp.2.2
  obtain ⟨U, Ls, c0, s0⟩ := A
  dsimp only [Pt.U, Pt.locs, Pt.cells, Pt.slots] at h1 h2 h3 h4 h5 X hn hPc ⊢
  obtain ⟨m9, methY, cY, hn9, hmY, hcY, -, hlY, -⟩ := Cond.codeWith_spec h2
  cases Option.some.inj (hn9.symm.trans hn)
  obtain ⟨kY, hkY, -⟩ := className_of_methodNamed hn
  have hinitY : kY.init = .initialized := Cond.initialized_spec (findClass_of_methodNamed hn) hkY h3
  have h : At U g.method c below := by rw [hg]; exact X.here
  have hlocals9 : W9 + (maxL + 11) + (headSpec ws rm).room.locals ≤ R.locals := hlocals
  have happ : (headSpec ws rm).appliesLoose y e.platform (U.calling g mk a) = true :=
    Spec.appliesLoose_calling (g := g) h hdg hn hkY hinitY
      (X.room_calling (g := g) (R' := (headSpec ws rm).room) hsize hmY hcY hframes (by rw [hlY]; omega) h4 h5) h1
  obtain ⟨mid, hmid⟩ := h.above
  have hfr : (U.setTop g).frames = (.java g :: mid) ++ below := by rw [State.frames_setTop' g h.top, hmid]; rfl
  obtain ⟨o, s₂, hsteps, -, hend, hq⟩ := Steps.callFree hM p X.admits X.cas X.clock (acts := []) hfr happ hPc trivial
  have hq' : vx_Q Qc XC mc ms free a (U.calling g mk a) o s₂ := hq
  rw [State.frames_setTop' g h.top] at hend
  obtain ⟨g₀, hg0⟩ := Option.isSome_iff_exists.mp h.top
  obtain ⟨r, hr⟩ := State.topJava?_eq_some.mp hg0
  have hr' : (({ U with heap := s₂.heap, slotsUsed := s₂.slotsUsed } : State).setVm s₂.vm).frames = .java g₀ :: r := hr
  rcases hq' with ⟨hqc, L, hfe, hL⟩ | ⟨q, rfl, E, ce, L, hx, hce, hcv, hcl, hW₂, hsm, hL⟩
  · obtain ⟨⟨v, rfl⟩, hW₂, e2, q2, q3, q4, q5, q6⟩ := id hfe
    have e3 : s₂ = ({ (U.calling g mk a).setFrames s₂.frames with heap := s₂.heap, slotsUsed := s₂.slotsUsed } : State).setVm s₂.vm := by
      have : s₂ = ({ s₂ with vm := (U.calling g mk a).vm } : State).setVm s₂.vm := rfl
      rw [e2] at this
      exact this
    obtain ⟨c₂, i₂, len₂, hc₂, hd₂, hf₂⟩ := hend
    have hW' : U.WarmedH s₂.vm := hW₂
    have hcc : c₂ = c := by
      have h1 : s₂.code? g.method = U.code? g.method := by
        rw [State.code?_eq, State.code?_eq, hW'.alike.method?]
      exact Option.some.inj (hc₂.symm.trans (h1.trans h.code))
    subst hcc
    have hlen : len₂ = len := by rw [hdg] at hd₂; cases hd₂; rfl
    subst hlen
    have hs₂ : s₂ = (({ U with heap := s₂.heap, slotsUsed := s₂.slotsUsed } : State).setVm s₂.vm).setTop { g with pc := g.pc + len₂, stack := v.toList ++ g.stack } := by
      refine e3.trans ?_
      rw [hf₂, State.calling_eq h.top, State.setFrames_setFrames, State.setTop_of_frames _ hr', hr]
      rfl
    have hsame : U.sameButNew ({ U with heap := s₂.heap, slotsUsed := s₂.slotsUsed } : State) L mc ms := by
      refine ⟨?_, q2, q3, q4, q5, q6⟩
      obtain ⟨t, ht, -⟩ := State.frames_cons hr
      show ({ U with heap := s₂.heap, slotsUsed := s₂.slotsUsed } : State) = { U.setFrames U.frames with heap := s₂.heap, slotsUsed := s₂.slotsUsed }
      rw [State.setFrames_self ht]
    subst hg
    refine Or.inl ⟨v, ⟨(({ U with heap := s₂.heap, slotsUsed := s₂.slotsUsed } : State).setVm s₂.vm), Ls ++ L, c0 + mc, s0 + ms⟩,
      ⟨X.admits, X.cas, X.clock, X.frames, X.room, X.hears, X.method, X.code, (X.here.setHeapUsed s₂.heap s₂.slotsUsed).setVm hW'.alike, X.tail, State.WarmedH.trans X.warmed hW', X.limits, X.bytes, X.same.trans (hsame.setVm s.vm)⟩,
      ⟨g, mk, s₂, L, rfl, rfl, hqc, rfl, hL, rfl, rfl⟩, ?_⟩
    show Steps p.tables e below _ ((({ U with heap := s₂.heap, slotsUsed := s₂.slotsUsed } : State).setVm s₂.vm).setTop { g with pc := g.pc + len₂, stack := v.toList ++ g.stack })
    rw [← hs₂]
    exact hsteps
  · obtain ⟨e2, q2, q3, q4, q5, q6⟩ := id hsm
    have e3 : s₂ = ({ (U.calling g mk a).setFrames s₂.frames with heap := s₂.heap, slotsUsed := s₂.slotsUsed } : State).setVm s₂.vm := by
      have : s₂ = ({ s₂ with vm := (U.calling g mk a).vm } : State).setVm s₂.vm := rfl
      rw [e2] at this
      exact this
    have hf₂ : s₂.frames = .throwing q :: .java g :: U.frames.tail := hend
    have hW' : U.WarmedH s₂.vm := hW₂
    have hs₂ : s₂ = ((({ U with heap := s₂.heap, slotsUsed := s₂.slotsUsed } : State).setVm s₂.vm).setTop g).pushFrame (.throwing q) := by
      refine e3.trans ?_
      rw [hf₂, State.calling_eq h.top, State.setFrames_setFrames, State.pushFrame, State.frames_setTop _ hr', State.setTop_of_frames _ hr', State.setFrames_setFrames, hr]
      rfl
    have hsame : U.sameButNew ({ U with heap := s₂.heap, slotsUsed := s₂.slotsUsed } : State) L mc ms := by
      refine ⟨?_, q2, q3, q4, q5, q6⟩
      obtain ⟨t, ht, -⟩ := State.frames_cons hr
      show ({ U with heap := s₂.heap, slotsUsed := s₂.slotsUsed } : State) = { U.setFrames U.frames with heap := s₂.heap, slotsUsed := s₂.slotsUsed }
      rw [State.setFrames_self ht]
    subst hg
    refine Or.inr ⟨q, ⟨(({ U with heap := s₂.heap, slotsUsed := s₂.slotsUsed } : State).setVm s₂.vm), Ls ++ L, c0 + mc, s0 + ms⟩,
      ⟨X.admits, X.cas, X.clock, X.frames, X.room, X.hears, X.method, X.code, (X.here.setHeapUsed s₂.heap s₂.slotsUsed).setVm hW'.alike, X.tail, State.WarmedH.trans X.warmed hW', X.limits, X.bytes, X.same.trans (hsame.setVm s.vm)⟩,
      ⟨g, mk, s₂, L, E, ce, rfl, rfl, hx, hce, hcv, hcl, rfl, hL, rfl, rfl⟩, ?_⟩
    show Steps p.tables e below _ (((({ U with heap := s₂.heap, slotsUsed := s₂.slotsUsed } : State).setVm s₂.vm).setTop g).pushFrame (.throwing q))
    rw [← hs₂]
    exact hsteps
end
variable {p : Program} {l : Launch} {e : Env} {R : Room} {s : State} {m : MethodId} {args : Array Value} {below : List Frame} {meth : Method} {c : Code} {T : State} {H : Heap} {locs : List Loc} {cells slots : Nat}
theorem vx_callVX (X : Stand p l e R s m args below meth c T locs cells slots) (hexec : p.tables.exec = Jvm.exec) {own C : String} {index : Nat} {y : MethodName} {bytes : ByteArray} {maxL : Nat} {ret : Option FieldType} {hh : List (Nat × Nat × Nat × Nat)}
    (hown : s.vm.findClass own = some m.cls) (hlink : (Cond.methodLink own index y).before args s = true) (hinst : (Cond.instanceMethod y).before args s = true) (hsel : (Cond.selects C y y).before args s = true)
    (hcode : (Cond.codeWith y bytes maxL ret hh).before args s = true) (hy : y.cls ≠ "java/lang/invoke/MethodHandle" ∧ y.cls ≠ "java/lang/invoke/VarHandle")
    {W9 : Nat} {Pre : Pt → Array Value → Prop} {Post : Pt → Array Value → Option Value → Pt → Prop} {PostX : Pt → Array Value → Addr → Pt → Prop} (hK : vx_Back l R p e below s args y 3 W9 Pre Post PostX)
    {b : Addr} {cellB : Cell} (hcell : T.heap[b]? = some cellB) (hobj : cellB.vm.isStatics = false) (hcls : s.vm.findClass C = some cellB.cls)
    {g : JFrame} (hg : g.method = m) (hsize : g.locals.size = c.maxLocals) {argsL rest : List Value} (hlen : ∀ sig, parseMethodDescriptor y.desc = some sig → argsL.length = sig.parameters.length)
    (hstack : g.stack = argsL.reverse ++ .ref b :: rest) (hW : 2 * g.monitorRoom + (rest.map fun v => v.category).sum ≤ W9) (hdg : decode c.code g.pc = .ok (.invokevirtual index, 3))
    (hpre : ∀ vm₁, s.WarmedH vm₁ → Pre ⟨T.setVm vm₁, locs, cells, slots⟩ (Value.ref b :: argsL).toArray) :
    (∃ (v : Option Value) (vm₁ : Vm) (B : Pt), s.WarmedH vm₁ ∧ Stand p l e R s m args below meth c B.U B.locs B.cells B.slots ∧ Post ⟨T.setVm vm₁, locs, cells, slots⟩ (Value.ref b :: argsL).toArray v B ∧
      ∀ target, Steps p.tables e below (B.U.setTop { g with pc := g.pc + 3, stack := v.toList ++ rest }) target → Steps p.tables e below (T.setTop g) target) ∨
    (∃ (q : Addr) (vm₁ : Vm) (B : Pt), s.WarmedH vm₁ ∧ Stand p l e R s m args below meth c B.U B.locs B.cells B.slots ∧ PostX ⟨T.setVm vm₁, locs, cells, slots⟩ (Value.ref b :: argsL).toArray q B ∧
      Steps p.tables e below (T.setTop g) ((B.U.setTop { g with stack := rest }).pushFrame (.throwing q))) := by
  obtain ⟨mk, methM, hnamed, hmethM, hstM, habM⟩ := Cond.instanceMethod_spec hinst
  obtain ⟨m8, methM', cM, hn8, hmethM', -, -, -, -, -, -, hsigM⟩ := Cond.codeWith_spec hcode
  cases Option.some.inj (hn8.symm.trans hnamed)
  cases hmethM.symm.trans hmethM'
  obtain ⟨c2, r2, m2, q1, q2, q3, q4, kP, hkP, hkPi⟩ := Cond.selects_spec hsel
  cases hcls.symm.trans q1
  cases (State.methodFound?_of_named hnamed hy).symm.trans q2
  cases hnamed.symm.trans q3
  have hselP : selectMethod e.platform s.vm cellB.cls mk = .method mk := by rw [Launch.admits_selectMethod X.admits]; exact q4
  obtain ⟨vm₁, X₁, hstep₁⟩ := X.invokevirtual hexec hown hlink hnamed hmethM hstM hkP hkPi hy (a := b) (cell := cellB) hcell
    (fun z h => by rw [h] at hobj; cases hobj) hselP hmethM habM hkP hkPi (g := g) hg (argsL := argsL) (rest := rest) (hlen _ hsigM) hstack hdg
  rcases hK m meth c ⟨T.setVm vm₁, locs, cells, slots⟩ { g with stack := rest } (.invokevirtual index) mk (Value.ref b :: argsL).toArray X₁ hg hsize hdg hW (X₁.named hnamed) (hpre vm₁ X₁.warmed) with ⟨v, B, X', hpost, hsteps⟩ | ⟨q, B, X', hpost, hsteps⟩
  · exact Or.inl ⟨v, vm₁, B, X₁.warmed, X', hpost, fun target h => hstep₁ _ fun acts => by rw [doInvoke_state]; exact hsteps.trans h⟩
  · exact Or.inr ⟨q, vm₁, B, X₁.warmed, X', hpost, hstep₁ _ fun acts => by rw [doInvoke_state]; exact hsteps⟩
theorem vx_callSX (X : Stand p l e R s m args below meth c T locs cells slots) (hexec : p.tables.exec = Jvm.exec) {own : String} {index : Nat} {y : MethodName} {bytes : ByteArray} {maxL : Nat} {ret : Option FieldType} {hh : List (Nat × Nat × Nat × Nat)}
    (hown : s.vm.findClass own = some m.cls) (hlink : (Cond.methodLink own index y).before args s = true) (hstat : (Cond.static y).before args s = true) (hinit : (Cond.initialized y.cls).before args s = true)
    (hcode : (Cond.codeWith y bytes maxL ret hh).before args s = true) (hy : y.cls ≠ "java/lang/invoke/MethodHandle" ∧ y.cls ≠ "java/lang/invoke/VarHandle")
    {W9 : Nat} {Pre : Pt → Array Value → Prop} {Post : Pt → Array Value → Option Value → Pt → Prop} {PostX : Pt → Array Value → Addr → Pt → Prop} (hK : vx_Back l R p e below s args y 3 W9 Pre Post PostX)
    {g : JFrame} (hg : g.method = m) (hsize : g.locals.size = c.maxLocals) {argsL rest : List Value} (hlen : ∀ sig, parseMethodDescriptor y.desc = some sig → argsL.length = sig.parameters.length)
    (hstack : g.stack = argsL.reverse ++ rest) (hW : 2 * g.monitorRoom + (rest.map fun v => v.category).sum ≤ W9) (hdg : decode c.code g.pc = .ok (.invokestatic index, 3))
    (hpre : ∀ vm₁, s.WarmedH vm₁ → Pre ⟨T.setVm vm₁, locs, cells, slots⟩ argsL.toArray) :
    (∃ (v : Option Value) (vm₁ : Vm) (B : Pt), s.WarmedH vm₁ ∧ Stand p l e R s m args below meth c B.U B.locs B.cells B.slots ∧ Post ⟨T.setVm vm₁, locs, cells, slots⟩ argsL.toArray v B ∧
      ∀ target, Steps p.tables e below (B.U.setTop { g with pc := g.pc + 3, stack := v.toList ++ rest }) target → Steps p.tables e below (T.setTop g) target) ∨
    (∃ (q : Addr) (vm₁ : Vm) (B : Pt), s.WarmedH vm₁ ∧ Stand p l e R s m args below meth c B.U B.locs B.cells B.slots ∧ PostX ⟨T.setVm vm₁, locs, cells, slots⟩ argsL.toArray q B ∧
      Steps p.tables e below (T.setTop g) ((B.U.setTop { g with stack := rest }).pushFrame (.throwing q))) := by
  obtain ⟨mk, methM, cM, hnamed, hmethM, -, -, -, -, -, -, hsigM⟩ := Cond.codeWith_spec hcode
  have hstatic : methM.isStatic = true := Cond.static_spec hnamed hmethM hstat
  obtain ⟨kP, hkP, -⟩ := className_of_methodNamed hnamed
  have hinitP : kP.init = .initialized := Cond.initialized_spec (findClass_of_methodNamed hnamed) hkP hinit
  obtain ⟨vm₁, X₁, hstep₁⟩ := X.invokestatic hexec hown hlink hnamed hmethM hstatic hkP hinitP hy (g := g) hg (argsL := argsL) (rest := rest) (hlen _ hsigM) hstack hdg
  rcases hK m meth c ⟨T.setVm vm₁, locs, cells, slots⟩ { g with stack := rest } (.invokestatic index) mk argsL.toArray X₁ hg hsize hdg hW (X₁.named hnamed) (hpre vm₁ X₁.warmed) with ⟨v, B, X', hpost, hsteps⟩ | ⟨q, B, X', hpost, hsteps⟩
  · exact Or.inl ⟨v, vm₁, B, X₁.warmed, X', hpost, fun target h => hstep₁ _ fun acts => by rw [doInvoke_state]; exact hsteps.trans h⟩
  · exact Or.inr ⟨q, vm₁, B, X₁.warmed, X', hpost, hstep₁ _ fun acts => by rw [doInvoke_state]; exact hsteps⟩
theorem vx_callVW (X : Stand p l e R s m args below meth c T locs cells slots) (hexec : p.tables.exec = Jvm.exec) {own C : String} {index : Nat} {y : MethodName} {bytes : ByteArray} {maxL : Nat} {ret : Option FieldType} {hh : List (Nat × Nat × Nat × Nat)}
    (hown : s.vm.findClass own = some m.cls) (hlink : (Cond.methodLink own index y).before args s = true) (hinst : (Cond.instanceMethod y).before args s = true) (hsel : (Cond.selects C y y).before args s = true)
    (hcode : (Cond.codeWith y bytes maxL ret hh).before args s = true) (hy : y.cls ≠ "java/lang/invoke/MethodHandle" ∧ y.cls ≠ "java/lang/invoke/VarHandle")
    {W9 : Nat} {Pre : Pt → Array Value → Prop} {Post : Pt → Array Value → Option Value → Pt → Prop} (hK : Back l R p e below s args y 3 W9 Pre Post)
    {b : Addr} {cellB : Cell} (hcell : T.heap[b]? = some cellB) (hobj : cellB.vm.isStatics = false) (hcls : s.vm.findClass C = some cellB.cls)
    {g : JFrame} (hg : g.method = m) (hsize : g.locals.size = c.maxLocals) {argsL rest : List Value} (hlen : ∀ sig, parseMethodDescriptor y.desc = some sig → argsL.length = sig.parameters.length)
    (hstack : g.stack = argsL.reverse ++ .ref b :: rest) (hW : 2 * g.monitorRoom + (rest.map fun v => v.category).sum ≤ W9) (hdg : decode c.code g.pc = .ok (.invokevirtual index, 3))
    (hpre : ∀ vm₁, s.WarmedH vm₁ → Pre ⟨T.setVm vm₁, locs, cells, slots⟩ (Value.ref b :: argsL).toArray) :
    ∃ (v : Option Value) (vm₁ : Vm) (B : Pt), s.WarmedH vm₁ ∧ Stand p l e R s m args below meth c B.U B.locs B.cells B.slots ∧ Post ⟨T.setVm vm₁, locs, cells, slots⟩ (Value.ref b :: argsL).toArray v B ∧
      ∀ target, Steps p.tables e below (B.U.setTop { g with pc := g.pc + 3, stack := v.toList ++ rest }) target → Steps p.tables e below (T.setTop g) target := by
  obtain ⟨mk, methM, hnamed, hmethM, hstM, habM⟩ := Cond.instanceMethod_spec hinst
  obtain ⟨m8, methM', cM, hn8, hmethM', -, -, -, -, -, -, hsigM⟩ := Cond.codeWith_spec hcode
  cases Option.some.inj (hn8.symm.trans hnamed)
  cases hmethM.symm.trans hmethM'
  obtain ⟨c2, r2, m2, q1, q2, q3, q4, kP, hkP, hkPi⟩ := Cond.selects_spec hsel
  cases hcls.symm.trans q1
  cases (State.methodFound?_of_named hnamed hy).symm.trans q2
  cases hnamed.symm.trans q3
  have hselP : selectMethod e.platform s.vm cellB.cls mk = .method mk := by rw [Launch.admits_selectMethod X.admits]; exact q4
  obtain ⟨vm₁, X₁, hstep₁⟩ := X.invokevirtual hexec hown hlink hnamed hmethM hstM hkP hkPi hy (a := b) (cell := cellB) hcell
    (fun z h => by rw [h] at hobj; cases hobj) hselP hmethM habM hkP hkPi (g := g) hg (argsL := argsL) (rest := rest) (hlen _ hsigM) hstack hdg
  obtain ⟨v, B, X', hpost, hsteps⟩ := hK m meth c ⟨T.setVm vm₁, locs, cells, slots⟩ { g with stack := rest } (.invokevirtual index) mk (Value.ref b :: argsL).toArray X₁ hg hsize hdg hW (X₁.named hnamed) (hpre vm₁ X₁.warmed)
  exact ⟨v, vm₁, B, X₁.warmed, X', hpost, fun target h => hstep₁ _ fun acts => by rw [doInvoke_state]; exact hsteps.trans h⟩
abbrev vx_CVW (R : Room) (s : State) (args : Array Value) (own C : String) (index : Nat) (y : MethodName) (bytes : ByteArray) (maxL : Nat) (ret : Option FieldType) (hh : List (Nat × Nat × Nat × Nat)) (ws : List Cond) (rm : Room) (mc ms n : Nat) : Prop :=
  (rm.cells = mc ∧ rm.slots = ms ∧ rm.frames + 1 ≤ R.frames ∧ 8 + (maxL + 11) + rm.locals ≤ R.locals ∧ (∀ w ∈ ws, ∀ (a' : Array Value) (U : State), s.WarmedH U.vm → w.before a' U = true) ∧ Cond.codeWith y bytes maxL ret hh ∈ ws) ∧
  (Cond.codeWith y bytes maxL ret hh).before args s = true ∧ (Cond.initialized y.cls).before args s = true ∧ (y.cls ≠ "java/lang/invoke/MethodHandle" ∧ y.cls ≠ "java/lang/invoke/VarHandle") ∧
  (∀ sig, parseMethodDescriptor y.desc = some sig → n = sig.parameters.length) ∧ (Cond.methodLink own index y).before args s = true ∧ (Cond.instanceMethod y).before args s = true ∧ (Cond.selects C y y).before args s = true
theorem vx_cwVW {own C : String} {index maxL mc ms : Nat} {y : MethodName} {bytes : ByteArray} {ret : Option FieldType} {hh : List (Nat × Nat × Nat × Nat)} {Ts ws ws' : List Cond} {rm : Room} (n : Nat) (ht : ∀ w ∈ Ts, w.before args s = true) (hT : GoodIn Ts (wsV own index C y ws)) (hw : ws = Cond.codeWith y bytes maxL ret hh :: ws') (hrc : rm.cells = mc) (hrs : rm.slots = ms)
    (hd : y.cls = C ∧ y.cls ≠ "java/lang/invoke/MethodHandle" ∧ y.cls ≠ "java/lang/invoke/VarHandle" ∧ (parseMethodDescriptor y.desc).map (fun d => d.parameters.length) = some n) (hR : rm.frames + 1 ≤ R.frames ∧ 8 + (maxL + 11) + rm.locals ≤ R.locals) :
    vx_CVW R s args own C index y bytes maxL ret hh ws rm mc ms n := by
  obtain ⟨hC, hd⟩ := hd
  subst hC
  have ok : ∀ w ∈ wsV own index y.cls y ws, w.before args s = true := fun w h => ht w (hT w h).1
  have hG : GoodIn Ts ws := fun w h => hT w (by unfold wsV; exact List.mem_append_right _ h)
  have hc : Cond.codeWith y bytes maxL ret hh ∈ ws := by rw [hw]; exact List.mem_cons_self
  refine ⟨⟨hrc, hrs, hR.1, hR.2, pay_in ht hG, hc⟩, ht _ (hG _ hc).1, ok _ (by simp [wsV]), ⟨hd.1, hd.2.1⟩, fun sig h => ?_, ok _ (by simp [wsV]), ok _ (by simp [wsV]), ok _ (by simp [wsV])⟩
  have h2 := hd.2.2
  rw [h] at h2
  exact (Option.some.inj h2).symm
theorem vx_runVW {y : MethodName} {bytes cc : ByteArray} {maxL nL mc ms n index : Nat} {ret : Option FieldType} {hh : List (Nat × Nat × Nat × Nat)} {ws : List Cond} {rm : Room} {Pc : Array Value → State → Prop} {Qc : Array Value → State → Outcome → State → Prop} {free : Addr → Prop} {Ts : List Cond} {own C : String} {b : Addr} {As rest : List Value} {g : JFrame}
    (S : CallFix p m c cc nL s args Ts own) (hM : Met l y ws rm Pc Qc mc ms free) (cw : vx_CVW R s args own C index y bytes maxL ret hh ws rm mc ms n) (hp : PreV s H C b Pc As)
    (hg : g.method = m) (hn : As.length = n) (hsize : g.locals.size = nL) (hstack : g.stack = As.reverse ++ .ref b :: rest) (hW : 2 * g.monitorRoom + (rest.map fun v => v.category).sum ≤ 8) (hdg : decode cc g.pc = .ok (.invokevirtual index, 3)) (hf : cells + mc ≤ R.cells ∧ slots + ms ≤ R.slots) :
    va_Run p l e R s m args below meth c H locs cells slots mc ms g rest (Qc (Value.ref b :: As).toArray) free := by
  obtain ⟨⟨hrc, hrs, hfr, hlo, hws, hcw⟩, hcode, hini, hy, hlen, hl, hin, hse⟩ := cw
  have hK : Back l R p e below s args y 3 8 (PreOf R mc ms Pc) (PostOf Qc mc ms free) := va_backW (hh := hh) (bytes := bytes) (maxL := maxL) (ret := ret) hM hp.1 hrc hrs hfr hlo hws hcw (fun a' U hW => word_at hW (Or.inl (by first | rfl | simp [Cond.onTables, Cond.keeps, Cond.steady])) hini)
  obtain ⟨hx, hb, hml, ho, -⟩ := S
  obtain ⟨-, ⟨cellB, hcB, hoB, hclB⟩, hPc⟩ := hp
  intro T hT X
  obtain ⟨v, vm₁, ⟨U', l2, c2, s2⟩, hW₁, X', ⟨g', mk, t, L, e1, e2, hq, h1, hL, h2, h3⟩, st⟩ := vx_callVW X hx (C := C) (hh := hh) (bytes := bytes) (maxL := maxL) (ret := ret) ho hl hin hse hcode hy hK (by rw [hT]; exact hcB) hoB hclB hg (hsize.trans hml.symm) (argsL := As) (rest := rest) (fun sig h => hn.trans (hlen sig h)) hstack hW (by rw [hb]; exact hdg)
    (fun vm₁ hW₁ => ⟨hf.1, hf.2, hPc (T.setVm vm₁) hT hW₁⟩)
  dsimp only [Pt.U, Pt.locs, Pt.cells, Pt.slots] at X' e1 e2 h1 h2 h3 st
  subst h1; subst h2; subst h3
  exact ⟨v, (T.setVm vm₁).calling g' mk (Value.ref b :: As).toArray, t, U', L, hT, X', hL, e1, e2, hq, st⟩
section
variable {y : MethodName} {bytes cc : ByteArray} {maxL nL mc ms n index : Nat} {ret : Option FieldType} {ws : List Cond} {rm : Room} {Pc : Array Value → State → Prop} {Qc : Array Value → State → Outcome → State → Prop} {XC : String → State → State → Prop} {free : Addr → Prop} {Ts : List Cond} {own C : String} {b : Addr} {As rest : List Value} {g : JFrame}
theorem vx_runVX {hh : List (Nat × Nat × Nat × Nat)} (S : CallFix p m c cc nL s args Ts own) (hM : vx_Met l y ws rm Pc Qc XC mc ms free) (cw : vx_CVW R s args own C index y bytes maxL ret hh ws rm mc ms n) (hp : PreV s H C b Pc As)
    (hg : g.method = m) (hn : As.length = n) (hsize : g.locals.size = nL) (hstack : g.stack = As.reverse ++ .ref b :: rest) (hW : 2 * g.monitorRoom + (rest.map fun v => v.category).sum ≤ 8) (hdg : decode cc g.pc = .ok (.invokevirtual index, 3)) (hf : cells + mc ≤ R.cells ∧ slots + ms ≤ R.slots) :
    vx_Run p l e R s m args below meth c H locs cells slots mc ms g rest (Qc (Value.ref b :: As).toArray) XC free := by
  obtain ⟨⟨hrc, hrs, hfr, hlo, hws, hcw⟩, hcode, hini, hy, hlen, hl, hin, hse⟩ := cw
  have hK : vx_Back l R p e below s args y 3 8 (PreOf R mc ms Pc) (PostOf Qc mc ms free) (vx_Post XC mc ms free) := vx_backW (hh := hh) (bytes := bytes) (maxL := maxL) (ret := ret) hM hp.1 hrc hrs hfr hlo hws hcw (fun a' U hW => word_at hW (Or.inl (by first | rfl | simp [Cond.onTables, Cond.keeps, Cond.steady])) hini)
  obtain ⟨hx, hb, hml, ho, -⟩ := S
  obtain ⟨-, ⟨cellB, hcB, hoB, hclB⟩, hPc⟩ := hp
  intro T hT X
  rcases vx_callVX X hx (C := C) (hh := hh) (bytes := bytes) (maxL := maxL) (ret := ret) ho hl hin hse hcode hy hK (by rw [hT]; exact hcB) hoB hclB hg (hsize.trans hml.symm) (argsL := As) (rest := rest) (fun sig h => hn.trans (hlen sig h)) hstack hW (by rw [hb]; exact hdg)
    (fun vm₁ hW₁ => ⟨hf.1, hf.2, hPc (T.setVm vm₁) hT hW₁⟩) with ⟨v, vm₁, ⟨U', l2, c2, s2⟩, hW₁, X', ⟨g', mk, t, L, e1, e2, hq, h1, hL, h2, h3⟩, st⟩ | ⟨q, vm₁, ⟨U', l2, c2, s2⟩, hW₁, X', ⟨g', mk, t, L, E, ce, e1, e2, hq, hce, hcv, hcl, h1, hL, h2, h3⟩, st⟩
  · dsimp only [Pt.U, Pt.locs, Pt.cells, Pt.slots] at X' e1 e2 h1 h2 h3 st
    subst h1; subst h2; subst h3
    exact Or.inl ⟨v, (T.setVm vm₁).calling g' mk (Value.ref b :: As).toArray, t, U', L, hT, X', hL, e1, e2, hq, st⟩
  · dsimp only [Pt.U, Pt.locs, Pt.cells, Pt.slots] at X' e1 e2 h1 h2 h3 st hcl
    subst h1; subst h2; subst h3
    exact Or.inr ⟨q, (T.setVm vm₁).calling g' mk (Value.ref b :: As).toArray, t, U', L, E, ce, hT, X', hL, e1, e2, hq, hce, hcv, vx_cls hW₁ hcl, st⟩
theorem vx_runSX {hh : List (Nat × Nat × Nat × Nat)} (S : CallFix p m c cc nL s args Ts own) (hM : vx_Met l y ws rm Pc Qc XC mc ms free) (cw : vx_CSW R s args own index y bytes maxL ret hh ws rm mc ms n) (hp : PreS s H Pc As)
    (hg : g.method = m) (hn : As.length = n) (hsize : g.locals.size = nL) (hstack : g.stack = As.reverse ++ rest) (hW : 2 * g.monitorRoom + (rest.map fun v => v.category).sum ≤ 8) (hdg : decode cc g.pc = .ok (.invokestatic index, 3)) (hf : cells + mc ≤ R.cells ∧ slots + ms ≤ R.slots) :
    vx_Run p l e R s m args below meth c H locs cells slots mc ms g rest (Qc As.toArray) XC free := by
  obtain ⟨⟨hrc, hrs, hfr, hlo, hws, hcw⟩, hcode, hini, hy, hlen, hl, hstt⟩ := cw
  have hK : vx_Back l R p e below s args y 3 8 (PreOf R mc ms Pc) (PostOf Qc mc ms free) (vx_Post XC mc ms free) := vx_backW (hh := hh) (bytes := bytes) (maxL := maxL) (ret := ret) hM hp.1 hrc hrs hfr hlo hws hcw (fun a' U hW => word_at hW (Or.inl (by first | rfl | simp [Cond.onTables, Cond.keeps, Cond.steady])) hini)
  obtain ⟨hx, hb, hml, ho, -⟩ := S
  intro T hT X
  rcases vx_callSX X hx (hh := hh) (bytes := bytes) (maxL := maxL) (ret := ret) ho hl hstt hini hcode hy hK hg (hsize.trans hml.symm) (argsL := As) (rest := rest) (fun sig h => hn.trans (hlen sig h)) hstack hW (by rw [hb]; exact hdg)
    (fun vm₁ hW₁ => ⟨hf.1, hf.2, hp.2 (T.setVm vm₁) hT hW₁⟩) with ⟨v, vm₁, ⟨U', l2, c2, s2⟩, hW₁, X', ⟨g', mk, t, L, e1, e2, hq, h1, hL, h2, h3⟩, st⟩ | ⟨q, vm₁, ⟨U', l2, c2, s2⟩, hW₁, X', ⟨g', mk, t, L, E, ce, e1, e2, hq, hce, hcv, hcl, h1, hL, h2, h3⟩, st⟩
  · dsimp only [Pt.U, Pt.locs, Pt.cells, Pt.slots] at X' e1 e2 h1 h2 h3 st
    subst h1; subst h2; subst h3
    exact Or.inl ⟨v, (T.setVm vm₁).calling g' mk As.toArray, t, U', L, hT, X', hL, e1, e2, hq, st⟩
  · dsimp only [Pt.U, Pt.locs, Pt.cells, Pt.slots] at X' e1 e2 h1 h2 h3 st hcl
    subst h1; subst h2; subst h3
    exact Or.inr ⟨q, (T.setVm vm₁).calling g' mk As.toArray, t, U', L, E, ce, hT, X', hL, e1, e2, hq, hce, hcv, vx_cls hW₁ hcl, st⟩
end
end VXH
theorem vx_ofWH {l : Launch} {y : MethodName} {ws ws' : List Cond} {rm : Room} {Pc : Array Value → State → Prop} {Qc : Array Value → State → Outcome → State → Prop} {XC : String → State → State → Prop} {mc ms : Nat} {free : Addr → Prop} {cc : ByteArray} {maxL : Nat} {ret : Option FieldType} {hh : List (Nat × Nat × Nat × Nat)}
    (hy : plainName y.cls = true) (hw : ws = Cond.codeWith y cc maxL ret hh :: ws')
    (body : ∀ p e s m args below meth c s₁, BodyLoose p l y (headSpec ws rm) cc maxL ret e s m args below meth c s₁ → c.maxLocals = maxL → Pc args s →
      W p l e (headSpec ws rm).room s m args below meth c s.heap [] 0 0 (vx_MQ below Qc XC args s mc ms free) (entryFrame m args maxL)) : vx_Met l y ws rm Pc Qc XC mc ms free := by
  refine MetFree.of_bodyS (code := cc) (maxLocals := maxL) (ret := ret) hy ?_ ?_
  · intro args s m h hn
    obtain ⟨m9, meth, c, hn9, h1, h2, h3, h4, -, h5, h6, -⟩ := Cond.codeWith_spec (atoms_spec (ws := ws) h _ (by rw [hw]; exact List.mem_cons_self))
    cases hn.symm.trans hn9
    exact ⟨meth, c, h1, h2, h3, h4, h5, h6⟩
  · intro p e s m args below meth c s₁ B hml hP _
    have hh0 : s₁.heap = s.heap := by rw [B.state]; rfl
    obtain ⟨t, a1, o, b1, b2, b3⟩ := body p e s m args below meth c s₁ B hml hP s₁ hh0 (Stand.of_body B)
    exact ⟨t, o, a1, b1, b2, b3⟩
/-! ===== END ===== -/
end
section
/-! the words of the tables, those that any call keeps (TW) and those that ride on their own (NW) -/
def TW : List Cond := lw_tbl.filter goodWord
def nwOk : Cond → Bool
  | .castable _ _ => true
  | .declares _ => true
  | .methodLinkNest _ _ _ _ => true
  | _ => false
def NW : List Cond := lw_tbl.filter nwOk
theorem tw_of {w : Cond} (h : w ∈ lw_tbl) (g : goodWord w = true) : w ∈ TW := List.mem_filter.mpr ⟨h, g⟩
theorem nw_of {w : Cond} (h : w ∈ lw_tbl) (g : nwOk w = true) : w ∈ NW := List.mem_filter.mpr ⟨h, g⟩
theorem in_t0 {w : Cond} (i : Nat) (h : (k2_sels lw_privs)[i]? = some w) : w ∈ lw_tbl := List.mem_append_left _ (List.mem_of_getElem? h)
theorem in_t1 {w : Cond} (i : Nat) (h : tables_1_1[i]? = some w) : w ∈ lw_tbl := List.mem_append_right _ (List.mem_append_left _ (List.mem_of_getElem? h))
theorem in_t2 {w : Cond} (i : Nat) (h : tables_1_2[i]? = some w) : w ∈ lw_tbl := List.mem_append_right _ (List.mem_append_right _ (List.mem_append_left _ (List.mem_of_getElem? h)))
theorem in_t3 {w : Cond} (i : Nat) (h : tables_1_3[i]? = some w) : w ∈ lw_tbl := List.mem_append_right _ (List.mem_append_right _ (List.mem_append_right _ (List.mem_append_left _ (List.mem_of_getElem? h))))
theorem in_t4 {w : Cond} (i : Nat) (h : tables_1_4[i]? = some w) : w ∈ lw_tbl := List.mem_append_right _ (List.mem_append_right _ (List.mem_append_right _ (List.mem_append_right _ (List.mem_of_getElem? h))))
theorem nw_warm {w : Cond} {s U : State} (h : nwOk w = true) (hW : s.WarmedH U.vm) (hZ : va_Nw w s) : va_Nw w U := by
  cases w <;> first | exact va_Nw.warmC hW hZ | exact va_Nw.warmD hW hZ | exact va_Nw.warmM hW hZ | (simp [nwOk] at h)
theorem nw_same {w : Cond} {s U : State} (h : nwOk w = true) (hv : s.vm = U.vm) (hZ : va_Nw w s) : va_Nw w U := va_Nw.same (by cases w <;> first | rfl | (simp [nwOk] at h)) hv hZ
theorem nw_get {w : Cond} {args : Array Value} {s : State} (h : nwOk w = true) (hZ : w.before args s = true) : va_Nw w s := va_Nw.of (by cases w <;> first | rfl | (simp [nwOk] at h)) hZ
theorem TW_good {c : Cond} (h : c ∈ TW) : GoodIn TW (c :: TW) := fun w hw => by
  rcases List.mem_cons.mp hw with rfl | hw
  · exact ⟨h, good_of_word (List.mem_filter.mp h).2⟩
  · exact ⟨hw, good_of_word (List.mem_filter.mp hw).2⟩
theorem TW_all {a : List Cond} {c : Cond} (ha : ∀ w ∈ a, w ∈ TW) (h : c ∈ TW) : GoodIn TW (a ++ (c :: TW)) := fun w hw => by
  rcases List.mem_append.mp hw with hw | hw
  · exact ⟨ha w hw, good_of_word (List.mem_filter.mp (ha w hw)).2⟩
  · exact TW_good h w hw
theorem TW_V {own C : String} {idx : Nat} {y : MethodName} {c : Cond} (h1 : Cond.methodLink own idx y ∈ TW) (h2 : Cond.instanceMethod y ∈ TW) (h3 : Cond.selects C y y ∈ TW) (h4 : Cond.initialized C ∈ TW) (h : c ∈ TW) : GoodIn TW (wsV own idx C y (c :: TW)) :=
  TW_all (fun w hw => by simp only [List.mem_cons, List.not_mem_nil, or_false] at hw; rcases hw with rfl | rfl | rfl | rfl <;> assumption) h
theorem TW_S {own : String} {idx : Nat} {y : MethodName} {c : Cond} (h1 : Cond.methodLink own idx y ∈ TW) (h2 : Cond.static y ∈ TW) (h4 : Cond.initialized y.cls ∈ TW) (h : c ∈ TW) : GoodIn TW (va_wsS own idx y (c :: TW)) :=
  TW_all (fun w hw => by simp only [List.mem_cons, List.not_mem_nil, or_false] at hw; rcases hw with rfl | rfl | rfl <;> assumption) h
end
section
/-! names: classes, their fields, methods -/
def R_C : String := "ConstraintCompiler"
def R_S : String := "ConstraintCompiler$Sum"
def R_V : String := "ConstraintCompiler$Variable"
def R_E : String := "ConstraintCompiler$Expression"
def R_K : String := "ConstraintCompiler$Constraint"
def R_M : String := "ConstraintCompilerModel"
def R_L : String := "ConstraintCompilerLaw"
def R_A : String := "java/util/ArrayList"
def R_AL : String := "java/util/AbstractList"
def R_AC : String := "java/util/AbstractCollection"
def R_AR : String := "java/util/Arrays"
def R_AS : String := "jdk/internal/util/ArraysSupport"
def R_MA : String := "java/lang/Math"
def R_OB : String := "java/util/Objects"
def R_PC : String := "jdk/internal/util/Preconditions"
def R_OJ : String := "java/lang/Object"
def F_C : u_T := fun k => match k with
  | 0 => ("ConstraintCompiler", "zero", "LConstraintCompiler$Sum;", true)
  | 1 => ("ConstraintCompiler", "one", "LConstraintCompiler$Sum;", true)
  | 2 => ("ConstraintCompiler", "variables", "Ljava/util/ArrayList;", true)
  | 3 => ("ConstraintCompiler", "expressions", "Ljava/util/ArrayList;", true)
  | 4 => ("ConstraintCompiler", "constraints", "Ljava/util/ArrayList;", true)
  | 5 => ("ConstraintCompiler", "inputs", "I", false)
  | 6 => ("ConstraintCompiler", "witness", "[I", false)
  | 7 => ("ConstraintCompiler", "draft", "[I", false)
  | 8 => ("ConstraintCompiler", "witnessVariables", "I", false)
  | _ => ("ConstraintCompiler", "witnessConstraints", "I", false)
def ft_C : Nat → FieldType := fun k => match k with
  | 0 => .object "ConstraintCompiler$Sum"
  | 1 => .object "ConstraintCompiler$Sum"
  | 2 => .object "java/util/ArrayList"
  | 3 => .object "java/util/ArrayList"
  | 4 => .object "java/util/ArrayList"
  | 5 => .int
  | 6 => .array .int
  | 7 => .array .int
  | 8 => .int
  | _ => .int
theorem nm_C : ∀ a, a < 10 → ∀ b, b < 10 → a ≠ b → (F_C a).2.1 ≠ (F_C b).2.1 := by decide +kernel
theorem fo_C : ∀ k, k < 10 → parseFieldDescriptor (F_C k).2.2.1 = some (ft_C k) := by decide +kernel
theorem in_C : ∀ w ∈ u_ws R_C F_C 10, w ∈ TW := by
  have h : ∀ w ∈ u_ws R_C F_C 10, w ∈ lw_tbl := by decide +kernel
  intro w hw
  refine tw_of (h w hw) ?_
  obtain ⟨k, -, rfl⟩ := List.mem_map.mp hw
  unfold u_lay
  split <;> rfl
def F_S : u_T := fun k => match k with
  | _ => ("ConstraintCompiler$Sum", "coefficients", "[I", true)
def ft_S : Nat → FieldType := fun k => match k with
  | _ => .array .int
theorem nm_S : ∀ a, a < 1 → ∀ b, b < 1 → a ≠ b → (F_S a).2.1 ≠ (F_S b).2.1 := by decide +kernel
theorem fo_S : ∀ k, k < 1 → parseFieldDescriptor (F_S k).2.2.1 = some (ft_S k) := by decide +kernel
theorem in_S : ∀ w ∈ u_ws R_S F_S 1, w ∈ TW := by
  have h : ∀ w ∈ u_ws R_S F_S 1, w ∈ lw_tbl := by decide +kernel
  intro w hw
  refine tw_of (h w hw) ?_
  obtain ⟨k, -, rfl⟩ := List.mem_map.mp hw
  unfold u_lay
  split <;> rfl
def F_V : u_T := fun k => match k with
  | 0 => ("ConstraintCompiler$Variable", "rule", "I", true)
  | 1 => ("ConstraintCompiler$Variable", "left", "LConstraintCompiler$Sum;", true)
  | 2 => ("ConstraintCompiler$Variable", "right", "LConstraintCompiler$Sum;", true)
  | _ => ("ConstraintCompiler$Variable", "given", "I", false)
def ft_V : Nat → FieldType := fun k => match k with
  | 0 => .int
  | 1 => .object "ConstraintCompiler$Sum"
  | 2 => .object "ConstraintCompiler$Sum"
  | _ => .int
theorem nm_V : ∀ a, a < 4 → ∀ b, b < 4 → a ≠ b → (F_V a).2.1 ≠ (F_V b).2.1 := by decide +kernel
theorem fo_V : ∀ k, k < 4 → parseFieldDescriptor (F_V k).2.2.1 = some (ft_V k) := by decide +kernel
theorem in_V : ∀ w ∈ u_ws R_V F_V 4, w ∈ TW := by
  have h : ∀ w ∈ u_ws R_V F_V 4, w ∈ lw_tbl := by decide +kernel
  intro w hw
  refine tw_of (h w hw) ?_
  obtain ⟨k, -, rfl⟩ := List.mem_map.mp hw
  unfold u_lay
  split <;> rfl
def F_E : u_T := fun k => match k with
  | 0 => ("ConstraintCompiler$Expression", "sum", "LConstraintCompiler$Sum;", true)
  | _ => ("ConstraintCompiler$Expression", "input", "I", true)
def ft_E : Nat → FieldType := fun k => match k with
  | 0 => .object "ConstraintCompiler$Sum"
  | _ => .int
theorem nm_E : ∀ a, a < 2 → ∀ b, b < 2 → a ≠ b → (F_E a).2.1 ≠ (F_E b).2.1 := by decide +kernel
theorem fo_E : ∀ k, k < 2 → parseFieldDescriptor (F_E k).2.2.1 = some (ft_E k) := by decide +kernel
theorem in_E : ∀ w ∈ u_ws R_E F_E 2, w ∈ TW := by
  have h : ∀ w ∈ u_ws R_E F_E 2, w ∈ lw_tbl := by decide +kernel
  intro w hw
  refine tw_of (h w hw) ?_
  obtain ⟨k, -, rfl⟩ := List.mem_map.mp hw
  unfold u_lay
  split <;> rfl
def F_K : u_T := fun k => match k with
  | 0 => ("ConstraintCompiler$Constraint", "a", "LConstraintCompiler$Sum;", true)
  | 1 => ("ConstraintCompiler$Constraint", "b", "LConstraintCompiler$Sum;", true)
  | _ => ("ConstraintCompiler$Constraint", "c", "LConstraintCompiler$Sum;", true)
def ft_K : Nat → FieldType := fun k => match k with
  | 0 => .object "ConstraintCompiler$Sum"
  | 1 => .object "ConstraintCompiler$Sum"
  | _ => .object "ConstraintCompiler$Sum"
theorem nm_K : ∀ a, a < 3 → ∀ b, b < 3 → a ≠ b → (F_K a).2.1 ≠ (F_K b).2.1 := by decide +kernel
theorem fo_K : ∀ k, k < 3 → parseFieldDescriptor (F_K k).2.2.1 = some (ft_K k) := by decide +kernel
theorem in_K : ∀ w ∈ u_ws R_K F_K 3, w ∈ TW := by
  have h : ∀ w ∈ u_ws R_K F_K 3, w ∈ lw_tbl := by decide +kernel
  intro w hw
  refine tw_of (h w hw) ?_
  obtain ⟨k, -, rfl⟩ := List.mem_map.mp hw
  unfold u_lay
  split <;> rfl
def F_M : u_T := fun k => match k with
  | 0 => ("ConstraintCompilerModel", "thrown", "I", false)
  | 1 => ("ConstraintCompilerModel", "sums", "[I", true)
  | 2 => ("ConstraintCompilerModel", "kind", "[I", true)
  | 3 => ("ConstraintCompilerModel", "input", "[I", true)
  | 4 => ("ConstraintCompilerModel", "expressions", "I", false)
  | 5 => ("ConstraintCompilerModel", "how", "[I", true)
  | 6 => ("ConstraintCompilerModel", "from", "[I", true)
  | 7 => ("ConstraintCompilerModel", "given", "[I", true)
  | 8 => ("ConstraintCompilerModel", "variables", "I", false)
  | 9 => ("ConstraintCompilerModel", "rows", "[I", true)
  | 10 => ("ConstraintCompilerModel", "constraints", "I", false)
  | 11 => ("ConstraintCompilerModel", "left", "[I", true)
  | 12 => ("ConstraintCompilerModel", "right", "[I", true)
  | 13 => ("ConstraintCompilerModel", "out", "[I", true)
  | 14 => ("ConstraintCompilerModel", "trial", "[I", true)
  | 15 => ("ConstraintCompilerModel", "witness", "[I", true)
  | 16 => ("ConstraintCompilerModel", "solved", "Z", false)
  | 17 => ("ConstraintCompilerModel", "known", "I", false)
  | _ => ("ConstraintCompilerModel", "knownConstraints", "I", false)
def ft_M : Nat → FieldType := fun k => match k with
  | 0 => .int
  | 1 => .array .int
  | 2 => .array .int
  | 3 => .array .int
  | 4 => .int
  | 5 => .array .int
  | 6 => .array .int
  | 7 => .array .int
  | 8 => .int
  | 9 => .array .int
  | 10 => .int
  | 11 => .array .int
  | 12 => .array .int
  | 13 => .array .int
  | 14 => .array .int
  | 15 => .array .int
  | 16 => .boolean
  | 17 => .int
  | _ => .int
theorem nm_M : ∀ a, a < 19 → ∀ b, b < 19 → a ≠ b → (F_M a).2.1 ≠ (F_M b).2.1 := by decide +kernel
theorem fo_M : ∀ k, k < 19 → parseFieldDescriptor (F_M k).2.2.1 = some (ft_M k) := by decide +kernel
theorem in_M : ∀ w ∈ u_ws R_M F_M 19, w ∈ TW := by
  have h : ∀ w ∈ u_ws R_M F_M 19, w ∈ lw_tbl := by decide +kernel
  intro w hw
  refine tw_of (h w hw) ?_
  obtain ⟨k, -, rfl⟩ := List.mem_map.mp hw
  unfold u_lay
  split <;> rfl
def F_A : u_T := fun k => match k with
  | 0 => ("java/util/AbstractList", "modCount", "I", false)
  | 1 => ("java/util/ArrayList", "elementData", "[Ljava/lang/Object;", false)
  | _ => ("java/util/ArrayList", "size", "I", false)
def ft_A : Nat → FieldType := fun k => match k with
  | 0 => .int
  | 1 => .array (.object "java/lang/Object")
  | _ => .int
theorem nm_A : ∀ a, a < 3 → ∀ b, b < 3 → a ≠ b → (F_A a).2.1 ≠ (F_A b).2.1 := by decide +kernel
theorem fo_A : ∀ k, k < 3 → parseFieldDescriptor (F_A k).2.2.1 = some (ft_A k) := by decide +kernel
theorem in_A : ∀ w ∈ u_ws R_A F_A 3, w ∈ TW := by
  have h : ∀ w ∈ u_ws R_A F_A 3, w ∈ lw_tbl := by decide +kernel
  intro w hw
  refine tw_of (h w hw) ?_
  obtain ⟨k, -, rfl⟩ := List.mem_map.mp hw
  unfold u_lay
  split <;> rfl
abbrev CL : List vw_C := [(R_C, F_C, 10), (R_S, F_S, 1), (R_V, F_V, 4), (R_E, F_E, 2), (R_K, F_K, 3), (R_M, F_M, 19), (R_A, F_A, 3)]
abbrev b_C_init : ByteArray := prog_1_method_1_code
def y_C_init : MethodName := ⟨R_C, "<init>", "()V"⟩
abbrev cw_C_init : Cond := .code y_C_init b_C_init 1 none
abbrev b_OJ_init : ByteArray := object_method_1_code
def y_OJ_init : MethodName := ⟨R_OJ, "<init>", "()V"⟩
abbrev cw_OJ_init : Cond := .code y_OJ_init b_OJ_init 1 none
abbrev b_S_init : ByteArray := prog_4_method_1_code
def y_S_init : MethodName := ⟨R_S, "<init>", "()V"⟩
abbrev cw_S_init : Cond := .code y_S_init b_S_init 1 none
abbrev b_S_ofVariable : ByteArray := prog_4_method_2_code
def y_S_ofVariable : MethodName := ⟨R_S, "ofVariable", "(I)LConstraintCompiler$Sum;"⟩
abbrev cw_S_ofVariable : Cond := .code y_S_ofVariable b_S_ofVariable 2 (some (.object "ConstraintCompiler$Sum"))
abbrev b_A_init : ByteArray := prog_22_method_2_code
def y_A_init : MethodName := ⟨R_A, "<init>", "()V"⟩
abbrev cw_A_init : Cond := .code y_A_init b_A_init 1 none
abbrev b_AL_init : ByteArray := prog_21_method_1_code
def y_AL_init : MethodName := ⟨R_AL, "<init>", "()V"⟩
abbrev cw_AL_init : Cond := .code y_AL_init b_AL_init 1 none
abbrev b_AC_init : ByteArray := prog_20_method_1_code
def y_AC_init : MethodName := ⟨R_AC, "<init>", "()V"⟩
abbrev cw_AC_init : Cond := .code y_AC_init b_AC_init 1 none
abbrev b_V_init : ByteArray := prog_5_method_1_code
def y_V_init : MethodName := ⟨R_V, "<init>", "(ILConstraintCompiler$Sum;LConstraintCompiler$Sum;)V"⟩
abbrev cw_V_init : Cond := .code y_V_init b_V_init 4 none
abbrev b_A_add1 : ByteArray := prog_22_method_25_code
def y_A_add1 : MethodName := ⟨R_A, "add", "(Ljava/lang/Object;)Z"⟩
abbrev cw_A_add1 : Cond := .code y_A_add1 b_A_add1 2 (some .boolean)
abbrev b_A_add3 : ByteArray := prog_22_method_24_code
def y_A_add3 : MethodName := ⟨R_A, "add", "(Ljava/lang/Object;[Ljava/lang/Object;I)V"⟩
abbrev cw_A_add3 : Cond := .code y_A_add3 b_A_add3 4 none
abbrev b_A_grow0 : ByteArray := prog_22_method_7_code
def y_A_grow0 : MethodName := ⟨R_A, "grow", "()[Ljava/lang/Object;"⟩
abbrev cw_A_grow0 : Cond := .code y_A_grow0 b_A_grow0 1 (some (.array (.object "java/lang/Object")))
abbrev b_A_grow1 : ByteArray := prog_22_method_6_code
def y_A_grow1 : MethodName := ⟨R_A, "grow", "(I)[Ljava/lang/Object;"⟩
abbrev cw_A_grow1 : Cond := .code y_A_grow1 b_A_grow1 4 (some (.array (.object "java/lang/Object")))
abbrev b_AS_newLength : ByteArray := prog_30_method_27_code
def y_AS_newLength : MethodName := ⟨R_AS, "newLength", "(III)I"⟩
abbrev cw_AS_newLength : Cond := .code y_AS_newLength b_AS_newLength 4 (some .int)
abbrev b_MA_max : ByteArray := prog_15_method_65_code
def y_MA_max : MethodName := ⟨R_MA, "max", "(II)I"⟩
abbrev cw_MA_max : Cond := .code y_MA_max b_MA_max 2 (some .int)
abbrev b_AS_hugeLength : ByteArray := prog_30_method_28_code
def y_AS_hugeLength : MethodName := ⟨R_AS, "hugeLength", "(II)I"⟩
abbrev cw_AS_hugeLength : Cond := .code y_AS_hugeLength b_AS_hugeLength 3 (some .int)
abbrev b_AR_copyOf2 : ByteArray := prog_23_method_119_code
def y_AR_copyOf2 : MethodName := ⟨R_AR, "copyOf", "([Ljava/lang/Object;I)[Ljava/lang/Object;"⟩
abbrev cw_AR_copyOf2 : Cond := .code y_AR_copyOf2 b_AR_copyOf2 2 (some (.array (.object "java/lang/Object")))
abbrev b_AR_copyOf3 : ByteArray := prog_23_method_120_code
def y_AR_copyOf3 : MethodName := ⟨R_AR, "copyOf", "([Ljava/lang/Object;ILjava/lang/Class;)[Ljava/lang/Object;"⟩
abbrev cw_AR_copyOf3 : Cond := .code y_AR_copyOf3 b_AR_copyOf3 4 (some (.array (.object "java/lang/Object")))
abbrev b_MA_min : ByteArray := prog_15_method_69_code
def y_MA_min : MethodName := ⟨R_MA, "min", "(II)I"⟩
abbrev cw_MA_min : Cond := .code y_MA_min b_MA_min 2 (some .int)
abbrev b_L_expression : ByteArray := method_3_code
def y_L_expression : MethodName := ⟨R_L, "expression", "(LConstraintCompiler;IIII[J)I"⟩
abbrev cw_L_expression : Cond := .codeWith y_L_expression b_L_expression 7 (some .int) [(0, 14, 17, 13), (0, 14, 21, 15)]
abbrev b_C_expression : ByteArray := prog_1_method_2_code
def y_C_expression : MethodName := ⟨R_C, "expression", "(IIII)I"⟩
abbrev cw_C_expression : Cond := .code y_C_expression b_C_expression 5 (some .int)
abbrev b_C_isWellFormed : ByteArray := prog_1_method_19_code
def y_C_isWellFormed : MethodName := ⟨R_C, "isWellFormed", "(IIII)Z"⟩
abbrev cw_C_isWellFormed : Cond := .code y_C_isWellFormed b_C_isWellFormed 5 (some .boolean)
abbrev b_C_isMade : ByteArray := prog_1_method_17_code
def y_C_isMade : MethodName := ⟨R_C, "isMade", "(I)Z"⟩
abbrev cw_C_isMade : Cond := .code y_C_isMade b_C_isMade 2 (some .boolean)
abbrev b_A_size : ByteArray := prog_22_method_8_code
def y_A_size : MethodName := ⟨R_A, "size", "()I"⟩
abbrev cw_A_size : Cond := .code y_A_size b_A_size 1 (some .int)
abbrev b_C_hasRoomFor : ByteArray := prog_1_method_20_code
def y_C_hasRoomFor : MethodName := ⟨R_C, "hasRoomFor", "(IIII)Z"⟩
abbrev cw_C_hasRoomFor : Cond := .code y_C_hasRoomFor b_C_hasRoomFor 7 (some .boolean)
abbrev b_C_constraintsNeeded : ByteArray := prog_1_method_21_code
def y_C_constraintsNeeded : MethodName := ⟨R_C, "constraintsNeeded", "(IIII)I"⟩
abbrev cw_C_constraintsNeeded : Cond := .code y_C_constraintsNeeded b_C_constraintsNeeded 5 (some .int)
abbrev b_C_sumOf : ByteArray := prog_1_method_23_code
def y_C_sumOf : MethodName := ⟨R_C, "sumOf", "(I)LConstraintCompiler$Sum;"⟩
abbrev cw_C_sumOf : Cond := .code y_C_sumOf b_C_sumOf 2 (some (.object "ConstraintCompiler$Sum"))
abbrev b_A_get : ByteArray := prog_22_method_20_code
def y_A_get : MethodName := ⟨R_A, "get", "(I)Ljava/lang/Object;"⟩
abbrev cw_A_get : Cond := .code y_A_get b_A_get 2 (some (.object "java/lang/Object"))
abbrev b_OB_checkIndex : ByteArray := prog_27_method_17_code
def y_OB_checkIndex : MethodName := ⟨R_OB, "checkIndex", "(II)I"⟩
abbrev cw_OB_checkIndex : Cond := .code y_OB_checkIndex b_OB_checkIndex 2 (some .int)
abbrev b_PC_checkIndex : ByteArray := prog_31_method_11_code
def y_PC_checkIndex : MethodName := ⟨R_PC, "checkIndex", "(IILjava/util/function/BiFunction;)I"⟩
abbrev cw_PC_checkIndex : Cond := .code y_PC_checkIndex b_PC_checkIndex 3 (some .int)
abbrev b_A_elementData : ByteArray := prog_22_method_18_code
def y_A_elementData : MethodName := ⟨R_A, "elementData", "(I)Ljava/lang/Object;"⟩
abbrev cw_A_elementData : Cond := .code y_A_elementData b_A_elementData 2 (some (.object "java/lang/Object"))
abbrev b_C_constraintsOfProduct : ByteArray := prog_1_method_22_code
def y_C_constraintsOfProduct : MethodName := ⟨R_C, "constraintsOfProduct", "(LConstraintCompiler$Sum;LConstraintCompiler$Sum;)I"⟩
abbrev cw_C_constraintsOfProduct : Cond := .code y_C_constraintsOfProduct b_C_constraintsOfProduct 2 (some .int)
abbrev b_S_isConstant : ByteArray := prog_4_method_8_code
def y_S_isConstant : MethodName := ⟨R_S, "isConstant", "()Z"⟩
abbrev cw_S_isConstant : Cond := .code y_S_isConstant b_S_isConstant 1 (some .boolean)
abbrev b_S_lastVariable : ByteArray := prog_4_method_7_code
def y_S_lastVariable : MethodName := ⟨R_S, "lastVariable", "()I"⟩
abbrev cw_S_lastVariable : Cond := .code y_S_lastVariable b_S_lastVariable 2 (some .int)
abbrev b_C_difference : ByteArray := prog_1_method_24_code
def y_C_difference : MethodName := ⟨R_C, "difference", "(II)LConstraintCompiler$Sum;"⟩
abbrev cw_C_difference : Cond := .code y_C_difference b_C_difference 3 (some (.object "ConstraintCompiler$Sum"))
abbrev b_S_minus : ByteArray := prog_4_method_4_code
def y_S_minus : MethodName := ⟨R_S, "minus", "(LConstraintCompiler$Sum;)LConstraintCompiler$Sum;"⟩
abbrev cw_S_minus : Cond := .code y_S_minus b_S_minus 2 (some (.object "ConstraintCompiler$Sum"))
abbrev b_S_combinedWith : ByteArray := prog_4_method_6_code
def y_S_combinedWith : MethodName := ⟨R_S, "combinedWith", "(LConstraintCompiler$Sum;II)LConstraintCompiler$Sum;"⟩
abbrev cw_S_combinedWith : Cond := .code y_S_combinedWith b_S_combinedWith 6 (some (.object "ConstraintCompiler$Sum"))
abbrev b_C_remainder : ByteArray := prog_1_method_14_code
def y_C_remainder : MethodName := ⟨R_C, "remainder", "(I)I"⟩
abbrev cw_C_remainder : Cond := .code y_C_remainder b_C_remainder 1 (some .int)
abbrev b_MA_floorMod : ByteArray := prog_15_method_50_code
def y_MA_floorMod : MethodName := ⟨R_MA, "floorMod", "(II)I"⟩
abbrev cw_MA_floorMod : Cond := .code y_MA_floorMod b_MA_floorMod 3 (some .int)
abbrev b_C_makeInput : ByteArray := prog_1_method_25_code
def y_C_makeInput : MethodName := ⟨R_C, "makeInput", "()LConstraintCompiler$Expression;"⟩
abbrev cw_C_makeInput : Cond := .code y_C_makeInput b_C_makeInput 2 (some (.object "ConstraintCompiler$Expression"))
abbrev b_C_addVariable : ByteArray := prog_1_method_32_code
def y_C_addVariable : MethodName := ⟨R_C, "addVariable", "(ILConstraintCompiler$Sum;LConstraintCompiler$Sum;)I"⟩
abbrev cw_C_addVariable : Cond := .code y_C_addVariable b_C_addVariable 4 (some .int)
abbrev b_E_init : ByteArray := prog_3_method_1_code
def y_E_init : MethodName := ⟨R_E, "<init>", "(LConstraintCompiler$Sum;I)V"⟩
abbrev cw_E_init : Cond := .code y_E_init b_E_init 3 none
abbrev b_C_makeSum : ByteArray := prog_1_method_26_code
def y_C_makeSum : MethodName := ⟨R_C, "makeSum", "(IIII)LConstraintCompiler$Sum;"⟩
abbrev cw_C_makeSum : Cond := .code y_C_makeSum b_C_makeSum 5 (some (.object "ConstraintCompiler$Sum"))
abbrev b_S_plus : ByteArray := prog_4_method_3_code
def y_S_plus : MethodName := ⟨R_S, "plus", "(LConstraintCompiler$Sum;)LConstraintCompiler$Sum;"⟩
abbrev cw_S_plus : Cond := .code y_S_plus b_S_plus 2 (some (.object "ConstraintCompiler$Sum"))
abbrev b_C_makeProduct : ByteArray := prog_1_method_27_code
def y_C_makeProduct : MethodName := ⟨R_C, "makeProduct", "(LConstraintCompiler$Sum;LConstraintCompiler$Sum;)LConstraintCompiler$Sum;"⟩
abbrev cw_C_makeProduct : Cond := .code y_C_makeProduct b_C_makeProduct 3 (some (.object "ConstraintCompiler$Sum"))
abbrev b_S_scaledBy : ByteArray := prog_4_method_5_code
def y_S_scaledBy : MethodName := ⟨R_S, "scaledBy", "(I)LConstraintCompiler$Sum;"⟩
abbrev cw_S_scaledBy : Cond := .code y_S_scaledBy b_S_scaledBy 2 (some (.object "ConstraintCompiler$Sum"))
abbrev b_C_makeConstrainedProduct : ByteArray := prog_1_method_28_code
def y_C_makeConstrainedProduct : MethodName := ⟨R_C, "makeConstrainedProduct", "(LConstraintCompiler$Sum;LConstraintCompiler$Sum;)LConstraintCompiler$Sum;"⟩
abbrev cw_C_makeConstrainedProduct : Cond := .code y_C_makeConstrainedProduct b_C_makeConstrainedProduct 4 (some (.object "ConstraintCompiler$Sum"))
abbrev b_C_addConstraint : ByteArray := prog_1_method_33_code
def y_C_addConstraint : MethodName := ⟨R_C, "addConstraint", "(LConstraintCompiler$Sum;LConstraintCompiler$Sum;LConstraintCompiler$Sum;)V"⟩
abbrev cw_C_addConstraint : Cond := .code y_C_addConstraint b_C_addConstraint 4 none
abbrev b_K_init : ByteArray := prog_2_method_1_code
def y_K_init : MethodName := ⟨R_K, "<init>", "(LConstraintCompiler$Sum;LConstraintCompiler$Sum;LConstraintCompiler$Sum;)V"⟩
abbrev cw_K_init : Cond := .code y_K_init b_K_init 4 none
abbrev b_C_makeShare : ByteArray := prog_1_method_29_code
def y_C_makeShare : MethodName := ⟨R_C, "makeShare", "(LConstraintCompiler$Sum;LConstraintCompiler$Sum;)LConstraintCompiler$Sum;"⟩
abbrev cw_C_makeShare : Cond := .code y_C_makeShare b_C_makeShare 4 (some (.object "ConstraintCompiler$Sum"))
abbrev b_C_makeSame : ByteArray := prog_1_method_30_code
def y_C_makeSame : MethodName := ⟨R_C, "makeSame", "(LConstraintCompiler$Sum;)LConstraintCompiler$Sum;"⟩
abbrev cw_C_makeSame : Cond := .code y_C_makeSame b_C_makeSame 4 (some (.object "ConstraintCompiler$Sum"))
abbrev b_C_makePower : ByteArray := prog_1_method_31_code
def y_C_makePower : MethodName := ⟨R_C, "makePower", "(LConstraintCompiler$Sum;I)LConstraintCompiler$Sum;"⟩
abbrev cw_C_makePower : Cond := .code y_C_makePower b_C_makePower 5 (some (.object "ConstraintCompiler$Sum"))
abbrev b_L_claim : ByteArray := method_4_code
def y_L_claim : MethodName := ⟨R_L, "claim", "(LConstraintCompiler;III[J)I"⟩
abbrev cw_L_claim : Cond := .codeWith y_L_claim b_L_claim 6 (some .int) [(0, 12, 15, 13), (0, 12, 19, 15)]
abbrev b_C_claim : ByteArray := prog_1_method_3_code
def y_C_claim : MethodName := ⟨R_C, "claim", "(III)I"⟩
abbrev cw_C_claim : Cond := .code y_C_claim b_C_claim 4 (some .int)
abbrev b_L_give : ByteArray := method_5_code
def y_L_give : MethodName := ⟨R_L, "give", "(LConstraintCompiler;II[J)I"⟩
abbrev cw_L_give : Cond := .codeWith y_L_give b_L_give 5 (some .int) [(0, 10, 13, 25), (0, 10, 17, 27)]
abbrev b_C_give : ByteArray := prog_1_method_4_code
def y_C_give : MethodName := ⟨R_C, "give", "(II)I"⟩
abbrev cw_C_give : Cond := .code y_C_give b_C_give 6 (some .int)
abbrev b_E_isInput : ByteArray := prog_3_method_2_code
def y_E_isInput : MethodName := ⟨R_E, "isInput", "()Z"⟩
abbrev cw_E_isInput : Cond := .code y_E_isInput b_E_isInput 1 (some .boolean)
abbrev b_L_solve : ByteArray := method_6_code
def y_L_solve : MethodName := ⟨R_L, "solve", "(LConstraintCompiler;[J)I"⟩
abbrev cw_L_solve : Cond := .codeWith y_L_solve b_L_solve 3 (some .int) [(0, 8, 11, 33)]
abbrev b_C_solve : ByteArray := prog_1_method_5_code
def y_C_solve : MethodName := ⟨R_C, "solve", "()I"⟩
abbrev cw_C_solve : Cond := .code y_C_solve b_C_solve 2 (some .int)
abbrev b_C_fillDraft : ByteArray := prog_1_method_34_code
def y_C_fillDraft : MethodName := ⟨R_C, "fillDraft", "()Z"⟩
abbrev cw_C_fillDraft : Cond := .code y_C_fillDraft b_C_fillDraft 3 (some .boolean)
abbrev b_V_numberFor : ByteArray := prog_5_method_2_code
def y_V_numberFor : MethodName := ⟨R_V, "numberFor", "([I)I"⟩
abbrev cw_V_numberFor : Cond := .code y_V_numberFor b_V_numberFor 3 (some .int)
abbrev b_S_valueFor : ByteArray := prog_4_method_10_code
def y_S_valueFor : MethodName := ⟨R_S, "valueFor", "([I)I"⟩
abbrev cw_S_valueFor : Cond := .code y_S_valueFor b_S_valueFor 4 (some .int)
abbrev b_C_inverseOrZero : ByteArray := prog_1_method_15_code
def y_C_inverseOrZero : MethodName := ⟨R_C, "inverseOrZero", "(I)I"⟩
abbrev cw_C_inverseOrZero : Cond := .code y_C_inverseOrZero b_C_inverseOrZero 2 (some .int)
abbrev b_C_howManyBroken : ByteArray := prog_1_method_35_code
def y_C_howManyBroken : MethodName := ⟨R_C, "howManyBroken", "()I"⟩
abbrev cw_C_howManyBroken : Cond := .code y_C_howManyBroken b_C_howManyBroken 3 (some .int)
abbrev b_K_holdsFor : ByteArray := prog_2_method_2_code
def y_K_holdsFor : MethodName := ⟨R_K, "holdsFor", "([I)Z"⟩
abbrev cw_K_holdsFor : Cond := .code y_K_holdsFor b_K_holdsFor 2 (some .boolean)
abbrev b_L_value : ByteArray := method_7_code
def y_L_value : MethodName := ⟨R_L, "value", "(LConstraintCompiler;I[J)I"⟩
abbrev cw_L_value : Cond := .codeWith y_L_value b_L_value 4 (some .int) [(0, 9, 12, 25), (0, 9, 15, 15)]
abbrev b_C_value : ByteArray := prog_1_method_6_code
def y_C_value : MethodName := ⟨R_C, "value", "(I)I"⟩
abbrev cw_C_value : Cond := .code y_C_value b_C_value 3 (some .int)
abbrev b_C_hasWitness : ByteArray := prog_1_method_18_code
def y_C_hasWitness : MethodName := ⟨R_C, "hasWitness", "()Z"⟩
abbrev cw_C_hasWitness : Cond := .code y_C_hasWitness b_C_hasWitness 1 (some .boolean)
abbrev b_L_tamper : ByteArray := method_8_code
def y_L_tamper : MethodName := ⟨R_L, "tamper", "(LConstraintCompiler;II[J)I"⟩
abbrev cw_L_tamper : Cond := .codeWith y_L_tamper b_L_tamper 5 (some .int) [(0, 10, 13, 15), (0, 10, 17, 13)]
abbrev b_C_tamper : ByteArray := prog_1_method_7_code
def y_C_tamper : MethodName := ⟨R_C, "tamper", "(II)I"⟩
abbrev cw_C_tamper : Cond := .code y_C_tamper b_C_tamper 4 (some .int)
abbrev b_L_broken : ByteArray := method_9_code
def y_L_broken : MethodName := ⟨R_L, "broken", "(LConstraintCompiler;[J)I"⟩
abbrev cw_L_broken : Cond := .codeWith y_L_broken b_L_broken 3 (some .int) [(0, 8, 11, 15)]
abbrev b_C_broken : ByteArray := prog_1_method_8_code
def y_C_broken : MethodName := ⟨R_C, "broken", "()I"⟩
abbrev cw_C_broken : Cond := .code y_C_broken b_C_broken 1 (some .int)
abbrev b_L_first : ByteArray := method_10_code
def y_L_first : MethodName := ⟨R_L, "first", "(LConstraintCompiler;[J)I"⟩
abbrev cw_L_first : Cond := .codeWith y_L_first b_L_first 3 (some .int) [(0, 8, 11, 15), (0, 8, 14, 25)]
abbrev b_C_first : ByteArray := prog_1_method_9_code
def y_C_first : MethodName := ⟨R_C, "first", "()I"⟩
abbrev cw_C_first : Cond := .code y_C_first b_C_first 2 (some .int)
abbrev b_L_coefficient : ByteArray := method_11_code
def y_L_coefficient : MethodName := ⟨R_L, "coefficient", "(LConstraintCompiler;III[J)I"⟩
abbrev cw_L_coefficient : Cond := .codeWith y_L_coefficient b_L_coefficient 6 (some .int) [(0, 12, 15, 25), (0, 12, 19, 13)]
abbrev b_C_coefficient : ByteArray := prog_1_method_10_code
def y_C_coefficient : MethodName := ⟨R_C, "coefficient", "(III)I"⟩
abbrev cw_C_coefficient : Cond := .code y_C_coefficient b_C_coefficient 4 (some .int)
abbrev b_C_isVariableNumber : ByteArray := prog_1_method_16_code
def y_C_isVariableNumber : MethodName := ⟨R_C, "isVariableNumber", "(I)Z"⟩
abbrev cw_C_isVariableNumber : Cond := .code y_C_isVariableNumber b_C_isVariableNumber 1 (some .boolean)
abbrev b_K_sumAt : ByteArray := prog_2_method_3_code
def y_K_sumAt : MethodName := ⟨R_K, "sumAt", "(I)LConstraintCompiler$Sum;"⟩
abbrev cw_K_sumAt : Cond := .code y_K_sumAt b_K_sumAt 2 (some (.object "ConstraintCompiler$Sum"))
abbrev b_L_terms : ByteArray := method_12_code
def y_L_terms : MethodName := ⟨R_L, "terms", "(LConstraintCompiler;I[J)I"⟩
abbrev cw_L_terms : Cond := .codeWith y_L_terms b_L_terms 4 (some .int) [(0, 9, 12, 25)]
abbrev b_C_terms : ByteArray := prog_1_method_11_code
def y_C_terms : MethodName := ⟨R_C, "terms", "(I)I"⟩
abbrev cw_C_terms : Cond := .code y_C_terms b_C_terms 2 (some .int)
abbrev b_S_howManyTerms : ByteArray := prog_4_method_9_code
def y_S_howManyTerms : MethodName := ⟨R_S, "howManyTerms", "()I"⟩
abbrev cw_S_howManyTerms : Cond := .code y_S_howManyTerms b_S_howManyTerms 3 (some .int)
abbrev b_L_uses : ByteArray := method_13_code
def y_L_uses : MethodName := ⟨R_L, "uses", "(LConstraintCompiler;I[J)I"⟩
abbrev cw_L_uses : Cond := .codeWith y_L_uses b_L_uses 4 (some .int) [(0, 9, 12, 13)]
abbrev b_C_uses : ByteArray := prog_1_method_12_code
def y_C_uses : MethodName := ⟨R_C, "uses", "(I)I"⟩
abbrev cw_C_uses : Cond := .code y_C_uses b_C_uses 4 (some .int)
abbrev b_K_hasVariable : ByteArray := prog_2_method_4_code
def y_K_hasVariable : MethodName := ⟨R_K, "hasVariable", "(I)Z"⟩
abbrev cw_K_hasVariable : Cond := .code y_K_hasVariable b_K_hasVariable 2 (some .boolean)
abbrev b_L_count : ByteArray := method_14_code
def y_L_count : MethodName := ⟨R_L, "count", "(LConstraintCompiler;I[J)I"⟩
abbrev cw_L_count : Cond := .codeWith y_L_count b_L_count 4 (some .int) [(0, 9, 12, 13)]
abbrev b_C_count : ByteArray := prog_1_method_13_code
def y_C_count : MethodName := ⟨R_C, "count", "(I)I"⟩
abbrev cw_C_count : Cond := .code y_C_count b_C_count 2 (some .int)
abbrev b_M_init : ByteArray := prog_7_method_1_code
def y_M_init : MethodName := ⟨R_M, "<init>", "()V"⟩
abbrev cw_M_init : Cond := .code y_M_init b_M_init 1 none
abbrev b_M_thrown : ByteArray := prog_7_method_2_code
def y_M_thrown : MethodName := ⟨R_M, "thrown", "()I"⟩
abbrev cw_M_thrown : Cond := .code y_M_thrown b_M_thrown 1 (some .int)
abbrev b_M_expression : ByteArray := prog_7_method_23_code
def y_M_expression : MethodName := ⟨R_M, "expression", "(IIII)I"⟩
abbrev cw_M_expression : Cond := .code y_M_expression b_M_expression 7 (some .int)
abbrev b_M_fits : ByteArray := prog_7_method_16_code
def y_M_fits : MethodName := ⟨R_M, "fits", "(IIII)Z"⟩
abbrev cw_M_fits : Cond := .code y_M_fits b_M_fits 5 (some .boolean)
abbrev b_M_in : ByteArray := prog_7_method_4_code
def y_M_in : MethodName := ⟨R_M, "in", "(III)Z"⟩
abbrev cw_M_in : Cond := .code y_M_in b_M_in 3 (some .boolean)
abbrev b_M_made : ByteArray := prog_7_method_7_code
def y_M_made : MethodName := ⟨R_M, "made", "(I)Z"⟩
abbrev cw_M_made : Cond := .code y_M_made b_M_made 2 (some .boolean)
abbrev b_M_raise : ByteArray := prog_7_method_3_code
def y_M_raise : MethodName := ⟨R_M, "raise", "(I)I"⟩
abbrev cw_M_raise : Cond := .code y_M_raise b_M_raise 2 (some .int)
abbrev b_M_needs : ByteArray := prog_7_method_19_code
def y_M_needs : MethodName := ⟨R_M, "needs", "(IIII)I"⟩
abbrev cw_M_needs : Cond := .code y_M_needs b_M_needs 5 (some .int)
abbrev b_M_isConstant : ByteArray := prog_7_method_17_code
def y_M_isConstant : MethodName := ⟨R_M, "isConstant", "(I)Z"⟩
abbrev cw_M_isConstant : Cond := .code y_M_isConstant b_M_isConstant 3 (some .boolean)
abbrev b_M_plainEither : ByteArray := prog_7_method_18_code
def y_M_plainEither : MethodName := ⟨R_M, "plainEither", "(III)Z"⟩
abbrev cw_M_plainEither : Cond := .code y_M_plainEither b_M_plainEither 4 (some .boolean)
abbrev b_M_number : ByteArray := prog_7_method_8_code
def y_M_number : MethodName := ⟨R_M, "number", "([II)V"⟩
abbrev cw_M_number : Cond := .code y_M_number b_M_number 3 none
abbrev b_M_rest : ByteArray := prog_7_method_5_code
def y_M_rest : MethodName := ⟨R_M, "rest", "(I)I"⟩
abbrev cw_M_rest : Cond := .code y_M_rest b_M_rest 1 (some .int)
abbrev b_M_add : ByteArray := prog_7_method_11_code
def y_M_add : MethodName := ⟨R_M, "add", "([III)V"⟩
abbrev cw_M_add : Cond := .code y_M_add b_M_add 5 none
abbrev b_M_constant : ByteArray := prog_7_method_12_code
def y_M_constant : MethodName := ⟨R_M, "constant", "([I)Z"⟩
abbrev cw_M_constant : Cond := .code y_M_constant b_M_constant 2 (some .boolean)
abbrev b_M_work : ByteArray := prog_7_method_22_code
def y_M_work : MethodName := ⟨R_M, "work", "(IIII)V"⟩
abbrev cw_M_work : Cond := .code y_M_work b_M_work 6 none
abbrev b_M_variable : ByteArray := prog_7_method_14_code
def y_M_variable : MethodName := ⟨R_M, "variable", "(II)I"⟩
abbrev cw_M_variable : Cond := .code y_M_variable b_M_variable 3 (some .int)
abbrev b_M_one : ByteArray := prog_7_method_9_code
def y_M_one : MethodName := ⟨R_M, "one", "([II)V"⟩
abbrev cw_M_one : Cond := .code y_M_one b_M_one 2 none
abbrev b_M_fetch : ByteArray := prog_7_method_10_code
def y_M_fetch : MethodName := ⟨R_M, "fetch", "([II)V"⟩
abbrev cw_M_fetch : Cond := .code y_M_fetch b_M_fetch 4 none
abbrev b_M_multiply : ByteArray := prog_7_method_15_code
def y_M_multiply : MethodName := ⟨R_M, "multiply", "()V"⟩
abbrev cw_M_multiply : Cond := .code y_M_multiply b_M_multiply 4 none
abbrev b_M_keep : ByteArray := prog_7_method_13_code
def y_M_keep : MethodName := ⟨R_M, "keep", "(II[I)V"⟩
abbrev cw_M_keep : Cond := .code y_M_keep b_M_keep 5 none
abbrev b_M_share : ByteArray := prog_7_method_20_code
def y_M_share : MethodName := ⟨R_M, "share", "(II)V"⟩
abbrev cw_M_share : Cond := .code y_M_share b_M_share 6 none
abbrev b_M_same : ByteArray := prog_7_method_21_code
def y_M_same : MethodName := ⟨R_M, "same", "(II)V"⟩
abbrev cw_M_same : Cond := .code y_M_same b_M_same 6 none
abbrev b_M_claim : ByteArray := prog_7_method_24_code
def y_M_claim : MethodName := ⟨R_M, "claim", "(III)I"⟩
abbrev cw_M_claim : Cond := .code y_M_claim b_M_claim 4 (some .int)
abbrev b_M_give : ByteArray := prog_7_method_25_code
def y_M_give : MethodName := ⟨R_M, "give", "(II)I"⟩
abbrev cw_M_give : Cond := .code y_M_give b_M_give 4 (some .int)
abbrev b_M_solve : ByteArray := prog_7_method_28_code
def y_M_solve : MethodName := ⟨R_M, "solve", "()I"⟩
abbrev cw_M_solve : Cond := .code y_M_solve b_M_solve 3 (some .int)
abbrev b_M_valueOf : ByteArray := prog_7_method_26_code
def y_M_valueOf : MethodName := ⟨R_M, "valueOf", "(II[I)I"⟩
abbrev cw_M_valueOf : Cond := .code y_M_valueOf b_M_valueOf 6 (some .int)
abbrev b_M_inverse : ByteArray := prog_7_method_6_code
def y_M_inverse : MethodName := ⟨R_M, "inverse", "(I)I"⟩
abbrev cw_M_inverse : Cond := .code y_M_inverse b_M_inverse 2 (some .int)
abbrev b_M_bad : ByteArray := prog_7_method_29_code
def y_M_bad : MethodName := ⟨R_M, "bad", "()I"⟩
abbrev cw_M_bad : Cond := .code y_M_bad b_M_bad 3 (some .int)
abbrev b_M_holds : ByteArray := prog_7_method_27_code
def y_M_holds : MethodName := ⟨R_M, "holds", "(I[I)Z"⟩
abbrev cw_M_holds : Cond := .code y_M_holds b_M_holds 3 (some .boolean)
abbrev b_M_value : ByteArray := prog_7_method_30_code
def y_M_value : MethodName := ⟨R_M, "value", "(I)I"⟩
abbrev cw_M_value : Cond := .code y_M_value b_M_value 4 (some .int)
abbrev b_M_tamper : ByteArray := prog_7_method_31_code
def y_M_tamper : MethodName := ⟨R_M, "tamper", "(II)I"⟩
abbrev cw_M_tamper : Cond := .code y_M_tamper b_M_tamper 4 (some .int)
abbrev b_M_broken : ByteArray := prog_7_method_32_code
def y_M_broken : MethodName := ⟨R_M, "broken", "()I"⟩
abbrev cw_M_broken : Cond := .code y_M_broken b_M_broken 1 (some .int)
abbrev b_M_first : ByteArray := prog_7_method_33_code
def y_M_first : MethodName := ⟨R_M, "first", "()I"⟩
abbrev cw_M_first : Cond := .code y_M_first b_M_first 2 (some .int)
abbrev b_M_coefficient : ByteArray := prog_7_method_34_code
def y_M_coefficient : MethodName := ⟨R_M, "coefficient", "(III)I"⟩
abbrev cw_M_coefficient : Cond := .code y_M_coefficient b_M_coefficient 4 (some .int)
abbrev b_M_terms : ByteArray := prog_7_method_35_code
def y_M_terms : MethodName := ⟨R_M, "terms", "(I)I"⟩
abbrev cw_M_terms : Cond := .code y_M_terms b_M_terms 4 (some .int)
abbrev b_M_uses : ByteArray := prog_7_method_36_code
def y_M_uses : MethodName := ⟨R_M, "uses", "(I)I"⟩
abbrev cw_M_uses : Cond := .code y_M_uses b_M_uses 5 (some .int)
abbrev b_M_count : ByteArray := prog_7_method_37_code
def y_M_count : MethodName := ⟨R_M, "count", "(I)I"⟩
abbrev cw_M_count : Cond := .code y_M_count b_M_count 4 (some .int)
abbrev b_L_law : ByteArray := code
def y_L_law : MethodName := ⟨R_L, "law", "([I)Z"⟩
abbrev cw_L_law : Cond := .code y_L_law b_L_law 7 (some .boolean)
end
section
/-! which words stand where -/
theorem k_in_L : Cond.initialized R_L ∈ TW := tw_of (in_t1 0 (by decide +kernel)) rfl
theorem k_in_C : Cond.initialized R_C ∈ TW := tw_of (in_t1 1 (by decide +kernel)) rfl
theorem k_in_S : Cond.initialized R_S ∈ TW := tw_of (in_t1 2 (by decide +kernel)) rfl
theorem k_in_AC : Cond.initialized R_AC ∈ TW := tw_of (in_t1 3 (by decide +kernel)) rfl
theorem k_in_AL : Cond.initialized R_AL ∈ TW := tw_of (in_t1 4 (by decide +kernel)) rfl
theorem k_in_A : Cond.initialized R_A ∈ TW := tw_of (in_t1 5 (by decide +kernel)) rfl
theorem k_in_V : Cond.initialized R_V ∈ TW := tw_of (in_t1 6 (by decide +kernel)) rfl
theorem k_in_AS : Cond.initialized R_AS ∈ TW := tw_of (in_t1 7 (by decide +kernel)) rfl
theorem k_in_MA : Cond.initialized R_MA ∈ TW := tw_of (in_t1 8 (by decide +kernel)) rfl
theorem k_in_AR : Cond.initialized R_AR ∈ TW := tw_of (in_t1 9 (by decide +kernel)) rfl
theorem k_in_System : Cond.initialized "java/lang/System" ∈ TW := tw_of (in_t1 10 (by decide +kernel)) rfl
theorem k_in_M : Cond.initialized R_M ∈ TW := tw_of (in_t1 11 (by decide +kernel)) rfl
theorem k_in_Throwable : Cond.initialized "java/lang/Throwable" ∈ TW := tw_of (in_t1 12 (by decide +kernel)) rfl
theorem k_in_Exception : Cond.initialized "java/lang/Exception" ∈ TW := tw_of (in_t1 13 (by decide +kernel)) rfl
theorem k_in_RuntimeException : Cond.initialized "java/lang/RuntimeException" ∈ TW := tw_of (in_t1 14 (by decide +kernel)) rfl
theorem k_in_IllegalArgumentException : Cond.initialized "java/lang/IllegalArgumentException" ∈ TW := tw_of (in_t1 15 (by decide +kernel)) rfl
theorem k_in_OB : Cond.initialized R_OB ∈ TW := tw_of (in_t1 16 (by decide +kernel)) rfl
theorem k_in_PC : Cond.initialized R_PC ∈ TW := tw_of (in_t1 17 (by decide +kernel)) rfl
theorem k_in_IllegalStateException : Cond.initialized "java/lang/IllegalStateException" ∈ TW := tw_of (in_t1 18 (by decide +kernel)) rfl
theorem k_in_E : Cond.initialized R_E ∈ TW := tw_of (in_t1 19 (by decide +kernel)) rfl
theorem k_in_K : Cond.initialized R_K ∈ TW := tw_of (in_t1 20 (by decide +kernel)) rfl
theorem k_in_NoSuchElementException : Cond.initialized "java/util/NoSuchElementException" ∈ TW := tw_of (in_t1 21 (by decide +kernel)) rfl
theorem k_in_UnsupportedOperationException : Cond.initialized "java/lang/UnsupportedOperationException" ∈ TW := tw_of (in_t1 22 (by decide +kernel)) rfl
theorem k_in_ArithmeticException : Cond.initialized "java/lang/ArithmeticException" ∈ TW := tw_of (in_t1 23 (by decide +kernel)) rfl
theorem k_cl_L_8 : Cond.classLink R_L 8 R_C ∈ TW := tw_of (in_t1 24 (by decide +kernel)) rfl
theorem k_new_C : Cond.instantiable R_C 10 ∈ TW := tw_of (in_t1 25 (by decide +kernel)) rfl
theorem k_ml_L_60 : Cond.methodLink R_L 60 y_C_init ∈ TW := tw_of (in_t1 26 (by decide +kernel)) rfl
theorem k_im_C_init : Cond.instanceMethod y_C_init ∈ TW := tw_of (in_t1 27 (by decide +kernel)) rfl
theorem k_code_C_init : cw_C_init ∈ TW := tw_of (in_t1 28 (by decide +kernel)) rfl
theorem k_ml_C_3 : Cond.methodLink R_C 3 y_OJ_init ∈ TW := tw_of (in_t1 29 (by decide +kernel)) rfl
theorem k_im_OJ_init : Cond.instanceMethod y_OJ_init ∈ TW := tw_of (in_t1 30 (by decide +kernel)) rfl
theorem k_code_OJ_init : cw_OJ_init ∈ TW := tw_of (in_t1 31 (by decide +kernel)) rfl
theorem k_cl_C_9 : Cond.classLink R_C 9 R_S ∈ TW := tw_of (in_t1 32 (by decide +kernel)) rfl
theorem k_new_S : Cond.instantiable R_S 1 ∈ TW := tw_of (in_t1 33 (by decide +kernel)) rfl
theorem k_ml_C_11 : Cond.methodLink R_C 11 y_S_init ∈ TW := tw_of (in_t1 34 (by decide +kernel)) rfl
theorem k_im_S_init : Cond.instanceMethod y_S_init ∈ TW := tw_of (in_t1 35 (by decide +kernel)) rfl
theorem k_code_S_init : cw_S_init ∈ TW := tw_of (in_t1 36 (by decide +kernel)) rfl
theorem k_ml_S_3 : Cond.methodLink R_S 3 y_OJ_init ∈ TW := tw_of (in_t1 37 (by decide +kernel)) rfl
theorem k_fl_S_9 : Cond.fieldLink R_S 9 "ConstraintCompiler$Sum" "coefficients" "[I" ∈ TW := tw_of (in_t1 38 (by decide +kernel)) rfl
theorem k_fl_K_31 : Cond.fieldLink R_K 31 "ConstraintCompiler$Sum" "coefficients" "[I" ∈ TW := tw_of (in_t1 39 (by decide +kernel)) rfl
theorem k_fl_C_163 : Cond.fieldLink R_C 163 "ConstraintCompiler$Sum" "coefficients" "[I" ∈ TW := tw_of (in_t1 40 (by decide +kernel)) rfl
theorem k_ac_int : Cond.arrayClass .int ∈ TW := tw_of (in_t1 44 (by decide +kernel)) rfl
theorem k_ml_C_16 : Cond.methodLink R_C 16 y_S_ofVariable ∈ TW := tw_of (in_t1 45 (by decide +kernel)) rfl
theorem k_st_S_ofVariable : Cond.static y_S_ofVariable ∈ TW := tw_of (in_t1 46 (by decide +kernel)) rfl
theorem k_code_S_ofVariable : cw_S_ofVariable ∈ TW := tw_of (in_t1 47 (by decide +kernel)) rfl
theorem k_cl_S_10 : Cond.classLink R_S 10 R_S ∈ TW := tw_of (in_t1 48 (by decide +kernel)) rfl
theorem k_ml_S_15 : Cond.methodLink R_S 15 y_S_init ∈ TW := tw_of (in_t1 49 (by decide +kernel)) rfl
theorem k_cl_C_23 : Cond.classLink R_C 23 R_A ∈ TW := tw_of (in_t1 50 (by decide +kernel)) rfl
theorem k_new_A : Cond.instantiable R_A 3 ∈ TW := tw_of (in_t1 51 (by decide +kernel)) rfl
theorem k_ml_C_25 : Cond.methodLink R_C 25 y_A_init ∈ TW := tw_of (in_t1 52 (by decide +kernel)) rfl
theorem k_im_A_init : Cond.instanceMethod y_A_init ∈ TW := tw_of (in_t1 53 (by decide +kernel)) rfl
theorem k_code_A_init : cw_A_init ∈ TW := tw_of (in_t1 54 (by decide +kernel)) rfl
theorem k_ml_A_1 : Cond.methodLink R_A 1 y_AL_init ∈ TW := tw_of (in_t1 55 (by decide +kernel)) rfl
theorem k_im_AL_init : Cond.instanceMethod y_AL_init ∈ TW := tw_of (in_t1 56 (by decide +kernel)) rfl
theorem k_code_AL_init : cw_AL_init ∈ TW := tw_of (in_t1 57 (by decide +kernel)) rfl
theorem k_ml_AL_1 : Cond.methodLink R_AL 1 y_AC_init ∈ TW := tw_of (in_t1 58 (by decide +kernel)) rfl
theorem k_im_AC_init : Cond.instanceMethod y_AC_init ∈ TW := tw_of (in_t1 59 (by decide +kernel)) rfl
theorem k_code_AC_init : cw_AC_init ∈ TW := tw_of (in_t1 60 (by decide +kernel)) rfl
theorem k_ml_AC_1 : Cond.methodLink R_AC 1 y_OJ_init ∈ TW := tw_of (in_t1 61 (by decide +kernel)) rfl
theorem k_fl_A_39 : Cond.fieldLink R_A 39 "java/util/ArrayList" "DEFAULTCAPACITY_EMPTY_ELEMENTDATA" "[Ljava/lang/Object;" ∈ TW := tw_of (in_t1 62 (by decide +kernel)) rfl
theorem k_fl_A_9 : Cond.fieldLink R_A 9 "java/util/ArrayList" "elementData" "[Ljava/lang/Object;" ∈ TW := tw_of (in_t1 64 (by decide +kernel)) rfl
theorem k_fl_A_48 : Cond.fieldLink R_A 48 "java/util/ArrayList" "size" "I" ∈ TW := tw_of (in_t1 65 (by decide +kernel)) rfl
theorem k_fl_AL_7 : Cond.fieldLink R_AL 7 "java/util/AbstractList" "modCount" "I" ∈ TW := tw_of (in_t1 66 (by decide +kernel)) rfl
theorem k_fl_A_63 : Cond.fieldLink R_A 63 "java/util/ArrayList" "modCount" "I" ∈ TW := tw_of (in_t1 67 (by decide +kernel)) rfl
theorem k_sf : Cond.sameField "java/util/ArrayList" "java/util/AbstractList" "modCount" "I" ∈ TW := tw_of (in_t1 68 (by decide +kernel)) rfl
theorem k_cl_C_43 : Cond.classLink R_C 43 R_V ∈ TW := tw_of (in_t1 76 (by decide +kernel)) rfl
theorem k_new_V : Cond.instantiable R_V 4 ∈ TW := tw_of (in_t1 77 (by decide +kernel)) rfl
theorem k_ml_C_45 : Cond.methodLink R_C 45 y_V_init ∈ TW := tw_of (in_t1 78 (by decide +kernel)) rfl
theorem k_im_V_init : Cond.instanceMethod y_V_init ∈ TW := tw_of (in_t1 79 (by decide +kernel)) rfl
theorem k_code_V_init : cw_V_init ∈ TW := tw_of (in_t1 80 (by decide +kernel)) rfl
theorem k_ml_V_3 : Cond.methodLink R_V 3 y_OJ_init ∈ TW := tw_of (in_t1 81 (by decide +kernel)) rfl
theorem k_fl_V_9 : Cond.fieldLink R_V 9 "ConstraintCompiler$Variable" "rule" "I" ∈ TW := tw_of (in_t1 82 (by decide +kernel)) rfl
theorem k_fl_V_15 : Cond.fieldLink R_V 15 "ConstraintCompiler$Variable" "left" "LConstraintCompiler$Sum;" ∈ TW := tw_of (in_t1 83 (by decide +kernel)) rfl
theorem k_fl_V_19 : Cond.fieldLink R_V 19 "ConstraintCompiler$Variable" "right" "LConstraintCompiler$Sum;" ∈ TW := tw_of (in_t1 84 (by decide +kernel)) rfl
theorem k_fl_V_28 : Cond.fieldLink R_V 28 "ConstraintCompiler$Variable" "given" "I" ∈ TW := tw_of (in_t1 85 (by decide +kernel)) rfl
theorem k_fl_C_119 : Cond.fieldLink R_C 119 "ConstraintCompiler$Variable" "given" "I" ∈ TW := tw_of (in_t1 86 (by decide +kernel)) rfl
theorem k_ml_C_48 : Cond.methodLink R_C 48 y_A_add1 ∈ TW := tw_of (in_t1 96 (by decide +kernel)) rfl
theorem k_im_A_add1 : Cond.instanceMethod y_A_add1 ∈ TW := tw_of (in_t1 97 (by decide +kernel)) rfl
theorem k_se_A_add1 : Cond.selects R_A y_A_add1 y_A_add1 ∈ TW := tw_of (in_t1 98 (by decide +kernel)) rfl
theorem k_code_A_add1 : cw_A_add1 ∈ TW := tw_of (in_t1 99 (by decide +kernel)) rfl
theorem k_ml_A_131 : Cond.methodLink R_A 131 y_A_add3 ∈ TW := tw_of (in_t1 100 (by decide +kernel)) rfl
theorem k_im_A_add3 : Cond.instanceMethod y_A_add3 ∈ TW := tw_of (in_t1 102 (by decide +kernel)) rfl
theorem k_code_A_add3 : cw_A_add3 ∈ TW := tw_of (in_t1 103 (by decide +kernel)) rfl
theorem k_ml_A_129 : Cond.methodLink R_A 129 y_A_grow0 ∈ TW := tw_of (in_t1 104 (by decide +kernel)) rfl
theorem k_im_A_grow0 : Cond.instanceMethod y_A_grow0 ∈ TW := tw_of (in_t1 106 (by decide +kernel)) rfl
theorem k_code_A_grow0 : cw_A_grow0 ∈ TW := tw_of (in_t1 107 (by decide +kernel)) rfl
theorem k_ml_A_69 : Cond.methodLink R_A 69 y_A_grow1 ∈ TW := tw_of (in_t1 108 (by decide +kernel)) rfl
theorem k_im_A_grow1 : Cond.instanceMethod y_A_grow1 ∈ TW := tw_of (in_t1 110 (by decide +kernel)) rfl
theorem k_code_A_grow1 : cw_A_grow1 ∈ TW := tw_of (in_t1 111 (by decide +kernel)) rfl
theorem k_ml_A_73 : Cond.methodLink R_A 73 y_AS_newLength ∈ TW := tw_of (in_t1 112 (by decide +kernel)) rfl
theorem k_st_AS_newLength : Cond.static y_AS_newLength ∈ TW := tw_of (in_t1 113 (by decide +kernel)) rfl
theorem k_code_AS_newLength : cw_AS_newLength ∈ TW := tw_of (in_t1 114 (by decide +kernel)) rfl
theorem k_ml_AS_194 : Cond.methodLink R_AS 194 y_MA_max ∈ TW := tw_of (in_t1 115 (by decide +kernel)) rfl
theorem k_st_MA_max : Cond.static y_MA_max ∈ TW := tw_of (in_t1 116 (by decide +kernel)) rfl
theorem k_code_MA_max : cw_MA_max ∈ TW := tw_of (in_t1 117 (by decide +kernel)) rfl
theorem k_co_AS_200 : Cond.constant R_AS 200 2147483639 ∈ TW := tw_of (in_t1 118 (by decide +kernel)) rfl
theorem k_ml_AS_201 : Cond.methodLink R_AS 201 y_AS_hugeLength ∈ TW := tw_of (in_t1 119 (by decide +kernel)) rfl
theorem k_st_AS_hugeLength : Cond.static y_AS_hugeLength ∈ TW := tw_of (in_t1 120 (by decide +kernel)) rfl
theorem k_code_AS_hugeLength : cw_AS_hugeLength ∈ TW := tw_of (in_t1 121 (by decide +kernel)) rfl
theorem k_ml_A_66 : Cond.methodLink R_A 66 y_AR_copyOf2 ∈ TW := tw_of (in_t1 122 (by decide +kernel)) rfl
theorem k_st_AR_copyOf2 : Cond.static y_AR_copyOf2 ∈ TW := tw_of (in_t1 123 (by decide +kernel)) rfl
theorem k_code_AR_copyOf2 : cw_AR_copyOf2 ∈ TW := tw_of (in_t1 124 (by decide +kernel)) rfl
theorem k_ml_AR_86 : Cond.methodLink R_AR 86 ⟨"java/lang/Object", "getClass", "()Ljava/lang/Class;"⟩ ∈ TW := tw_of (in_t1 125 (by decide +kernel)) rfl
theorem k_im_getClass : Cond.instanceMethod ⟨"java/lang/Object", "getClass", "()Ljava/lang/Class;"⟩ ∈ TW := tw_of (in_t1 126 (by decide +kernel)) rfl
theorem k_na_getClass : Cond.native ⟨"java/lang/Object", "getClass", "()Ljava/lang/Class;"⟩ ∈ TW := tw_of (in_t1 140 (by decide +kernel)) rfl
theorem k_ml_AR_300 : Cond.methodLink R_AR 300 y_AR_copyOf3 ∈ TW := tw_of (in_t1 141 (by decide +kernel)) rfl
theorem k_st_AR_copyOf3 : Cond.static y_AR_copyOf3 ∈ TW := tw_of (in_t1 142 (by decide +kernel)) rfl
theorem k_code_AR_copyOf3 : cw_AR_copyOf3 ∈ TW := tw_of (in_t1 143 (by decide +kernel)) rfl
theorem k_cl_AR_110 : Cond.classLink R_AR 110 "[Ljava/lang/Object;" ∈ TW := tw_of (in_t1 144 (by decide +kernel)) rfl
theorem k_cl_AR_2 : Cond.classLink R_AR 2 R_OJ ∈ TW := tw_of (in_t1 146 (by decide +kernel)) rfl
theorem k_ml_AR_304 : Cond.methodLink R_AR 304 y_MA_min ∈ TW := tw_of (in_t1 147 (by decide +kernel)) rfl
theorem k_st_MA_min : Cond.static y_MA_min ∈ TW := tw_of (in_t1 148 (by decide +kernel)) rfl
theorem k_code_MA_min : cw_MA_min ∈ TW := tw_of (in_t1 149 (by decide +kernel)) rfl
theorem k_ml_AR_150 : Cond.methodLink R_AR 150 ⟨"java/lang/System", "arraycopy", "(Ljava/lang/Object;ILjava/lang/Object;II)V"⟩ ∈ TW := tw_of (in_t1 150 (by decide +kernel)) rfl
theorem k_st_arraycopy : Cond.static ⟨"java/lang/System", "arraycopy", "(Ljava/lang/Object;ILjava/lang/Object;II)V"⟩ ∈ TW := tw_of (in_t1 151 (by decide +kernel)) rfl
theorem k_na_arraycopy : Cond.native ⟨"java/lang/System", "arraycopy", "(Ljava/lang/Object;ILjava/lang/Object;II)V"⟩ ∈ TW := tw_of (in_t1 152 (by decide +kernel)) rfl
theorem k_ml_A_79 : Cond.methodLink R_A 79 y_MA_max ∈ TW := tw_of (in_t1 153 (by decide +kernel)) rfl
theorem k_cl_A_7 : Cond.classLink R_A 7 R_OJ ∈ TW := tw_of (in_t1 154 (by decide +kernel)) rfl
theorem k_fl_C_12 : Cond.fieldLink R_C 12 "ConstraintCompiler" "zero" "LConstraintCompiler$Sum;" ∈ TW := tw_of (in_t1 155 (by decide +kernel)) rfl
theorem k_fl_C_20 : Cond.fieldLink R_C 20 "ConstraintCompiler" "one" "LConstraintCompiler$Sum;" ∈ TW := tw_of (in_t1 156 (by decide +kernel)) rfl
theorem k_fl_C_26 : Cond.fieldLink R_C 26 "ConstraintCompiler" "variables" "Ljava/util/ArrayList;" ∈ TW := tw_of (in_t1 157 (by decide +kernel)) rfl
theorem k_fl_C_30 : Cond.fieldLink R_C 30 "ConstraintCompiler" "expressions" "Ljava/util/ArrayList;" ∈ TW := tw_of (in_t1 158 (by decide +kernel)) rfl
theorem k_fl_C_33 : Cond.fieldLink R_C 33 "ConstraintCompiler" "constraints" "Ljava/util/ArrayList;" ∈ TW := tw_of (in_t1 159 (by decide +kernel)) rfl
theorem k_fl_C_172 : Cond.fieldLink R_C 172 "ConstraintCompiler" "inputs" "I" ∈ TW := tw_of (in_t1 160 (by decide +kernel)) rfl
theorem k_fl_C_36 : Cond.fieldLink R_C 36 "ConstraintCompiler" "witness" "[I" ∈ TW := tw_of (in_t1 161 (by decide +kernel)) rfl
theorem k_fl_C_40 : Cond.fieldLink R_C 40 "ConstraintCompiler" "draft" "[I" ∈ TW := tw_of (in_t1 162 (by decide +kernel)) rfl
theorem k_fl_C_132 : Cond.fieldLink R_C 132 "ConstraintCompiler" "witnessVariables" "I" ∈ TW := tw_of (in_t1 163 (by decide +kernel)) rfl
theorem k_fl_C_135 : Cond.fieldLink R_C 135 "ConstraintCompiler" "witnessConstraints" "I" ∈ TW := tw_of (in_t1 164 (by decide +kernel)) rfl
theorem k_ml_L_64 : Cond.methodLink R_L 64 y_L_expression ∈ TW := tw_of (in_t1 186 (by decide +kernel)) rfl
theorem k_st_L_expression : Cond.static y_L_expression ∈ TW := tw_of (in_t1 187 (by decide +kernel)) rfl
theorem k_code_L_expression : cw_L_expression ∈ TW := tw_of (in_t1 188 (by decide +kernel)) rfl
theorem k_cl_L_13 : Cond.classLink R_L 13 "java/lang/IllegalArgumentException" ∈ TW := tw_of (in_t1 189 (by decide +kernel)) rfl
theorem k_cl_L_15 : Cond.classLink R_L 15 "java/lang/IllegalStateException" ∈ TW := tw_of (in_t1 190 (by decide +kernel)) rfl
theorem k_ml_L_7 : Cond.methodLink R_L 7 y_C_expression ∈ TW := tw_of (in_t1 191 (by decide +kernel)) rfl
theorem k_im_C_expression : Cond.instanceMethod y_C_expression ∈ TW := tw_of (in_t1 192 (by decide +kernel)) rfl
theorem k_se_C_expression : Cond.selects R_C y_C_expression y_C_expression ∈ TW := tw_of (in_t1 193 (by decide +kernel)) rfl
theorem k_code_C_expression : cw_C_expression ∈ TW := tw_of (in_t1 194 (by decide +kernel)) rfl
theorem k_ml_C_52 : Cond.methodLink R_C 52 y_C_isWellFormed ∈ TW := tw_of (in_t1 195 (by decide +kernel)) rfl
theorem k_im_C_isWellFormed : Cond.instanceMethod y_C_isWellFormed ∈ TW := tw_of (in_t1 197 (by decide +kernel)) rfl
theorem k_code_C_isWellFormed : cw_C_isWellFormed ∈ TW := tw_of (in_t1 198 (by decide +kernel)) rfl
theorem k_ml_C_82 : Cond.methodLink R_C 82 y_C_isMade ∈ TW := tw_of (in_t1 199 (by decide +kernel)) rfl
theorem k_im_C_isMade : Cond.instanceMethod y_C_isMade ∈ TW := tw_of (in_t1 201 (by decide +kernel)) rfl
theorem k_code_C_isMade : cw_C_isMade ∈ TW := tw_of (in_t1 202 (by decide +kernel)) rfl
theorem k_ml_C_78 : Cond.methodLink R_C 78 y_A_size ∈ TW := tw_of (in_t1 203 (by decide +kernel)) rfl
theorem k_im_A_size : Cond.instanceMethod y_A_size ∈ TW := tw_of (in_t1 204 (by decide +kernel)) rfl
theorem k_se_A_size : Cond.selects R_A y_A_size y_A_size ∈ TW := tw_of (in_t1 205 (by decide +kernel)) rfl
theorem k_code_A_size : cw_A_size ∈ TW := tw_of (in_t1 206 (by decide +kernel)) rfl
theorem k_cl_C_56 : Cond.classLink R_C 56 "java/lang/IllegalArgumentException" ∈ TW := tw_of (in_t1 207 (by decide +kernel)) rfl
theorem k_ca_IllegalArgumentException_IllegalArgumentException : Cond.castable "java/lang/IllegalArgumentException" "java/lang/IllegalArgumentException" ∈ NW := nw_of (in_t1 209 (by decide +kernel)) rfl
theorem k_na_fillInStackTrace0 : Cond.native ⟨"java/lang/Throwable", "fillInStackTrace", "(I)Ljava/lang/Throwable;"⟩ ∈ TW := tw_of (in_t2 9 (by decide +kernel)) rfl
theorem k_ml_C_58 : Cond.methodLink R_C 58 ⟨"java/lang/IllegalArgumentException", "<init>", "()V"⟩ ∈ TW := tw_of (in_t2 10 (by decide +kernel)) rfl
theorem k_ml_C_59 : Cond.methodLink R_C 59 y_C_hasRoomFor ∈ TW := tw_of (in_t2 32 (by decide +kernel)) rfl
theorem k_im_C_hasRoomFor : Cond.instanceMethod y_C_hasRoomFor ∈ TW := tw_of (in_t2 34 (by decide +kernel)) rfl
theorem k_code_C_hasRoomFor : cw_C_hasRoomFor ∈ TW := tw_of (in_t2 35 (by decide +kernel)) rfl
theorem k_ml_C_181 : Cond.methodLink R_C 181 y_C_constraintsNeeded ∈ TW := tw_of (in_t2 36 (by decide +kernel)) rfl
theorem k_im_C_constraintsNeeded : Cond.instanceMethod y_C_constraintsNeeded ∈ TW := tw_of (in_t2 38 (by decide +kernel)) rfl
theorem k_code_C_constraintsNeeded : cw_C_constraintsNeeded ∈ TW := tw_of (in_t2 39 (by decide +kernel)) rfl
theorem k_ml_C_94 : Cond.methodLink R_C 94 y_C_sumOf ∈ TW := tw_of (in_t2 40 (by decide +kernel)) rfl
theorem k_im_C_sumOf : Cond.instanceMethod y_C_sumOf ∈ TW := tw_of (in_t2 42 (by decide +kernel)) rfl
theorem k_code_C_sumOf : cw_C_sumOf ∈ TW := tw_of (in_t2 43 (by decide +kernel)) rfl
theorem k_ml_C_104 : Cond.methodLink R_C 104 y_A_get ∈ TW := tw_of (in_t2 44 (by decide +kernel)) rfl
theorem k_im_A_get : Cond.instanceMethod y_A_get ∈ TW := tw_of (in_t2 45 (by decide +kernel)) rfl
theorem k_se_A_get : Cond.selects R_A y_A_get y_A_get ∈ TW := tw_of (in_t2 46 (by decide +kernel)) rfl
theorem k_code_A_get : cw_A_get ∈ TW := tw_of (in_t2 47 (by decide +kernel)) rfl
theorem k_ml_A_118 : Cond.methodLink R_A 118 y_OB_checkIndex ∈ TW := tw_of (in_t2 48 (by decide +kernel)) rfl
theorem k_st_OB_checkIndex : Cond.static y_OB_checkIndex ∈ TW := tw_of (in_t2 49 (by decide +kernel)) rfl
theorem k_code_OB_checkIndex : cw_OB_checkIndex ∈ TW := tw_of (in_t2 50 (by decide +kernel)) rfl
theorem k_ml_OB_105 : Cond.methodLink R_OB 105 y_PC_checkIndex ∈ TW := tw_of (in_t2 51 (by decide +kernel)) rfl
theorem k_st_PC_checkIndex : Cond.static y_PC_checkIndex ∈ TW := tw_of (in_t2 52 (by decide +kernel)) rfl
theorem k_code_PC_checkIndex : cw_PC_checkIndex ∈ TW := tw_of (in_t2 53 (by decide +kernel)) rfl
theorem k_ml_A_123 : Cond.methodLink R_A 123 y_A_elementData ∈ TW := tw_of (in_t2 54 (by decide +kernel)) rfl
theorem k_im_A_elementData : Cond.instanceMethod y_A_elementData ∈ TW := tw_of (in_t2 55 (by decide +kernel)) rfl
theorem k_se_A_elementData : Cond.selects R_A y_A_elementData y_A_elementData ∈ TW := tw_of (in_t2 56 (by decide +kernel)) rfl
theorem k_code_A_elementData : cw_A_elementData ∈ TW := tw_of (in_t2 57 (by decide +kernel)) rfl
theorem k_cl_C_69 : Cond.classLink R_C 69 R_E ∈ TW := tw_of (in_t2 58 (by decide +kernel)) rfl
theorem k_ml_C_185 : Cond.methodLink R_C 185 y_C_constraintsOfProduct ∈ TW := tw_of (in_t2 59 (by decide +kernel)) rfl
theorem k_st_C_constraintsOfProduct : Cond.static y_C_constraintsOfProduct ∈ TW := tw_of (in_t2 60 (by decide +kernel)) rfl
theorem k_code_C_constraintsOfProduct : cw_C_constraintsOfProduct ∈ TW := tw_of (in_t2 61 (by decide +kernel)) rfl
theorem k_ml_C_189 : Cond.methodLink R_C 189 y_S_isConstant ∈ TW := tw_of (in_t2 62 (by decide +kernel)) rfl
theorem k_im_S_isConstant : Cond.instanceMethod y_S_isConstant ∈ TW := tw_of (in_t2 63 (by decide +kernel)) rfl
theorem k_se_S_isConstant : Cond.selects R_S y_S_isConstant y_S_isConstant ∈ TW := tw_of (in_t2 64 (by decide +kernel)) rfl
theorem k_code_S_isConstant : cw_S_isConstant ∈ TW := tw_of (in_t2 65 (by decide +kernel)) rfl
theorem k_ml_S_24 : Cond.methodLink R_S 24 y_S_lastVariable ∈ TW := tw_of (in_t2 66 (by decide +kernel)) rfl
theorem k_im_S_lastVariable : Cond.instanceMethod y_S_lastVariable ∈ TW := tw_of (in_t2 67 (by decide +kernel)) rfl
theorem k_se_S_lastVariable : Cond.selects R_S y_S_lastVariable y_S_lastVariable ∈ TW := tw_of (in_t2 68 (by decide +kernel)) rfl
theorem k_code_S_lastVariable : cw_S_lastVariable ∈ TW := tw_of (in_t2 69 (by decide +kernel)) rfl
theorem k_ml_C_86 : Cond.methodLink R_C 86 y_C_difference ∈ TW := tw_of (in_t2 70 (by decide +kernel)) rfl
theorem k_im_C_difference : Cond.instanceMethod y_C_difference ∈ TW := tw_of (in_t2 72 (by decide +kernel)) rfl
theorem k_code_C_difference : cw_C_difference ∈ TW := tw_of (in_t2 73 (by decide +kernel)) rfl
theorem k_ml_C_97 : Cond.methodLink R_C 97 y_S_minus ∈ TW := tw_of (in_t2 74 (by decide +kernel)) rfl
theorem k_im_S_minus : Cond.instanceMethod y_S_minus ∈ TW := tw_of (in_t2 75 (by decide +kernel)) rfl
theorem k_se_S_minus : Cond.selects R_S y_S_minus y_S_minus ∈ TW := tw_of (in_t2 76 (by decide +kernel)) rfl
theorem k_code_S_minus : cw_S_minus ∈ TW := tw_of (in_t2 77 (by decide +kernel)) rfl
theorem k_ml_S_16 : Cond.methodLink R_S 16 y_S_combinedWith ∈ TW := tw_of (in_t2 78 (by decide +kernel)) rfl
theorem k_im_S_combinedWith : Cond.instanceMethod y_S_combinedWith ∈ TW := tw_of (in_t2 80 (by decide +kernel)) rfl
theorem k_code_S_combinedWith : cw_S_combinedWith ∈ TW := tw_of (in_t2 81 (by decide +kernel)) rfl
theorem k_mn_S_20 : Cond.methodLinkNest R_S 20 y_C_remainder R_C ∈ NW := nw_of (in_t2 82 (by decide +kernel)) rfl
theorem k_st_C_remainder : Cond.static y_C_remainder ∈ TW := tw_of (in_t2 83 (by decide +kernel)) rfl
theorem k_code_C_remainder : cw_C_remainder ∈ TW := tw_of (in_t2 84 (by decide +kernel)) rfl
theorem k_ml_C_175 : Cond.methodLink R_C 175 y_MA_floorMod ∈ TW := tw_of (in_t2 85 (by decide +kernel)) rfl
theorem k_st_MA_floorMod : Cond.static y_MA_floorMod ∈ TW := tw_of (in_t2 86 (by decide +kernel)) rfl
theorem k_code_MA_floorMod : cw_MA_floorMod ∈ TW := tw_of (in_t2 87 (by decide +kernel)) rfl
theorem k_cl_C_62 : Cond.classLink R_C 62 "java/lang/IllegalStateException" ∈ TW := tw_of (in_t2 88 (by decide +kernel)) rfl
theorem k_ca_IllegalStateException_IllegalStateException : Cond.castable "java/lang/IllegalStateException" "java/lang/IllegalStateException" ∈ NW := nw_of (in_t2 90 (by decide +kernel)) rfl
theorem k_ml_C_64 : Cond.methodLink R_C 64 ⟨"java/lang/IllegalStateException", "<init>", "()V"⟩ ∈ TW := tw_of (in_t2 97 (by decide +kernel)) rfl
theorem k_ml_C_65 : Cond.methodLink R_C 65 y_C_makeInput ∈ TW := tw_of (in_t2 103 (by decide +kernel)) rfl
theorem k_im_C_makeInput : Cond.instanceMethod y_C_makeInput ∈ TW := tw_of (in_t2 105 (by decide +kernel)) rfl
theorem k_code_C_makeInput : cw_C_makeInput ∈ TW := tw_of (in_t2 106 (by decide +kernel)) rfl
theorem k_ml_C_195 : Cond.methodLink R_C 195 y_C_addVariable ∈ TW := tw_of (in_t2 107 (by decide +kernel)) rfl
theorem k_im_C_addVariable : Cond.instanceMethod y_C_addVariable ∈ TW := tw_of (in_t2 109 (by decide +kernel)) rfl
theorem k_code_C_addVariable : cw_C_addVariable ∈ TW := tw_of (in_t2 110 (by decide +kernel)) rfl
theorem k_new_E : Cond.instantiable R_E 2 ∈ TW := tw_of (in_t2 111 (by decide +kernel)) rfl
theorem k_ml_C_75 : Cond.methodLink R_C 75 y_E_init ∈ TW := tw_of (in_t2 112 (by decide +kernel)) rfl
theorem k_im_E_init : Cond.instanceMethod y_E_init ∈ TW := tw_of (in_t2 113 (by decide +kernel)) rfl
theorem k_code_E_init : cw_E_init ∈ TW := tw_of (in_t2 114 (by decide +kernel)) rfl
theorem k_ml_E_1 : Cond.methodLink R_E 1 y_OJ_init ∈ TW := tw_of (in_t2 115 (by decide +kernel)) rfl
theorem k_fl_E_7 : Cond.fieldLink R_E 7 "ConstraintCompiler$Expression" "sum" "LConstraintCompiler$Sum;" ∈ TW := tw_of (in_t2 116 (by decide +kernel)) rfl
theorem k_fl_C_192 : Cond.fieldLink R_C 192 "ConstraintCompiler$Expression" "sum" "LConstraintCompiler$Sum;" ∈ TW := tw_of (in_t2 117 (by decide +kernel)) rfl
theorem k_fl_E_13 : Cond.fieldLink R_E 13 "ConstraintCompiler$Expression" "input" "I" ∈ TW := tw_of (in_t2 118 (by decide +kernel)) rfl
theorem k_fl_C_115 : Cond.fieldLink R_C 115 "ConstraintCompiler$Expression" "input" "I" ∈ TW := tw_of (in_t2 119 (by decide +kernel)) rfl
theorem k_ml_C_71 : Cond.methodLink R_C 71 y_C_makeSum ∈ TW := tw_of (in_t2 125 (by decide +kernel)) rfl
theorem k_im_C_makeSum : Cond.instanceMethod y_C_makeSum ∈ TW := tw_of (in_t2 127 (by decide +kernel)) rfl
theorem k_code_C_makeSum : cw_C_makeSum ∈ TW := tw_of (in_t2 128 (by decide +kernel)) rfl
theorem k_ml_C_199 : Cond.methodLink R_C 199 y_S_plus ∈ TW := tw_of (in_t2 129 (by decide +kernel)) rfl
theorem k_im_S_plus : Cond.instanceMethod y_S_plus ∈ TW := tw_of (in_t2 130 (by decide +kernel)) rfl
theorem k_se_S_plus : Cond.selects R_S y_S_plus y_S_plus ∈ TW := tw_of (in_t2 131 (by decide +kernel)) rfl
theorem k_code_S_plus : cw_S_plus ∈ TW := tw_of (in_t2 132 (by decide +kernel)) rfl
theorem k_ml_C_202 : Cond.methodLink R_C 202 y_C_makeProduct ∈ TW := tw_of (in_t2 133 (by decide +kernel)) rfl
theorem k_im_C_makeProduct : Cond.instanceMethod y_C_makeProduct ∈ TW := tw_of (in_t2 135 (by decide +kernel)) rfl
theorem k_code_C_makeProduct : cw_C_makeProduct ∈ TW := tw_of (in_t2 136 (by decide +kernel)) rfl
theorem k_ml_C_216 : Cond.methodLink R_C 216 y_S_scaledBy ∈ TW := tw_of (in_t2 137 (by decide +kernel)) rfl
theorem k_im_S_scaledBy : Cond.instanceMethod y_S_scaledBy ∈ TW := tw_of (in_t2 138 (by decide +kernel)) rfl
theorem k_se_S_scaledBy : Cond.selects R_S y_S_scaledBy y_S_scaledBy ∈ TW := tw_of (in_t2 139 (by decide +kernel)) rfl
theorem k_code_S_scaledBy : cw_S_scaledBy ∈ TW := tw_of (in_t2 140 (by decide +kernel)) rfl
theorem k_ml_C_219 : Cond.methodLink R_C 219 y_C_makeConstrainedProduct ∈ TW := tw_of (in_t2 141 (by decide +kernel)) rfl
theorem k_im_C_makeConstrainedProduct : Cond.instanceMethod y_C_makeConstrainedProduct ∈ TW := tw_of (in_t2 143 (by decide +kernel)) rfl
theorem k_code_C_makeConstrainedProduct : cw_C_makeConstrainedProduct ∈ TW := tw_of (in_t2 144 (by decide +kernel)) rfl
theorem k_ml_C_90 : Cond.methodLink R_C 90 y_C_addConstraint ∈ TW := tw_of (in_t2 145 (by decide +kernel)) rfl
theorem k_im_C_addConstraint : Cond.instanceMethod y_C_addConstraint ∈ TW := tw_of (in_t2 147 (by decide +kernel)) rfl
theorem k_code_C_addConstraint : cw_C_addConstraint ∈ TW := tw_of (in_t2 148 (by decide +kernel)) rfl
theorem k_cl_C_151 : Cond.classLink R_C 151 R_K ∈ TW := tw_of (in_t2 149 (by decide +kernel)) rfl
theorem k_new_K : Cond.instantiable R_K 3 ∈ TW := tw_of (in_t2 150 (by decide +kernel)) rfl
theorem k_ml_C_222 : Cond.methodLink R_C 222 y_K_init ∈ TW := tw_of (in_t2 151 (by decide +kernel)) rfl
theorem k_im_K_init : Cond.instanceMethod y_K_init ∈ TW := tw_of (in_t2 152 (by decide +kernel)) rfl
theorem k_code_K_init : cw_K_init ∈ TW := tw_of (in_t2 153 (by decide +kernel)) rfl
theorem k_ml_K_1 : Cond.methodLink R_K 1 y_OJ_init ∈ TW := tw_of (in_t2 154 (by decide +kernel)) rfl
theorem k_fl_K_7 : Cond.fieldLink R_K 7 "ConstraintCompiler$Constraint" "a" "LConstraintCompiler$Sum;" ∈ TW := tw_of (in_t2 155 (by decide +kernel)) rfl
theorem k_fl_K_13 : Cond.fieldLink R_K 13 "ConstraintCompiler$Constraint" "b" "LConstraintCompiler$Sum;" ∈ TW := tw_of (in_t2 156 (by decide +kernel)) rfl
theorem k_fl_K_16 : Cond.fieldLink R_K 16 "ConstraintCompiler$Constraint" "c" "LConstraintCompiler$Sum;" ∈ TW := tw_of (in_t2 157 (by decide +kernel)) rfl
theorem k_ml_C_206 : Cond.methodLink R_C 206 y_C_makeShare ∈ TW := tw_of (in_t2 165 (by decide +kernel)) rfl
theorem k_im_C_makeShare : Cond.instanceMethod y_C_makeShare ∈ TW := tw_of (in_t2 167 (by decide +kernel)) rfl
theorem k_code_C_makeShare : cw_C_makeShare ∈ TW := tw_of (in_t2 168 (by decide +kernel)) rfl
theorem k_ml_C_209 : Cond.methodLink R_C 209 y_C_makeSame ∈ TW := tw_of (in_t2 169 (by decide +kernel)) rfl
theorem k_im_C_makeSame : Cond.instanceMethod y_C_makeSame ∈ TW := tw_of (in_t2 171 (by decide +kernel)) rfl
theorem k_code_C_makeSame : cw_C_makeSame ∈ TW := tw_of (in_t2 172 (by decide +kernel)) rfl
theorem k_ml_C_212 : Cond.methodLink R_C 212 y_C_makePower ∈ TW := tw_of (in_t2 173 (by decide +kernel)) rfl
theorem k_im_C_makePower : Cond.instanceMethod y_C_makePower ∈ TW := tw_of (in_t2 175 (by decide +kernel)) rfl
theorem k_code_C_makePower : cw_C_makePower ∈ TW := tw_of (in_t2 176 (by decide +kernel)) rfl
theorem k_ml_C_122 : Cond.methodLink R_C 122 y_C_remainder ∈ TW := tw_of (in_t2 177 (by decide +kernel)) rfl
theorem k_ml_L_73 : Cond.methodLink R_L 73 y_L_claim ∈ TW := tw_of (in_t2 178 (by decide +kernel)) rfl
theorem k_st_L_claim : Cond.static y_L_claim ∈ TW := tw_of (in_t2 179 (by decide +kernel)) rfl
theorem k_code_L_claim : cw_L_claim ∈ TW := tw_of (in_t2 180 (by decide +kernel)) rfl
theorem k_ml_L_17 : Cond.methodLink R_L 17 y_C_claim ∈ TW := tw_of (in_t2 181 (by decide +kernel)) rfl
theorem k_im_C_claim : Cond.instanceMethod y_C_claim ∈ TW := tw_of (in_t2 182 (by decide +kernel)) rfl
theorem k_se_C_claim : Cond.selects R_C y_C_claim y_C_claim ∈ TW := tw_of (in_t2 183 (by decide +kernel)) rfl
theorem k_code_C_claim : cw_C_claim ∈ TW := tw_of (in_t2 184 (by decide +kernel)) rfl
theorem k_ml_L_77 : Cond.methodLink R_L 77 y_L_give ∈ TW := tw_of (in_t2 185 (by decide +kernel)) rfl
theorem k_st_L_give : Cond.static y_L_give ∈ TW := tw_of (in_t2 186 (by decide +kernel)) rfl
theorem k_code_L_give : cw_L_give ∈ TW := tw_of (in_t2 187 (by decide +kernel)) rfl
theorem k_cl_L_25 : Cond.classLink R_L 25 "java/util/NoSuchElementException" ∈ TW := tw_of (in_t2 188 (by decide +kernel)) rfl
theorem k_cl_L_27 : Cond.classLink R_L 27 "java/lang/UnsupportedOperationException" ∈ TW := tw_of (in_t2 189 (by decide +kernel)) rfl
theorem k_ml_L_21 : Cond.methodLink R_L 21 y_C_give ∈ TW := tw_of (in_t2 190 (by decide +kernel)) rfl
theorem k_im_C_give : Cond.instanceMethod y_C_give ∈ TW := tw_of (in_t2 191 (by decide +kernel)) rfl
theorem k_se_C_give : Cond.selects R_C y_C_give y_C_give ∈ TW := tw_of (in_t2 192 (by decide +kernel)) rfl
theorem k_code_C_give : cw_C_give ∈ TW := tw_of (in_t2 193 (by decide +kernel)) rfl
theorem k_cl_C_101 : Cond.classLink R_C 101 "java/util/NoSuchElementException" ∈ TW := tw_of (in_t2 194 (by decide +kernel)) rfl
theorem k_ca_NoSuchElementException_NoSuchElementException : Cond.castable "java/util/NoSuchElementException" "java/util/NoSuchElementException" ∈ NW := nw_of (in_t2 196 (by decide +kernel)) rfl
theorem k_ml_C_103 : Cond.methodLink R_C 103 ⟨"java/util/NoSuchElementException", "<init>", "()V"⟩ ∈ TW := tw_of (in_t2 203 (by decide +kernel)) rfl
theorem k_ml_C_108 : Cond.methodLink R_C 108 y_E_isInput ∈ TW := tw_of (in_t2 209 (by decide +kernel)) rfl
theorem k_im_E_isInput : Cond.instanceMethod y_E_isInput ∈ TW := tw_of (in_t2 210 (by decide +kernel)) rfl
theorem k_se_E_isInput : Cond.selects R_E y_E_isInput y_E_isInput ∈ TW := tw_of (in_t2 211 (by decide +kernel)) rfl
theorem k_code_E_isInput : cw_E_isInput ∈ TW := tw_of (in_t2 212 (by decide +kernel)) rfl
theorem k_cl_C_112 : Cond.classLink R_C 112 "java/lang/UnsupportedOperationException" ∈ TW := tw_of (in_t2 213 (by decide +kernel)) rfl
theorem k_ca_UnsupportedOperationException_UnsupportedOperationException : Cond.castable "java/lang/UnsupportedOperationException" "java/lang/UnsupportedOperationException" ∈ NW := nw_of (in_t2 215 (by decide +kernel)) rfl
theorem k_ml_C_114 : Cond.methodLink R_C 114 ⟨"java/lang/UnsupportedOperationException", "<init>", "()V"⟩ ∈ TW := tw_of (in_t2 222 (by decide +kernel)) rfl
theorem k_ml_L_81 : Cond.methodLink R_L 81 y_L_solve ∈ TW := tw_of (in_t2 228 (by decide +kernel)) rfl
theorem k_st_L_solve : Cond.static y_L_solve ∈ TW := tw_of (in_t2 229 (by decide +kernel)) rfl
theorem k_code_L_solve : cw_L_solve ∈ TW := tw_of (in_t2 230 (by decide +kernel)) rfl
theorem k_cl_L_33 : Cond.classLink R_L 33 "java/lang/ArithmeticException" ∈ TW := tw_of (in_t2 231 (by decide +kernel)) rfl
theorem k_ml_L_29 : Cond.methodLink R_L 29 y_C_solve ∈ TW := tw_of (in_t2 232 (by decide +kernel)) rfl
theorem k_im_C_solve : Cond.instanceMethod y_C_solve ∈ TW := tw_of (in_t2 233 (by decide +kernel)) rfl
theorem k_se_C_solve : Cond.selects R_C y_C_solve y_C_solve ∈ TW := tw_of (in_t2 234 (by decide +kernel)) rfl
theorem k_code_C_solve : cw_C_solve ∈ TW := tw_of (in_t2 235 (by decide +kernel)) rfl
theorem k_ml_C_126 : Cond.methodLink R_C 126 y_C_fillDraft ∈ TW := tw_of (in_t2 236 (by decide +kernel)) rfl
theorem k_im_C_fillDraft : Cond.instanceMethod y_C_fillDraft ∈ TW := tw_of (in_t2 238 (by decide +kernel)) rfl
theorem k_code_C_fillDraft : cw_C_fillDraft ∈ TW := tw_of (in_t2 239 (by decide +kernel)) rfl
theorem k_ml_C_224 : Cond.methodLink R_C 224 y_V_numberFor ∈ TW := tw_of (in_t3 0 (by decide +kernel)) rfl
theorem k_im_V_numberFor : Cond.instanceMethod y_V_numberFor ∈ TW := tw_of (in_t3 1 (by decide +kernel)) rfl
theorem k_se_V_numberFor : Cond.selects R_V y_V_numberFor y_V_numberFor ∈ TW := tw_of (in_t3 2 (by decide +kernel)) rfl
theorem k_code_V_numberFor : cw_V_numberFor ∈ TW := tw_of (in_t3 3 (by decide +kernel)) rfl
theorem k_ml_V_22 : Cond.methodLink R_V 22 y_S_valueFor ∈ TW := tw_of (in_t3 4 (by decide +kernel)) rfl
theorem k_im_S_valueFor : Cond.instanceMethod y_S_valueFor ∈ TW := tw_of (in_t3 5 (by decide +kernel)) rfl
theorem k_se_S_valueFor : Cond.selects R_S y_S_valueFor y_S_valueFor ∈ TW := tw_of (in_t3 6 (by decide +kernel)) rfl
theorem k_code_S_valueFor : cw_S_valueFor ∈ TW := tw_of (in_t3 7 (by decide +kernel)) rfl
theorem k_mn_V_31 : Cond.methodLinkNest R_V 31 y_C_remainder R_C ∈ NW := nw_of (in_t3 8 (by decide +kernel)) rfl
theorem k_mn_V_35 : Cond.methodLinkNest R_V 35 y_C_inverseOrZero R_C ∈ NW := nw_of (in_t3 9 (by decide +kernel)) rfl
theorem k_st_C_inverseOrZero : Cond.static y_C_inverseOrZero ∈ TW := tw_of (in_t3 10 (by decide +kernel)) rfl
theorem k_code_C_inverseOrZero : cw_C_inverseOrZero ∈ TW := tw_of (in_t3 11 (by decide +kernel)) rfl
theorem k_cl_C_129 : Cond.classLink R_C 129 "java/lang/ArithmeticException" ∈ TW := tw_of (in_t3 12 (by decide +kernel)) rfl
theorem k_ca_ArithmeticException_ArithmeticException : Cond.castable "java/lang/ArithmeticException" "java/lang/ArithmeticException" ∈ NW := nw_of (in_t3 14 (by decide +kernel)) rfl
theorem k_ml_C_131 : Cond.methodLink R_C 131 ⟨"java/lang/ArithmeticException", "<init>", "()V"⟩ ∈ TW := tw_of (in_t3 21 (by decide +kernel)) rfl
theorem k_ml_C_138 : Cond.methodLink R_C 138 y_C_howManyBroken ∈ TW := tw_of (in_t3 27 (by decide +kernel)) rfl
theorem k_im_C_howManyBroken : Cond.instanceMethod y_C_howManyBroken ∈ TW := tw_of (in_t3 29 (by decide +kernel)) rfl
theorem k_code_C_howManyBroken : cw_C_howManyBroken ∈ TW := tw_of (in_t3 30 (by decide +kernel)) rfl
theorem k_ml_C_153 : Cond.methodLink R_C 153 y_K_holdsFor ∈ TW := tw_of (in_t3 31 (by decide +kernel)) rfl
theorem k_im_K_holdsFor : Cond.instanceMethod y_K_holdsFor ∈ TW := tw_of (in_t3 32 (by decide +kernel)) rfl
theorem k_se_K_holdsFor : Cond.selects R_K y_K_holdsFor y_K_holdsFor ∈ TW := tw_of (in_t3 33 (by decide +kernel)) rfl
theorem k_code_K_holdsFor : cw_K_holdsFor ∈ TW := tw_of (in_t3 34 (by decide +kernel)) rfl
theorem k_ml_K_19 : Cond.methodLink R_K 19 y_S_valueFor ∈ TW := tw_of (in_t3 35 (by decide +kernel)) rfl
theorem k_mn_K_25 : Cond.methodLinkNest R_K 25 y_C_remainder R_C ∈ NW := nw_of (in_t3 36 (by decide +kernel)) rfl
theorem k_ml_L_85 : Cond.methodLink R_L 85 y_L_value ∈ TW := tw_of (in_t3 37 (by decide +kernel)) rfl
theorem k_st_L_value : Cond.static y_L_value ∈ TW := tw_of (in_t3 38 (by decide +kernel)) rfl
theorem k_code_L_value : cw_L_value ∈ TW := tw_of (in_t3 39 (by decide +kernel)) rfl
theorem k_ml_L_35 : Cond.methodLink R_L 35 y_C_value ∈ TW := tw_of (in_t3 40 (by decide +kernel)) rfl
theorem k_im_C_value : Cond.instanceMethod y_C_value ∈ TW := tw_of (in_t3 41 (by decide +kernel)) rfl
theorem k_se_C_value : Cond.selects R_C y_C_value y_C_value ∈ TW := tw_of (in_t3 42 (by decide +kernel)) rfl
theorem k_code_C_value : cw_C_value ∈ TW := tw_of (in_t3 43 (by decide +kernel)) rfl
theorem k_ml_C_141 : Cond.methodLink R_C 141 y_C_hasWitness ∈ TW := tw_of (in_t3 44 (by decide +kernel)) rfl
theorem k_im_C_hasWitness : Cond.instanceMethod y_C_hasWitness ∈ TW := tw_of (in_t3 46 (by decide +kernel)) rfl
theorem k_code_C_hasWitness : cw_C_hasWitness ∈ TW := tw_of (in_t3 47 (by decide +kernel)) rfl
theorem k_ml_C_144 : Cond.methodLink R_C 144 y_S_lastVariable ∈ TW := tw_of (in_t3 48 (by decide +kernel)) rfl
theorem k_ml_C_147 : Cond.methodLink R_C 147 y_S_valueFor ∈ TW := tw_of (in_t3 49 (by decide +kernel)) rfl
theorem k_ml_L_89 : Cond.methodLink R_L 89 y_L_tamper ∈ TW := tw_of (in_t3 50 (by decide +kernel)) rfl
theorem k_st_L_tamper : Cond.static y_L_tamper ∈ TW := tw_of (in_t3 51 (by decide +kernel)) rfl
theorem k_code_L_tamper : cw_L_tamper ∈ TW := tw_of (in_t3 52 (by decide +kernel)) rfl
theorem k_ml_L_39 : Cond.methodLink R_L 39 y_C_tamper ∈ TW := tw_of (in_t3 53 (by decide +kernel)) rfl
theorem k_im_C_tamper : Cond.instanceMethod y_C_tamper ∈ TW := tw_of (in_t3 54 (by decide +kernel)) rfl
theorem k_se_C_tamper : Cond.selects R_C y_C_tamper y_C_tamper ∈ TW := tw_of (in_t3 55 (by decide +kernel)) rfl
theorem k_code_C_tamper : cw_C_tamper ∈ TW := tw_of (in_t3 56 (by decide +kernel)) rfl
theorem k_ml_L_92 : Cond.methodLink R_L 92 y_L_broken ∈ TW := tw_of (in_t3 57 (by decide +kernel)) rfl
theorem k_st_L_broken : Cond.static y_L_broken ∈ TW := tw_of (in_t3 58 (by decide +kernel)) rfl
theorem k_code_L_broken : cw_L_broken ∈ TW := tw_of (in_t3 59 (by decide +kernel)) rfl
theorem k_ml_L_42 : Cond.methodLink R_L 42 y_C_broken ∈ TW := tw_of (in_t3 60 (by decide +kernel)) rfl
theorem k_im_C_broken : Cond.instanceMethod y_C_broken ∈ TW := tw_of (in_t3 61 (by decide +kernel)) rfl
theorem k_se_C_broken : Cond.selects R_C y_C_broken y_C_broken ∈ TW := tw_of (in_t3 62 (by decide +kernel)) rfl
theorem k_code_C_broken : cw_C_broken ∈ TW := tw_of (in_t3 63 (by decide +kernel)) rfl
theorem k_ml_L_95 : Cond.methodLink R_L 95 y_L_first ∈ TW := tw_of (in_t3 64 (by decide +kernel)) rfl
theorem k_st_L_first : Cond.static y_L_first ∈ TW := tw_of (in_t3 65 (by decide +kernel)) rfl
theorem k_code_L_first : cw_L_first ∈ TW := tw_of (in_t3 66 (by decide +kernel)) rfl
theorem k_ml_L_45 : Cond.methodLink R_L 45 y_C_first ∈ TW := tw_of (in_t3 67 (by decide +kernel)) rfl
theorem k_im_C_first : Cond.instanceMethod y_C_first ∈ TW := tw_of (in_t3 68 (by decide +kernel)) rfl
theorem k_se_C_first : Cond.selects R_C y_C_first y_C_first ∈ TW := tw_of (in_t3 69 (by decide +kernel)) rfl
theorem k_code_C_first : cw_C_first ∈ TW := tw_of (in_t3 70 (by decide +kernel)) rfl
theorem k_ml_L_98 : Cond.methodLink R_L 98 y_L_coefficient ∈ TW := tw_of (in_t3 71 (by decide +kernel)) rfl
theorem k_st_L_coefficient : Cond.static y_L_coefficient ∈ TW := tw_of (in_t3 72 (by decide +kernel)) rfl
theorem k_code_L_coefficient : cw_L_coefficient ∈ TW := tw_of (in_t3 73 (by decide +kernel)) rfl
theorem k_ml_L_48 : Cond.methodLink R_L 48 y_C_coefficient ∈ TW := tw_of (in_t3 74 (by decide +kernel)) rfl
theorem k_im_C_coefficient : Cond.instanceMethod y_C_coefficient ∈ TW := tw_of (in_t3 75 (by decide +kernel)) rfl
theorem k_se_C_coefficient : Cond.selects R_C y_C_coefficient y_C_coefficient ∈ TW := tw_of (in_t3 76 (by decide +kernel)) rfl
theorem k_code_C_coefficient : cw_C_coefficient ∈ TW := tw_of (in_t3 77 (by decide +kernel)) rfl
theorem k_ml_C_157 : Cond.methodLink R_C 157 y_C_isVariableNumber ∈ TW := tw_of (in_t3 78 (by decide +kernel)) rfl
theorem k_st_C_isVariableNumber : Cond.static y_C_isVariableNumber ∈ TW := tw_of (in_t3 79 (by decide +kernel)) rfl
theorem k_code_C_isVariableNumber : cw_C_isVariableNumber ∈ TW := tw_of (in_t3 80 (by decide +kernel)) rfl
theorem k_ml_C_160 : Cond.methodLink R_C 160 y_K_sumAt ∈ TW := tw_of (in_t3 81 (by decide +kernel)) rfl
theorem k_im_K_sumAt : Cond.instanceMethod y_K_sumAt ∈ TW := tw_of (in_t3 82 (by decide +kernel)) rfl
theorem k_se_K_sumAt : Cond.selects R_K y_K_sumAt y_K_sumAt ∈ TW := tw_of (in_t3 83 (by decide +kernel)) rfl
theorem k_code_K_sumAt : cw_K_sumAt ∈ TW := tw_of (in_t3 84 (by decide +kernel)) rfl
theorem k_ml_L_101 : Cond.methodLink R_L 101 y_L_terms ∈ TW := tw_of (in_t3 85 (by decide +kernel)) rfl
theorem k_st_L_terms : Cond.static y_L_terms ∈ TW := tw_of (in_t3 86 (by decide +kernel)) rfl
theorem k_code_L_terms : cw_L_terms ∈ TW := tw_of (in_t3 87 (by decide +kernel)) rfl
theorem k_ml_L_51 : Cond.methodLink R_L 51 y_C_terms ∈ TW := tw_of (in_t3 88 (by decide +kernel)) rfl
theorem k_im_C_terms : Cond.instanceMethod y_C_terms ∈ TW := tw_of (in_t3 89 (by decide +kernel)) rfl
theorem k_se_C_terms : Cond.selects R_C y_C_terms y_C_terms ∈ TW := tw_of (in_t3 90 (by decide +kernel)) rfl
theorem k_code_C_terms : cw_C_terms ∈ TW := tw_of (in_t3 91 (by decide +kernel)) rfl
theorem k_ml_C_166 : Cond.methodLink R_C 166 y_S_howManyTerms ∈ TW := tw_of (in_t3 92 (by decide +kernel)) rfl
theorem k_im_S_howManyTerms : Cond.instanceMethod y_S_howManyTerms ∈ TW := tw_of (in_t3 93 (by decide +kernel)) rfl
theorem k_se_S_howManyTerms : Cond.selects R_S y_S_howManyTerms y_S_howManyTerms ∈ TW := tw_of (in_t3 94 (by decide +kernel)) rfl
theorem k_code_S_howManyTerms : cw_S_howManyTerms ∈ TW := tw_of (in_t3 95 (by decide +kernel)) rfl
theorem k_ml_L_104 : Cond.methodLink R_L 104 y_L_uses ∈ TW := tw_of (in_t3 96 (by decide +kernel)) rfl
theorem k_st_L_uses : Cond.static y_L_uses ∈ TW := tw_of (in_t3 97 (by decide +kernel)) rfl
theorem k_code_L_uses : cw_L_uses ∈ TW := tw_of (in_t3 98 (by decide +kernel)) rfl
theorem k_ml_L_54 : Cond.methodLink R_L 54 y_C_uses ∈ TW := tw_of (in_t3 99 (by decide +kernel)) rfl
theorem k_im_C_uses : Cond.instanceMethod y_C_uses ∈ TW := tw_of (in_t3 100 (by decide +kernel)) rfl
theorem k_se_C_uses : Cond.selects R_C y_C_uses y_C_uses ∈ TW := tw_of (in_t3 101 (by decide +kernel)) rfl
theorem k_code_C_uses : cw_C_uses ∈ TW := tw_of (in_t3 102 (by decide +kernel)) rfl
theorem k_ml_C_169 : Cond.methodLink R_C 169 y_K_hasVariable ∈ TW := tw_of (in_t3 103 (by decide +kernel)) rfl
theorem k_im_K_hasVariable : Cond.instanceMethod y_K_hasVariable ∈ TW := tw_of (in_t3 104 (by decide +kernel)) rfl
theorem k_se_K_hasVariable : Cond.selects R_K y_K_hasVariable y_K_hasVariable ∈ TW := tw_of (in_t3 105 (by decide +kernel)) rfl
theorem k_code_K_hasVariable : cw_K_hasVariable ∈ TW := tw_of (in_t3 106 (by decide +kernel)) rfl
theorem k_ml_L_107 : Cond.methodLink R_L 107 y_L_count ∈ TW := tw_of (in_t3 107 (by decide +kernel)) rfl
theorem k_st_L_count : Cond.static y_L_count ∈ TW := tw_of (in_t3 108 (by decide +kernel)) rfl
theorem k_code_L_count : cw_L_count ∈ TW := tw_of (in_t3 109 (by decide +kernel)) rfl
theorem k_ml_L_57 : Cond.methodLink R_L 57 y_C_count ∈ TW := tw_of (in_t3 110 (by decide +kernel)) rfl
theorem k_im_C_count : Cond.instanceMethod y_C_count ∈ TW := tw_of (in_t3 111 (by decide +kernel)) rfl
theorem k_se_C_count : Cond.selects R_C y_C_count y_C_count ∈ TW := tw_of (in_t3 112 (by decide +kernel)) rfl
theorem k_code_C_count : cw_C_count ∈ TW := tw_of (in_t3 113 (by decide +kernel)) rfl
theorem k_cl_L_61 : Cond.classLink R_L 61 R_M ∈ TW := tw_of (in_t3 114 (by decide +kernel)) rfl
theorem k_new_M : Cond.instantiable R_M 19 ∈ TW := tw_of (in_t3 115 (by decide +kernel)) rfl
theorem k_ml_L_63 : Cond.methodLink R_L 63 y_M_init ∈ TW := tw_of (in_t3 116 (by decide +kernel)) rfl
theorem k_im_M_init : Cond.instanceMethod y_M_init ∈ TW := tw_of (in_t3 117 (by decide +kernel)) rfl
theorem k_code_M_init : cw_M_init ∈ TW := tw_of (in_t3 118 (by decide +kernel)) rfl
theorem k_ml_M_1 : Cond.methodLink R_M 1 y_OJ_init ∈ TW := tw_of (in_t3 119 (by decide +kernel)) rfl
theorem k_fl_M_50 : Cond.fieldLink R_M 50 "ConstraintCompilerModel" "thrown" "I" ∈ TW := tw_of (in_t3 120 (by decide +kernel)) rfl
theorem k_fl_M_7 : Cond.fieldLink R_M 7 "ConstraintCompilerModel" "sums" "[I" ∈ TW := tw_of (in_t3 121 (by decide +kernel)) rfl
theorem k_fl_M_13 : Cond.fieldLink R_M 13 "ConstraintCompilerModel" "kind" "[I" ∈ TW := tw_of (in_t3 122 (by decide +kernel)) rfl
theorem k_fl_M_16 : Cond.fieldLink R_M 16 "ConstraintCompilerModel" "input" "[I" ∈ TW := tw_of (in_t3 123 (by decide +kernel)) rfl
theorem k_fl_M_53 : Cond.fieldLink R_M 53 "ConstraintCompilerModel" "expressions" "I" ∈ TW := tw_of (in_t3 124 (by decide +kernel)) rfl
theorem k_fl_M_19 : Cond.fieldLink R_M 19 "ConstraintCompilerModel" "how" "[I" ∈ TW := tw_of (in_t3 125 (by decide +kernel)) rfl
theorem k_fl_M_22 : Cond.fieldLink R_M 22 "ConstraintCompilerModel" "from" "[I" ∈ TW := tw_of (in_t3 126 (by decide +kernel)) rfl
theorem k_fl_M_25 : Cond.fieldLink R_M 25 "ConstraintCompilerModel" "given" "[I" ∈ TW := tw_of (in_t3 127 (by decide +kernel)) rfl
theorem k_fl_M_28 : Cond.fieldLink R_M 28 "ConstraintCompilerModel" "variables" "I" ∈ TW := tw_of (in_t3 128 (by decide +kernel)) rfl
theorem k_fl_M_32 : Cond.fieldLink R_M 32 "ConstraintCompilerModel" "rows" "[I" ∈ TW := tw_of (in_t3 129 (by decide +kernel)) rfl
theorem k_fl_M_72 : Cond.fieldLink R_M 72 "ConstraintCompilerModel" "constraints" "I" ∈ TW := tw_of (in_t3 130 (by decide +kernel)) rfl
theorem k_fl_M_35 : Cond.fieldLink R_M 35 "ConstraintCompilerModel" "left" "[I" ∈ TW := tw_of (in_t3 131 (by decide +kernel)) rfl
theorem k_fl_M_38 : Cond.fieldLink R_M 38 "ConstraintCompilerModel" "right" "[I" ∈ TW := tw_of (in_t3 132 (by decide +kernel)) rfl
theorem k_fl_M_41 : Cond.fieldLink R_M 41 "ConstraintCompilerModel" "out" "[I" ∈ TW := tw_of (in_t3 133 (by decide +kernel)) rfl
theorem k_fl_M_44 : Cond.fieldLink R_M 44 "ConstraintCompilerModel" "trial" "[I" ∈ TW := tw_of (in_t3 134 (by decide +kernel)) rfl
theorem k_fl_M_47 : Cond.fieldLink R_M 47 "ConstraintCompilerModel" "witness" "[I" ∈ TW := tw_of (in_t3 135 (by decide +kernel)) rfl
theorem k_fl_M_135 : Cond.fieldLink R_M 135 "ConstraintCompilerModel" "solved" "Z" ∈ TW := tw_of (in_t3 136 (by decide +kernel)) rfl
theorem k_fl_M_139 : Cond.fieldLink R_M 139 "ConstraintCompilerModel" "known" "I" ∈ TW := tw_of (in_t3 137 (by decide +kernel)) rfl
theorem k_fl_M_142 : Cond.fieldLink R_M 142 "ConstraintCompilerModel" "knownConstraints" "I" ∈ TW := tw_of (in_t3 138 (by decide +kernel)) rfl
theorem k_ml_L_70 : Cond.methodLink R_L 70 y_M_thrown ∈ TW := tw_of (in_t3 178 (by decide +kernel)) rfl
theorem k_im_M_thrown : Cond.instanceMethod y_M_thrown ∈ TW := tw_of (in_t3 179 (by decide +kernel)) rfl
theorem k_se_M_thrown : Cond.selects R_M y_M_thrown y_M_thrown ∈ TW := tw_of (in_t3 180 (by decide +kernel)) rfl
theorem k_code_M_thrown : cw_M_thrown ∈ TW := tw_of (in_t3 181 (by decide +kernel)) rfl
theorem k_ml_L_69 : Cond.methodLink R_L 69 y_M_expression ∈ TW := tw_of (in_t3 182 (by decide +kernel)) rfl
theorem k_im_M_expression : Cond.instanceMethod y_M_expression ∈ TW := tw_of (in_t3 183 (by decide +kernel)) rfl
theorem k_se_M_expression : Cond.selects R_M y_M_expression y_M_expression ∈ TW := tw_of (in_t3 184 (by decide +kernel)) rfl
theorem k_code_M_expression : cw_M_expression ∈ TW := tw_of (in_t3 185 (by decide +kernel)) rfl
theorem k_ml_M_113 : Cond.methodLink R_M 113 y_M_fits ∈ TW := tw_of (in_t3 186 (by decide +kernel)) rfl
theorem k_im_M_fits : Cond.instanceMethod y_M_fits ∈ TW := tw_of (in_t3 188 (by decide +kernel)) rfl
theorem k_code_M_fits : cw_M_fits ∈ TW := tw_of (in_t3 189 (by decide +kernel)) rfl
theorem k_ml_M_56 : Cond.methodLink R_M 56 y_M_in ∈ TW := tw_of (in_t3 190 (by decide +kernel)) rfl
theorem k_st_M_in : Cond.static y_M_in ∈ TW := tw_of (in_t3 191 (by decide +kernel)) rfl
theorem k_code_M_in : cw_M_in ∈ TW := tw_of (in_t3 192 (by decide +kernel)) rfl
theorem k_ml_M_86 : Cond.methodLink R_M 86 y_M_made ∈ TW := tw_of (in_t3 193 (by decide +kernel)) rfl
theorem k_im_M_made : Cond.instanceMethod y_M_made ∈ TW := tw_of (in_t3 195 (by decide +kernel)) rfl
theorem k_code_M_made : cw_M_made ∈ TW := tw_of (in_t3 196 (by decide +kernel)) rfl
theorem k_ml_M_117 : Cond.methodLink R_M 117 y_M_raise ∈ TW := tw_of (in_t3 197 (by decide +kernel)) rfl
theorem k_im_M_raise : Cond.instanceMethod y_M_raise ∈ TW := tw_of (in_t3 199 (by decide +kernel)) rfl
theorem k_code_M_raise : cw_M_raise ∈ TW := tw_of (in_t3 200 (by decide +kernel)) rfl
theorem k_ml_M_120 : Cond.methodLink R_M 120 y_M_needs ∈ TW := tw_of (in_t3 201 (by decide +kernel)) rfl
theorem k_im_M_needs : Cond.instanceMethod y_M_needs ∈ TW := tw_of (in_t3 203 (by decide +kernel)) rfl
theorem k_code_M_needs : cw_M_needs ∈ TW := tw_of (in_t3 204 (by decide +kernel)) rfl
theorem k_ml_M_94 : Cond.methodLink R_M 94 y_M_isConstant ∈ TW := tw_of (in_t3 205 (by decide +kernel)) rfl
theorem k_im_M_isConstant : Cond.instanceMethod y_M_isConstant ∈ TW := tw_of (in_t3 207 (by decide +kernel)) rfl
theorem k_code_M_isConstant : cw_M_isConstant ∈ TW := tw_of (in_t3 208 (by decide +kernel)) rfl
theorem k_ml_M_97 : Cond.methodLink R_M 97 y_M_plainEither ∈ TW := tw_of (in_t3 209 (by decide +kernel)) rfl
theorem k_im_M_plainEither : Cond.instanceMethod y_M_plainEither ∈ TW := tw_of (in_t3 211 (by decide +kernel)) rfl
theorem k_code_M_plainEither : cw_M_plainEither ∈ TW := tw_of (in_t3 212 (by decide +kernel)) rfl
theorem k_ml_M_64 : Cond.methodLink R_M 64 y_M_number ∈ TW := tw_of (in_t3 213 (by decide +kernel)) rfl
theorem k_st_M_number : Cond.static y_M_number ∈ TW := tw_of (in_t3 214 (by decide +kernel)) rfl
theorem k_code_M_number : cw_M_number ∈ TW := tw_of (in_t3 215 (by decide +kernel)) rfl
theorem k_ml_M_60 : Cond.methodLink R_M 60 y_M_rest ∈ TW := tw_of (in_t3 216 (by decide +kernel)) rfl
theorem k_st_M_rest : Cond.static y_M_rest ∈ TW := tw_of (in_t3 217 (by decide +kernel)) rfl
theorem k_code_M_rest : cw_M_rest ∈ TW := tw_of (in_t3 218 (by decide +kernel)) rfl
theorem k_ml_M_90 : Cond.methodLink R_M 90 y_M_add ∈ TW := tw_of (in_t3 219 (by decide +kernel)) rfl
theorem k_im_M_add : Cond.instanceMethod y_M_add ∈ TW := tw_of (in_t3 221 (by decide +kernel)) rfl
theorem k_code_M_add : cw_M_add ∈ TW := tw_of (in_t3 222 (by decide +kernel)) rfl
theorem k_ml_M_68 : Cond.methodLink R_M 68 y_M_constant ∈ TW := tw_of (in_t3 223 (by decide +kernel)) rfl
theorem k_st_M_constant : Cond.static y_M_constant ∈ TW := tw_of (in_t3 224 (by decide +kernel)) rfl
theorem k_code_M_constant : cw_M_constant ∈ TW := tw_of (in_t3 225 (by decide +kernel)) rfl
theorem k_ml_M_124 : Cond.methodLink R_M 124 y_M_work ∈ TW := tw_of (in_t3 226 (by decide +kernel)) rfl
theorem k_im_M_work : Cond.instanceMethod y_M_work ∈ TW := tw_of (in_t3 228 (by decide +kernel)) rfl
theorem k_code_M_work : cw_M_work ∈ TW := tw_of (in_t3 229 (by decide +kernel)) rfl
theorem k_ml_M_75 : Cond.methodLink R_M 75 y_M_variable ∈ TW := tw_of (in_t3 230 (by decide +kernel)) rfl
theorem k_im_M_variable : Cond.instanceMethod y_M_variable ∈ TW := tw_of (in_t3 232 (by decide +kernel)) rfl
theorem k_code_M_variable : cw_M_variable ∈ TW := tw_of (in_t3 233 (by decide +kernel)) rfl
theorem k_ml_M_83 : Cond.methodLink R_M 83 y_M_one ∈ TW := tw_of (in_t3 234 (by decide +kernel)) rfl
theorem k_st_M_one : Cond.static y_M_one ∈ TW := tw_of (in_t3 235 (by decide +kernel)) rfl
theorem k_code_M_one : cw_M_one ∈ TW := tw_of (in_t3 236 (by decide +kernel)) rfl
theorem k_ml_M_100 : Cond.methodLink R_M 100 y_M_fetch ∈ TW := tw_of (in_t3 237 (by decide +kernel)) rfl
theorem k_im_M_fetch : Cond.instanceMethod y_M_fetch ∈ TW := tw_of (in_t3 239 (by decide +kernel)) rfl
theorem k_code_M_fetch : cw_M_fetch ∈ TW := tw_of (in_t4 0 (by decide +kernel)) rfl
theorem k_ml_M_103 : Cond.methodLink R_M 103 y_M_multiply ∈ TW := tw_of (in_t4 1 (by decide +kernel)) rfl
theorem k_im_M_multiply : Cond.instanceMethod y_M_multiply ∈ TW := tw_of (in_t4 3 (by decide +kernel)) rfl
theorem k_code_M_multiply : cw_M_multiply ∈ TW := tw_of (in_t4 4 (by decide +kernel)) rfl
theorem k_ml_M_79 : Cond.methodLink R_M 79 y_M_keep ∈ TW := tw_of (in_t4 5 (by decide +kernel)) rfl
theorem k_im_M_keep : Cond.instanceMethod y_M_keep ∈ TW := tw_of (in_t4 7 (by decide +kernel)) rfl
theorem k_code_M_keep : cw_M_keep ∈ TW := tw_of (in_t4 8 (by decide +kernel)) rfl
theorem k_ml_M_106 : Cond.methodLink R_M 106 y_M_share ∈ TW := tw_of (in_t4 9 (by decide +kernel)) rfl
theorem k_im_M_share : Cond.instanceMethod y_M_share ∈ TW := tw_of (in_t4 11 (by decide +kernel)) rfl
theorem k_code_M_share : cw_M_share ∈ TW := tw_of (in_t4 12 (by decide +kernel)) rfl
theorem k_ml_M_110 : Cond.methodLink R_M 110 y_M_same ∈ TW := tw_of (in_t4 13 (by decide +kernel)) rfl
theorem k_im_M_same : Cond.instanceMethod y_M_same ∈ TW := tw_of (in_t4 15 (by decide +kernel)) rfl
theorem k_code_M_same : cw_M_same ∈ TW := tw_of (in_t4 16 (by decide +kernel)) rfl
theorem k_ml_L_76 : Cond.methodLink R_L 76 y_M_claim ∈ TW := tw_of (in_t4 17 (by decide +kernel)) rfl
theorem k_im_M_claim : Cond.instanceMethod y_M_claim ∈ TW := tw_of (in_t4 18 (by decide +kernel)) rfl
theorem k_se_M_claim : Cond.selects R_M y_M_claim y_M_claim ∈ TW := tw_of (in_t4 19 (by decide +kernel)) rfl
theorem k_code_M_claim : cw_M_claim ∈ TW := tw_of (in_t4 20 (by decide +kernel)) rfl
theorem k_ml_L_80 : Cond.methodLink R_L 80 y_M_give ∈ TW := tw_of (in_t4 21 (by decide +kernel)) rfl
theorem k_im_M_give : Cond.instanceMethod y_M_give ∈ TW := tw_of (in_t4 22 (by decide +kernel)) rfl
theorem k_se_M_give : Cond.selects R_M y_M_give y_M_give ∈ TW := tw_of (in_t4 23 (by decide +kernel)) rfl
theorem k_code_M_give : cw_M_give ∈ TW := tw_of (in_t4 24 (by decide +kernel)) rfl
theorem k_ml_L_84 : Cond.methodLink R_L 84 y_M_solve ∈ TW := tw_of (in_t4 25 (by decide +kernel)) rfl
theorem k_im_M_solve : Cond.instanceMethod y_M_solve ∈ TW := tw_of (in_t4 26 (by decide +kernel)) rfl
theorem k_se_M_solve : Cond.selects R_M y_M_solve y_M_solve ∈ TW := tw_of (in_t4 27 (by decide +kernel)) rfl
theorem k_code_M_solve : cw_M_solve ∈ TW := tw_of (in_t4 28 (by decide +kernel)) rfl
theorem k_ml_M_128 : Cond.methodLink R_M 128 y_M_valueOf ∈ TW := tw_of (in_t4 29 (by decide +kernel)) rfl
theorem k_im_M_valueOf : Cond.instanceMethod y_M_valueOf ∈ TW := tw_of (in_t4 31 (by decide +kernel)) rfl
theorem k_code_M_valueOf : cw_M_valueOf ∈ TW := tw_of (in_t4 32 (by decide +kernel)) rfl
theorem k_ml_M_132 : Cond.methodLink R_M 132 y_M_inverse ∈ TW := tw_of (in_t4 33 (by decide +kernel)) rfl
theorem k_st_M_inverse : Cond.static y_M_inverse ∈ TW := tw_of (in_t4 34 (by decide +kernel)) rfl
theorem k_code_M_inverse : cw_M_inverse ∈ TW := tw_of (in_t4 35 (by decide +kernel)) rfl
theorem k_ml_M_145 : Cond.methodLink R_M 145 y_M_bad ∈ TW := tw_of (in_t4 36 (by decide +kernel)) rfl
theorem k_im_M_bad : Cond.instanceMethod y_M_bad ∈ TW := tw_of (in_t4 38 (by decide +kernel)) rfl
theorem k_code_M_bad : cw_M_bad ∈ TW := tw_of (in_t4 39 (by decide +kernel)) rfl
theorem k_ml_M_149 : Cond.methodLink R_M 149 y_M_holds ∈ TW := tw_of (in_t4 40 (by decide +kernel)) rfl
theorem k_im_M_holds : Cond.instanceMethod y_M_holds ∈ TW := tw_of (in_t4 42 (by decide +kernel)) rfl
theorem k_code_M_holds : cw_M_holds ∈ TW := tw_of (in_t4 43 (by decide +kernel)) rfl
theorem k_ml_L_88 : Cond.methodLink R_L 88 y_M_value ∈ TW := tw_of (in_t4 44 (by decide +kernel)) rfl
theorem k_im_M_value : Cond.instanceMethod y_M_value ∈ TW := tw_of (in_t4 45 (by decide +kernel)) rfl
theorem k_se_M_value : Cond.selects R_M y_M_value y_M_value ∈ TW := tw_of (in_t4 46 (by decide +kernel)) rfl
theorem k_code_M_value : cw_M_value ∈ TW := tw_of (in_t4 47 (by decide +kernel)) rfl
theorem k_ml_L_91 : Cond.methodLink R_L 91 y_M_tamper ∈ TW := tw_of (in_t4 48 (by decide +kernel)) rfl
theorem k_im_M_tamper : Cond.instanceMethod y_M_tamper ∈ TW := tw_of (in_t4 49 (by decide +kernel)) rfl
theorem k_se_M_tamper : Cond.selects R_M y_M_tamper y_M_tamper ∈ TW := tw_of (in_t4 50 (by decide +kernel)) rfl
theorem k_code_M_tamper : cw_M_tamper ∈ TW := tw_of (in_t4 51 (by decide +kernel)) rfl
theorem k_ml_L_94 : Cond.methodLink R_L 94 y_M_broken ∈ TW := tw_of (in_t4 52 (by decide +kernel)) rfl
theorem k_im_M_broken : Cond.instanceMethod y_M_broken ∈ TW := tw_of (in_t4 53 (by decide +kernel)) rfl
theorem k_se_M_broken : Cond.selects R_M y_M_broken y_M_broken ∈ TW := tw_of (in_t4 54 (by decide +kernel)) rfl
theorem k_code_M_broken : cw_M_broken ∈ TW := tw_of (in_t4 55 (by decide +kernel)) rfl
theorem k_ml_L_97 : Cond.methodLink R_L 97 y_M_first ∈ TW := tw_of (in_t4 56 (by decide +kernel)) rfl
theorem k_im_M_first : Cond.instanceMethod y_M_first ∈ TW := tw_of (in_t4 57 (by decide +kernel)) rfl
theorem k_se_M_first : Cond.selects R_M y_M_first y_M_first ∈ TW := tw_of (in_t4 58 (by decide +kernel)) rfl
theorem k_code_M_first : cw_M_first ∈ TW := tw_of (in_t4 59 (by decide +kernel)) rfl
theorem k_ml_L_100 : Cond.methodLink R_L 100 y_M_coefficient ∈ TW := tw_of (in_t4 60 (by decide +kernel)) rfl
theorem k_im_M_coefficient : Cond.instanceMethod y_M_coefficient ∈ TW := tw_of (in_t4 61 (by decide +kernel)) rfl
theorem k_se_M_coefficient : Cond.selects R_M y_M_coefficient y_M_coefficient ∈ TW := tw_of (in_t4 62 (by decide +kernel)) rfl
theorem k_code_M_coefficient : cw_M_coefficient ∈ TW := tw_of (in_t4 63 (by decide +kernel)) rfl
theorem k_ml_L_103 : Cond.methodLink R_L 103 y_M_terms ∈ TW := tw_of (in_t4 64 (by decide +kernel)) rfl
theorem k_im_M_terms : Cond.instanceMethod y_M_terms ∈ TW := tw_of (in_t4 65 (by decide +kernel)) rfl
theorem k_se_M_terms : Cond.selects R_M y_M_terms y_M_terms ∈ TW := tw_of (in_t4 66 (by decide +kernel)) rfl
theorem k_code_M_terms : cw_M_terms ∈ TW := tw_of (in_t4 67 (by decide +kernel)) rfl
theorem k_ml_L_106 : Cond.methodLink R_L 106 y_M_uses ∈ TW := tw_of (in_t4 68 (by decide +kernel)) rfl
theorem k_im_M_uses : Cond.instanceMethod y_M_uses ∈ TW := tw_of (in_t4 69 (by decide +kernel)) rfl
theorem k_se_M_uses : Cond.selects R_M y_M_uses y_M_uses ∈ TW := tw_of (in_t4 70 (by decide +kernel)) rfl
theorem k_code_M_uses : cw_M_uses ∈ TW := tw_of (in_t4 71 (by decide +kernel)) rfl
theorem k_ml_L_109 : Cond.methodLink R_L 109 y_M_count ∈ TW := tw_of (in_t4 72 (by decide +kernel)) rfl
theorem k_im_M_count : Cond.instanceMethod y_M_count ∈ TW := tw_of (in_t4 73 (by decide +kernel)) rfl
theorem k_se_M_count : Cond.selects R_M y_M_count y_M_count ∈ TW := tw_of (in_t4 74 (by decide +kernel)) rfl
theorem k_code_M_count : cw_M_count ∈ TW := tw_of (in_t4 75 (by decide +kernel)) rfl
theorem k_ac_long : Cond.arrayClass .long ∈ TW := tw_of (in_t4 76 (by decide +kernel)) rfl
theorem k_ca_E_E : Cond.castable R_E R_E ∈ NW := nw_of (in_t4 78 (by decide +kernel)) rfl
theorem k_ca_V_V : Cond.castable R_V R_V ∈ NW := nw_of (in_t4 79 (by decide +kernel)) rfl
theorem k_ca_K_K : Cond.castable R_K R_K ∈ NW := nw_of (in_t4 80 (by decide +kernel)) rfl
theorem k_se_getClass : Cond.selects "[Ljava/lang/Object;" ⟨"java/lang/Object", "getClass", "()Ljava/lang/Class;"⟩ ⟨"java/lang/Object", "getClass", "()Ljava/lang/Class;"⟩ ∈ TW := tw_of (in_t4 82 (by decide +kernel)) rfl
theorem k_de_getClass : Cond.declares ⟨"java/lang/Object", "getClass", "()Ljava/lang/Class;"⟩ ∈ NW := nw_of (in_t4 83 (by decide +kernel)) rfl
theorem k_ca_C_OJ : Cond.castable R_C R_OJ ∈ NW := nw_of (in_t4 84 (by decide +kernel)) rfl
theorem k_ca_S_OJ : Cond.castable R_S R_OJ ∈ NW := nw_of (in_t4 85 (by decide +kernel)) rfl
theorem k_ca_V_OJ : Cond.castable R_V R_OJ ∈ NW := nw_of (in_t4 86 (by decide +kernel)) rfl
theorem k_ca_M_OJ : Cond.castable R_M R_OJ ∈ NW := nw_of (in_t4 87 (by decide +kernel)) rfl
theorem k_ca_E_OJ : Cond.castable R_E R_OJ ∈ NW := nw_of (in_t4 88 (by decide +kernel)) rfl
theorem k_ca_K_OJ : Cond.castable R_K R_OJ ∈ NW := nw_of (in_t4 89 (by decide +kernel)) rfl
theorem k_se_A_add3 : Cond.selects R_A y_A_add3 y_A_add3 ∈ TW := tw_of (in_t0 0 (by decide +kernel)) rfl
theorem k_se_A_grow0 : Cond.selects R_A y_A_grow0 y_A_grow0 ∈ TW := tw_of (in_t0 1 (by decide +kernel)) rfl
theorem k_se_A_grow1 : Cond.selects R_A y_A_grow1 y_A_grow1 ∈ TW := tw_of (in_t0 2 (by decide +kernel)) rfl
theorem k_se_C_isWellFormed : Cond.selects R_C y_C_isWellFormed y_C_isWellFormed ∈ TW := tw_of (in_t0 3 (by decide +kernel)) rfl
theorem k_se_C_isMade : Cond.selects R_C y_C_isMade y_C_isMade ∈ TW := tw_of (in_t0 4 (by decide +kernel)) rfl
theorem k_se_C_hasRoomFor : Cond.selects R_C y_C_hasRoomFor y_C_hasRoomFor ∈ TW := tw_of (in_t0 6 (by decide +kernel)) rfl
theorem k_se_C_constraintsNeeded : Cond.selects R_C y_C_constraintsNeeded y_C_constraintsNeeded ∈ TW := tw_of (in_t0 7 (by decide +kernel)) rfl
theorem k_se_C_sumOf : Cond.selects R_C y_C_sumOf y_C_sumOf ∈ TW := tw_of (in_t0 8 (by decide +kernel)) rfl
theorem k_se_C_difference : Cond.selects R_C y_C_difference y_C_difference ∈ TW := tw_of (in_t0 9 (by decide +kernel)) rfl
theorem k_se_S_combinedWith : Cond.selects R_S y_S_combinedWith y_S_combinedWith ∈ TW := tw_of (in_t0 10 (by decide +kernel)) rfl
theorem k_se_C_makeInput : Cond.selects R_C y_C_makeInput y_C_makeInput ∈ TW := tw_of (in_t0 11 (by decide +kernel)) rfl
theorem k_se_C_addVariable : Cond.selects R_C y_C_addVariable y_C_addVariable ∈ TW := tw_of (in_t0 12 (by decide +kernel)) rfl
theorem k_se_C_makeSum : Cond.selects R_C y_C_makeSum y_C_makeSum ∈ TW := tw_of (in_t0 13 (by decide +kernel)) rfl
theorem k_se_C_makeProduct : Cond.selects R_C y_C_makeProduct y_C_makeProduct ∈ TW := tw_of (in_t0 14 (by decide +kernel)) rfl
theorem k_se_C_makeConstrainedProduct : Cond.selects R_C y_C_makeConstrainedProduct y_C_makeConstrainedProduct ∈ TW := tw_of (in_t0 15 (by decide +kernel)) rfl
theorem k_se_C_addConstraint : Cond.selects R_C y_C_addConstraint y_C_addConstraint ∈ TW := tw_of (in_t0 16 (by decide +kernel)) rfl
theorem k_se_C_makeShare : Cond.selects R_C y_C_makeShare y_C_makeShare ∈ TW := tw_of (in_t0 17 (by decide +kernel)) rfl
theorem k_se_C_makeSame : Cond.selects R_C y_C_makeSame y_C_makeSame ∈ TW := tw_of (in_t0 18 (by decide +kernel)) rfl
theorem k_se_C_makePower : Cond.selects R_C y_C_makePower y_C_makePower ∈ TW := tw_of (in_t0 19 (by decide +kernel)) rfl
theorem k_se_C_fillDraft : Cond.selects R_C y_C_fillDraft y_C_fillDraft ∈ TW := tw_of (in_t0 20 (by decide +kernel)) rfl
theorem k_se_C_howManyBroken : Cond.selects R_C y_C_howManyBroken y_C_howManyBroken ∈ TW := tw_of (in_t0 21 (by decide +kernel)) rfl
theorem k_se_C_hasWitness : Cond.selects R_C y_C_hasWitness y_C_hasWitness ∈ TW := tw_of (in_t0 22 (by decide +kernel)) rfl
theorem k_se_M_fits : Cond.selects R_M y_M_fits y_M_fits ∈ TW := tw_of (in_t0 23 (by decide +kernel)) rfl
theorem k_se_M_made : Cond.selects R_M y_M_made y_M_made ∈ TW := tw_of (in_t0 24 (by decide +kernel)) rfl
theorem k_se_M_raise : Cond.selects R_M y_M_raise y_M_raise ∈ TW := tw_of (in_t0 25 (by decide +kernel)) rfl
theorem k_se_M_needs : Cond.selects R_M y_M_needs y_M_needs ∈ TW := tw_of (in_t0 26 (by decide +kernel)) rfl
theorem k_se_M_isConstant : Cond.selects R_M y_M_isConstant y_M_isConstant ∈ TW := tw_of (in_t0 27 (by decide +kernel)) rfl
theorem k_se_M_plainEither : Cond.selects R_M y_M_plainEither y_M_plainEither ∈ TW := tw_of (in_t0 28 (by decide +kernel)) rfl
theorem k_se_M_add : Cond.selects R_M y_M_add y_M_add ∈ TW := tw_of (in_t0 29 (by decide +kernel)) rfl
theorem k_se_M_work : Cond.selects R_M y_M_work y_M_work ∈ TW := tw_of (in_t0 30 (by decide +kernel)) rfl
theorem k_se_M_variable : Cond.selects R_M y_M_variable y_M_variable ∈ TW := tw_of (in_t0 31 (by decide +kernel)) rfl
theorem k_se_M_fetch : Cond.selects R_M y_M_fetch y_M_fetch ∈ TW := tw_of (in_t0 32 (by decide +kernel)) rfl
theorem k_se_M_multiply : Cond.selects R_M y_M_multiply y_M_multiply ∈ TW := tw_of (in_t0 33 (by decide +kernel)) rfl
theorem k_se_M_keep : Cond.selects R_M y_M_keep y_M_keep ∈ TW := tw_of (in_t0 34 (by decide +kernel)) rfl
theorem k_se_M_share : Cond.selects R_M y_M_share y_M_share ∈ TW := tw_of (in_t0 35 (by decide +kernel)) rfl
theorem k_se_M_same : Cond.selects R_M y_M_same y_M_same ∈ TW := tw_of (in_t0 36 (by decide +kernel)) rfl
theorem k_se_M_valueOf : Cond.selects R_M y_M_valueOf y_M_valueOf ∈ TW := tw_of (in_t0 37 (by decide +kernel)) rfl
theorem k_se_M_bad : Cond.selects R_M y_M_bad y_M_bad ∈ TW := tw_of (in_t0 38 (by decide +kernel)) rfl
theorem k_se_M_holds : Cond.selects R_M y_M_holds y_M_holds ∈ TW := tw_of (in_t0 39 (by decide +kernel)) rfl
end
section
theorem d_C_init_0 : decode b_C_init 0 = .ok (.aload_n 0, 1) := by decide +kernel
theorem d_C_init_1 : decode b_C_init 1 = .ok (.invokespecial 3, 3) := by decide +kernel
theorem d_C_init_4 : decode b_C_init 4 = .ok (.aload_n 0, 1) := by decide +kernel
theorem d_C_init_5 : decode b_C_init 5 = .ok (.new 9, 3) := by decide +kernel
theorem d_C_init_8 : decode b_C_init 8 = .ok (.dup, 1) := by decide +kernel
theorem d_C_init_9 : decode b_C_init 9 = .ok (.invokespecial 11, 3) := by decide +kernel
theorem d_C_init_12 : decode b_C_init 12 = .ok (.putfield 12, 3) := by decide +kernel
theorem d_C_init_15 : decode b_C_init 15 = .ok (.aload_n 0, 1) := by decide +kernel
theorem d_C_init_16 : decode b_C_init 16 = .ok (.iconst 0, 1) := by decide +kernel
theorem d_C_init_17 : decode b_C_init 17 = .ok (.invokestatic 16, 3) := by decide +kernel
theorem d_C_init_20 : decode b_C_init 20 = .ok (.putfield 20, 3) := by decide +kernel
theorem d_C_init_23 : decode b_C_init 23 = .ok (.aload_n 0, 1) := by decide +kernel
theorem d_C_init_24 : decode b_C_init 24 = .ok (.new 23, 3) := by decide +kernel
theorem d_C_init_27 : decode b_C_init 27 = .ok (.dup, 1) := by decide +kernel
theorem d_C_init_28 : decode b_C_init 28 = .ok (.invokespecial 25, 3) := by decide +kernel
theorem d_C_init_31 : decode b_C_init 31 = .ok (.putfield 26, 3) := by decide +kernel
theorem d_C_init_34 : decode b_C_init 34 = .ok (.aload_n 0, 1) := by decide +kernel
theorem d_C_init_35 : decode b_C_init 35 = .ok (.new 23, 3) := by decide +kernel
theorem d_C_init_38 : decode b_C_init 38 = .ok (.dup, 1) := by decide +kernel
theorem d_C_init_39 : decode b_C_init 39 = .ok (.invokespecial 25, 3) := by decide +kernel
theorem d_C_init_42 : decode b_C_init 42 = .ok (.putfield 30, 3) := by decide +kernel
theorem d_C_init_45 : decode b_C_init 45 = .ok (.aload_n 0, 1) := by decide +kernel
theorem d_C_init_46 : decode b_C_init 46 = .ok (.new 23, 3) := by decide +kernel
theorem d_C_init_49 : decode b_C_init 49 = .ok (.dup, 1) := by decide +kernel
theorem d_C_init_50 : decode b_C_init 50 = .ok (.invokespecial 25, 3) := by decide +kernel
theorem d_C_init_53 : decode b_C_init 53 = .ok (.putfield 33, 3) := by decide +kernel
theorem d_C_init_56 : decode b_C_init 56 = .ok (.aload_n 0, 1) := by decide +kernel
theorem d_C_init_57 : decode b_C_init 57 = .ok (.bipush 60, 2) := by decide +kernel
theorem d_C_init_59 : decode b_C_init 59 = .ok (.newarray .int, 2) := by decide +kernel
theorem d_C_init_61 : decode b_C_init 61 = .ok (.putfield 36, 3) := by decide +kernel
theorem d_C_init_64 : decode b_C_init 64 = .ok (.aload_n 0, 1) := by decide +kernel
theorem d_C_init_65 : decode b_C_init 65 = .ok (.bipush 60, 2) := by decide +kernel
theorem d_C_init_67 : decode b_C_init 67 = .ok (.newarray .int, 2) := by decide +kernel
theorem d_C_init_69 : decode b_C_init 69 = .ok (.putfield 40, 3) := by decide +kernel
theorem d_C_init_72 : decode b_C_init 72 = .ok (.aload_n 0, 1) := by decide +kernel
theorem d_C_init_73 : decode b_C_init 73 = .ok (.getfield 26, 3) := by decide +kernel
theorem d_C_init_76 : decode b_C_init 76 = .ok (.new 43, 3) := by decide +kernel
theorem d_C_init_79 : decode b_C_init 79 = .ok (.dup, 1) := by decide +kernel
theorem d_C_init_80 : decode b_C_init 80 = .ok (.iconst 0, 1) := by decide +kernel
theorem d_C_init_81 : decode b_C_init 81 = .ok (.aload_n 0, 1) := by decide +kernel
theorem d_C_init_82 : decode b_C_init 82 = .ok (.getfield 12, 3) := by decide +kernel
theorem d_C_init_85 : decode b_C_init 85 = .ok (.aload_n 0, 1) := by decide +kernel
theorem d_C_init_86 : decode b_C_init 86 = .ok (.getfield 12, 3) := by decide +kernel
theorem d_C_init_89 : decode b_C_init 89 = .ok (.invokespecial 45, 3) := by decide +kernel
theorem d_C_init_92 : decode b_C_init 92 = .ok (.invokevirtual 48, 3) := by decide +kernel
theorem d_C_init_95 : decode b_C_init 95 = .ok (.pop, 1) := by decide +kernel
theorem d_C_init_96 : decode b_C_init 96 = .ok (.return_, 1) := by decide +kernel
theorem d_OJ_init_0 : decode b_OJ_init 0 = .ok (.return_, 1) := by decide +kernel
theorem d_S_init_0 : decode b_S_init 0 = .ok (.aload_n 0, 1) := by decide +kernel
theorem d_S_init_1 : decode b_S_init 1 = .ok (.invokespecial 3, 3) := by decide +kernel
theorem d_S_init_4 : decode b_S_init 4 = .ok (.aload_n 0, 1) := by decide +kernel
theorem d_S_init_5 : decode b_S_init 5 = .ok (.bipush 60, 2) := by decide +kernel
theorem d_S_init_7 : decode b_S_init 7 = .ok (.newarray .int, 2) := by decide +kernel
theorem d_S_init_9 : decode b_S_init 9 = .ok (.putfield 9, 3) := by decide +kernel
theorem d_S_init_12 : decode b_S_init 12 = .ok (.return_, 1) := by decide +kernel
theorem d_S_ofVariable_0 : decode b_S_ofVariable 0 = .ok (.new 10, 3) := by decide +kernel
theorem d_S_ofVariable_3 : decode b_S_ofVariable 3 = .ok (.dup, 1) := by decide +kernel
theorem d_S_ofVariable_4 : decode b_S_ofVariable 4 = .ok (.invokespecial 15, 3) := by decide +kernel
theorem d_S_ofVariable_7 : decode b_S_ofVariable 7 = .ok (.astore_n 1, 1) := by decide +kernel
theorem d_S_ofVariable_8 : decode b_S_ofVariable 8 = .ok (.aload_n 1, 1) := by decide +kernel
theorem d_S_ofVariable_9 : decode b_S_ofVariable 9 = .ok (.getfield 9, 3) := by decide +kernel
theorem d_S_ofVariable_12 : decode b_S_ofVariable 12 = .ok (.iload_n 0, 1) := by decide +kernel
theorem d_S_ofVariable_13 : decode b_S_ofVariable 13 = .ok (.iconst 1, 1) := by decide +kernel
theorem d_S_ofVariable_14 : decode b_S_ofVariable 14 = .ok (.iastore, 1) := by decide +kernel
theorem d_S_ofVariable_15 : decode b_S_ofVariable 15 = .ok (.aload_n 1, 1) := by decide +kernel
theorem d_S_ofVariable_16 : decode b_S_ofVariable 16 = .ok (.areturn, 1) := by decide +kernel
theorem d_A_init_0 : decode b_A_init 0 = .ok (.aload_n 0, 1) := by decide +kernel
theorem d_A_init_1 : decode b_A_init 1 = .ok (.invokespecial 1, 3) := by decide +kernel
theorem d_A_init_4 : decode b_A_init 4 = .ok (.aload_n 0, 1) := by decide +kernel
theorem d_A_init_5 : decode b_A_init 5 = .ok (.getstatic 39, 3) := by decide +kernel
theorem d_A_init_8 : decode b_A_init 8 = .ok (.putfield 9, 3) := by decide +kernel
theorem d_A_init_11 : decode b_A_init 11 = .ok (.return_, 1) := by decide +kernel
theorem d_AL_init_0 : decode b_AL_init 0 = .ok (.aload_n 0, 1) := by decide +kernel
theorem d_AL_init_1 : decode b_AL_init 1 = .ok (.invokespecial 1, 3) := by decide +kernel
theorem d_AL_init_4 : decode b_AL_init 4 = .ok (.aload_n 0, 1) := by decide +kernel
theorem d_AL_init_5 : decode b_AL_init 5 = .ok (.iconst 0, 1) := by decide +kernel
theorem d_AL_init_6 : decode b_AL_init 6 = .ok (.putfield 7, 3) := by decide +kernel
theorem d_AL_init_9 : decode b_AL_init 9 = .ok (.return_, 1) := by decide +kernel
theorem d_AC_init_0 : decode b_AC_init 0 = .ok (.aload_n 0, 1) := by decide +kernel
theorem d_AC_init_1 : decode b_AC_init 1 = .ok (.invokespecial 1, 3) := by decide +kernel
theorem d_AC_init_4 : decode b_AC_init 4 = .ok (.return_, 1) := by decide +kernel
theorem d_V_init_0 : decode b_V_init 0 = .ok (.aload_n 0, 1) := by decide +kernel
theorem d_V_init_1 : decode b_V_init 1 = .ok (.invokespecial 3, 3) := by decide +kernel
theorem d_V_init_4 : decode b_V_init 4 = .ok (.aload_n 0, 1) := by decide +kernel
theorem d_V_init_5 : decode b_V_init 5 = .ok (.iload_n 1, 1) := by decide +kernel
theorem d_V_init_6 : decode b_V_init 6 = .ok (.putfield 9, 3) := by decide +kernel
theorem d_V_init_9 : decode b_V_init 9 = .ok (.aload_n 0, 1) := by decide +kernel
theorem d_V_init_10 : decode b_V_init 10 = .ok (.aload_n 2, 1) := by decide +kernel
theorem d_V_init_11 : decode b_V_init 11 = .ok (.putfield 15, 3) := by decide +kernel
theorem d_V_init_14 : decode b_V_init 14 = .ok (.aload_n 0, 1) := by decide +kernel
theorem d_V_init_15 : decode b_V_init 15 = .ok (.aload_n 3, 1) := by decide +kernel
theorem d_V_init_16 : decode b_V_init 16 = .ok (.putfield 19, 3) := by decide +kernel
theorem d_V_init_19 : decode b_V_init 19 = .ok (.return_, 1) := by decide +kernel
theorem d_A_add1_0 : decode b_A_add1 0 = .ok (.aload_n 0, 1) := by decide +kernel
theorem d_A_add1_1 : decode b_A_add1 1 = .ok (.dup, 1) := by decide +kernel
theorem d_A_add1_2 : decode b_A_add1 2 = .ok (.getfield 63, 3) := by decide +kernel
theorem d_A_add1_5 : decode b_A_add1 5 = .ok (.iconst 1, 1) := by decide +kernel
theorem d_A_add1_6 : decode b_A_add1 6 = .ok (.iadd, 1) := by decide +kernel
theorem d_A_add1_7 : decode b_A_add1 7 = .ok (.putfield 63, 3) := by decide +kernel
theorem d_A_add1_10 : decode b_A_add1 10 = .ok (.aload_n 0, 1) := by decide +kernel
theorem d_A_add1_11 : decode b_A_add1 11 = .ok (.aload_n 1, 1) := by decide +kernel
theorem d_A_add1_12 : decode b_A_add1 12 = .ok (.aload_n 0, 1) := by decide +kernel
theorem d_A_add1_13 : decode b_A_add1 13 = .ok (.getfield 9, 3) := by decide +kernel
theorem d_A_add1_16 : decode b_A_add1 16 = .ok (.aload_n 0, 1) := by decide +kernel
theorem d_A_add1_17 : decode b_A_add1 17 = .ok (.getfield 48, 3) := by decide +kernel
theorem d_A_add1_20 : decode b_A_add1 20 = .ok (.invokevirtual 131, 3) := by decide +kernel
theorem d_A_add1_23 : decode b_A_add1 23 = .ok (.iconst 1, 1) := by decide +kernel
theorem d_A_add1_24 : decode b_A_add1 24 = .ok (.ireturn, 1) := by decide +kernel
theorem d_A_add3_0 : decode b_A_add3 0 = .ok (.iload_n 3, 1) := by decide +kernel
theorem d_A_add3_1 : decode b_A_add3 1 = .ok (.aload_n 2, 1) := by decide +kernel
theorem d_A_add3_2 : decode b_A_add3 2 = .ok (.arraylength, 1) := by decide +kernel
theorem d_A_add3_3 : decode b_A_add3 3 = .ok (.if_icmp .ne 8, 3) := by decide +kernel
theorem d_A_add3_6 : decode b_A_add3 6 = .ok (.aload_n 0, 1) := by decide +kernel
theorem d_A_add3_7 : decode b_A_add3 7 = .ok (.invokevirtual 129, 3) := by decide +kernel
theorem d_A_add3_10 : decode b_A_add3 10 = .ok (.astore_n 2, 1) := by decide +kernel
theorem d_A_add3_11 : decode b_A_add3 11 = .ok (.aload_n 2, 1) := by decide +kernel
theorem d_A_add3_12 : decode b_A_add3 12 = .ok (.iload_n 3, 1) := by decide +kernel
theorem d_A_add3_13 : decode b_A_add3 13 = .ok (.aload_n 1, 1) := by decide +kernel
theorem d_A_add3_14 : decode b_A_add3 14 = .ok (.aastore, 1) := by decide +kernel
theorem d_A_add3_15 : decode b_A_add3 15 = .ok (.aload_n 0, 1) := by decide +kernel
theorem d_A_add3_16 : decode b_A_add3 16 = .ok (.iload_n 3, 1) := by decide +kernel
theorem d_A_add3_17 : decode b_A_add3 17 = .ok (.iconst 1, 1) := by decide +kernel
theorem d_A_add3_18 : decode b_A_add3 18 = .ok (.iadd, 1) := by decide +kernel
theorem d_A_add3_19 : decode b_A_add3 19 = .ok (.putfield 48, 3) := by decide +kernel
theorem d_A_add3_22 : decode b_A_add3 22 = .ok (.return_, 1) := by decide +kernel
theorem d_A_grow0_0 : decode b_A_grow0 0 = .ok (.aload_n 0, 1) := by decide +kernel
theorem d_A_grow0_1 : decode b_A_grow0 1 = .ok (.aload_n 0, 1) := by decide +kernel
theorem d_A_grow0_2 : decode b_A_grow0 2 = .ok (.getfield 48, 3) := by decide +kernel
theorem d_A_grow0_5 : decode b_A_grow0 5 = .ok (.iconst 1, 1) := by decide +kernel
theorem d_A_grow0_6 : decode b_A_grow0 6 = .ok (.iadd, 1) := by decide +kernel
theorem d_A_grow0_7 : decode b_A_grow0 7 = .ok (.invokevirtual 69, 3) := by decide +kernel
theorem d_A_grow0_10 : decode b_A_grow0 10 = .ok (.areturn, 1) := by decide +kernel
theorem d_A_grow1_0 : decode b_A_grow1 0 = .ok (.aload_n 0, 1) := by decide +kernel
theorem d_A_grow1_1 : decode b_A_grow1 1 = .ok (.getfield 9, 3) := by decide +kernel
theorem d_A_grow1_4 : decode b_A_grow1 4 = .ok (.arraylength, 1) := by decide +kernel
theorem d_A_grow1_5 : decode b_A_grow1 5 = .ok (.istore_n 2, 1) := by decide +kernel
theorem d_A_grow1_6 : decode b_A_grow1 6 = .ok (.iload_n 2, 1) := by decide +kernel
theorem d_A_grow1_7 : decode b_A_grow1 7 = .ok (.ifCond .gt 13, 3) := by decide +kernel
theorem d_A_grow1_10 : decode b_A_grow1 10 = .ok (.aload_n 0, 1) := by decide +kernel
theorem d_A_grow1_11 : decode b_A_grow1 11 = .ok (.getfield 9, 3) := by decide +kernel
theorem d_A_grow1_14 : decode b_A_grow1 14 = .ok (.getstatic 39, 3) := by decide +kernel
theorem d_A_grow1_17 : decode b_A_grow1 17 = .ok (.if_acmp .eq 28, 3) := by decide +kernel
theorem d_A_grow1_20 : decode b_A_grow1 20 = .ok (.iload_n 2, 1) := by decide +kernel
theorem d_A_grow1_21 : decode b_A_grow1 21 = .ok (.iload_n 1, 1) := by decide +kernel
theorem d_A_grow1_22 : decode b_A_grow1 22 = .ok (.iload_n 2, 1) := by decide +kernel
theorem d_A_grow1_23 : decode b_A_grow1 23 = .ok (.isub, 1) := by decide +kernel
theorem d_A_grow1_24 : decode b_A_grow1 24 = .ok (.iload_n 2, 1) := by decide +kernel
theorem d_A_grow1_25 : decode b_A_grow1 25 = .ok (.iconst 1, 1) := by decide +kernel
theorem d_A_grow1_26 : decode b_A_grow1 26 = .ok (.ishr, 1) := by decide +kernel
theorem d_A_grow1_27 : decode b_A_grow1 27 = .ok (.invokestatic 73, 3) := by decide +kernel
theorem d_A_grow1_30 : decode b_A_grow1 30 = .ok (.istore_n 3, 1) := by decide +kernel
theorem d_A_grow1_31 : decode b_A_grow1 31 = .ok (.aload_n 0, 1) := by decide +kernel
theorem d_A_grow1_32 : decode b_A_grow1 32 = .ok (.aload_n 0, 1) := by decide +kernel
theorem d_A_grow1_33 : decode b_A_grow1 33 = .ok (.getfield 9, 3) := by decide +kernel
theorem d_A_grow1_36 : decode b_A_grow1 36 = .ok (.iload_n 3, 1) := by decide +kernel
theorem d_A_grow1_37 : decode b_A_grow1 37 = .ok (.invokestatic 66, 3) := by decide +kernel
theorem d_A_grow1_40 : decode b_A_grow1 40 = .ok (.dup_x1, 1) := by decide +kernel
theorem d_A_grow1_41 : decode b_A_grow1 41 = .ok (.putfield 9, 3) := by decide +kernel
theorem d_A_grow1_44 : decode b_A_grow1 44 = .ok (.areturn, 1) := by decide +kernel
theorem d_A_grow1_45 : decode b_A_grow1 45 = .ok (.aload_n 0, 1) := by decide +kernel
theorem d_A_grow1_46 : decode b_A_grow1 46 = .ok (.bipush 10, 2) := by decide +kernel
theorem d_A_grow1_48 : decode b_A_grow1 48 = .ok (.iload_n 1, 1) := by decide +kernel
theorem d_A_grow1_49 : decode b_A_grow1 49 = .ok (.invokestatic 79, 3) := by decide +kernel
theorem d_A_grow1_52 : decode b_A_grow1 52 = .ok (.anewarray 7, 3) := by decide +kernel
theorem d_A_grow1_55 : decode b_A_grow1 55 = .ok (.dup_x1, 1) := by decide +kernel
theorem d_A_grow1_56 : decode b_A_grow1 56 = .ok (.putfield 9, 3) := by decide +kernel
theorem d_A_grow1_59 : decode b_A_grow1 59 = .ok (.areturn, 1) := by decide +kernel
theorem d_AS_newLength_0 : decode b_AS_newLength 0 = .ok (.iload_n 0, 1) := by decide +kernel
theorem d_AS_newLength_1 : decode b_AS_newLength 1 = .ok (.iload_n 1, 1) := by decide +kernel
theorem d_AS_newLength_2 : decode b_AS_newLength 2 = .ok (.iload_n 2, 1) := by decide +kernel
theorem d_AS_newLength_3 : decode b_AS_newLength 3 = .ok (.invokestatic 194, 3) := by decide +kernel
theorem d_AS_newLength_6 : decode b_AS_newLength 6 = .ok (.iadd, 1) := by decide +kernel
theorem d_AS_newLength_7 : decode b_AS_newLength 7 = .ok (.istore_n 3, 1) := by decide +kernel
theorem d_AS_newLength_8 : decode b_AS_newLength 8 = .ok (.iconst 0, 1) := by decide +kernel
theorem d_AS_newLength_9 : decode b_AS_newLength 9 = .ok (.iload_n 3, 1) := by decide +kernel
theorem d_AS_newLength_10 : decode b_AS_newLength 10 = .ok (.if_icmp .ge 11, 3) := by decide +kernel
theorem d_AS_newLength_13 : decode b_AS_newLength 13 = .ok (.iload_n 3, 1) := by decide +kernel
theorem d_AS_newLength_14 : decode b_AS_newLength 14 = .ok (.ldc 200, 2) := by decide +kernel
theorem d_AS_newLength_16 : decode b_AS_newLength 16 = .ok (.if_icmp .gt 5, 3) := by decide +kernel
theorem d_AS_newLength_19 : decode b_AS_newLength 19 = .ok (.iload_n 3, 1) := by decide +kernel
theorem d_AS_newLength_20 : decode b_AS_newLength 20 = .ok (.ireturn, 1) := by decide +kernel
theorem d_AS_newLength_21 : decode b_AS_newLength 21 = .ok (.iload_n 0, 1) := by decide +kernel
theorem d_AS_newLength_22 : decode b_AS_newLength 22 = .ok (.iload_n 1, 1) := by decide +kernel
theorem d_AS_newLength_23 : decode b_AS_newLength 23 = .ok (.invokestatic 201, 3) := by decide +kernel
theorem d_AS_newLength_26 : decode b_AS_newLength 26 = .ok (.ireturn, 1) := by decide +kernel
theorem d_MA_max_0 : decode b_MA_max 0 = .ok (.iload_n 0, 1) := by decide +kernel
theorem d_MA_max_1 : decode b_MA_max 1 = .ok (.iload_n 1, 1) := by decide +kernel
theorem d_MA_max_2 : decode b_MA_max 2 = .ok (.if_icmp .lt 7, 3) := by decide +kernel
theorem d_MA_max_5 : decode b_MA_max 5 = .ok (.iload_n 0, 1) := by decide +kernel
theorem d_MA_max_6 : decode b_MA_max 6 = .ok (.goto 4, 3) := by decide +kernel
theorem d_MA_max_9 : decode b_MA_max 9 = .ok (.iload_n 1, 1) := by decide +kernel
theorem d_MA_max_10 : decode b_MA_max 10 = .ok (.ireturn, 1) := by decide +kernel
theorem d_AS_hugeLength_0 : decode b_AS_hugeLength 0 = .ok (.iload_n 0, 1) := by decide +kernel
theorem d_AS_hugeLength_1 : decode b_AS_hugeLength 1 = .ok (.iload_n 1, 1) := by decide +kernel
theorem d_AS_hugeLength_2 : decode b_AS_hugeLength 2 = .ok (.iadd, 1) := by decide +kernel
theorem d_AS_hugeLength_3 : decode b_AS_hugeLength 3 = .ok (.istore_n 2, 1) := by decide +kernel
theorem d_AS_hugeLength_4 : decode b_AS_hugeLength 4 = .ok (.iload_n 2, 1) := by decide +kernel
theorem d_AS_hugeLength_5 : decode b_AS_hugeLength 5 = .ok (.ifCond .ge 44, 3) := by decide +kernel
theorem d_AS_hugeLength_8 : decode b_AS_hugeLength 8 = .ok (.new 204, 3) := by decide +kernel
theorem d_AS_hugeLength_11 : decode b_AS_hugeLength 11 = .ok (.dup, 1) := by decide +kernel
theorem d_AS_hugeLength_12 : decode b_AS_hugeLength 12 = .ok (.new 89, 3) := by decide +kernel
theorem d_AS_hugeLength_15 : decode b_AS_hugeLength 15 = .ok (.dup, 1) := by decide +kernel
theorem d_AS_hugeLength_16 : decode b_AS_hugeLength 16 = .ok (.invokespecial 91, 3) := by decide +kernel
theorem d_AS_hugeLength_19 : decode b_AS_hugeLength 19 = .ok (.ldc 206, 2) := by decide +kernel
theorem d_AS_hugeLength_21 : decode b_AS_hugeLength 21 = .ok (.invokevirtual 94, 3) := by decide +kernel
theorem d_AS_hugeLength_24 : decode b_AS_hugeLength 24 = .ok (.iload_n 0, 1) := by decide +kernel
theorem d_AS_hugeLength_25 : decode b_AS_hugeLength 25 = .ok (.invokevirtual 98, 3) := by decide +kernel
theorem d_AS_hugeLength_28 : decode b_AS_hugeLength 28 = .ok (.ldc 208, 2) := by decide +kernel
theorem d_AS_hugeLength_30 : decode b_AS_hugeLength 30 = .ok (.invokevirtual 94, 3) := by decide +kernel
theorem d_AS_hugeLength_33 : decode b_AS_hugeLength 33 = .ok (.iload_n 1, 1) := by decide +kernel
theorem d_AS_hugeLength_34 : decode b_AS_hugeLength 34 = .ok (.invokevirtual 98, 3) := by decide +kernel
theorem d_AS_hugeLength_37 : decode b_AS_hugeLength 37 = .ok (.ldc 210, 2) := by decide +kernel
theorem d_AS_hugeLength_39 : decode b_AS_hugeLength 39 = .ok (.invokevirtual 94, 3) := by decide +kernel
theorem d_AS_hugeLength_42 : decode b_AS_hugeLength 42 = .ok (.invokevirtual 101, 3) := by decide +kernel
theorem d_AS_hugeLength_45 : decode b_AS_hugeLength 45 = .ok (.invokespecial 212, 3) := by decide +kernel
theorem d_AS_hugeLength_48 : decode b_AS_hugeLength 48 = .ok (.athrow, 1) := by decide +kernel
theorem d_AS_hugeLength_49 : decode b_AS_hugeLength 49 = .ok (.iload_n 2, 1) := by decide +kernel
theorem d_AS_hugeLength_50 : decode b_AS_hugeLength 50 = .ok (.ldc 200, 2) := by decide +kernel
theorem d_AS_hugeLength_52 : decode b_AS_hugeLength 52 = .ok (.if_icmp .gt 6, 3) := by decide +kernel
theorem d_AS_hugeLength_55 : decode b_AS_hugeLength 55 = .ok (.ldc 200, 2) := by decide +kernel
theorem d_AS_hugeLength_57 : decode b_AS_hugeLength 57 = .ok (.ireturn, 1) := by decide +kernel
theorem d_AS_hugeLength_58 : decode b_AS_hugeLength 58 = .ok (.iload_n 2, 1) := by decide +kernel
theorem d_AS_hugeLength_59 : decode b_AS_hugeLength 59 = .ok (.ireturn, 1) := by decide +kernel
theorem d_AR_copyOf2_0 : decode b_AR_copyOf2 0 = .ok (.aload_n 0, 1) := by decide +kernel
theorem d_AR_copyOf2_1 : decode b_AR_copyOf2 1 = .ok (.iload_n 1, 1) := by decide +kernel
theorem d_AR_copyOf2_2 : decode b_AR_copyOf2 2 = .ok (.aload_n 0, 1) := by decide +kernel
theorem d_AR_copyOf2_3 : decode b_AR_copyOf2 3 = .ok (.invokevirtual 86, 3) := by decide +kernel
theorem d_AR_copyOf2_6 : decode b_AR_copyOf2 6 = .ok (.invokestatic 300, 3) := by decide +kernel
theorem d_AR_copyOf2_9 : decode b_AR_copyOf2 9 = .ok (.areturn, 1) := by decide +kernel
theorem d_AR_copyOf3_0 : decode b_AR_copyOf3 0 = .ok (.aload_n 2, 1) := by decide +kernel
theorem d_AR_copyOf3_1 : decode b_AR_copyOf3 1 = .ok (.ldc 110, 2) := by decide +kernel
theorem d_AR_copyOf3_3 : decode b_AR_copyOf3 3 = .ok (.if_acmp .ne 10, 3) := by decide +kernel
theorem d_AR_copyOf3_6 : decode b_AR_copyOf3 6 = .ok (.iload_n 1, 1) := by decide +kernel
theorem d_AR_copyOf3_7 : decode b_AR_copyOf3 7 = .ok (.anewarray 2, 3) := by decide +kernel
theorem d_AR_copyOf3_10 : decode b_AR_copyOf3 10 = .ok (.goto 14, 3) := by decide +kernel
theorem d_AR_copyOf3_13 : decode b_AR_copyOf3 13 = .ok (.aload_n 2, 1) := by decide +kernel
theorem d_AR_copyOf3_14 : decode b_AR_copyOf3 14 = .ok (.invokevirtual 90, 3) := by decide +kernel
theorem d_AR_copyOf3_17 : decode b_AR_copyOf3 17 = .ok (.iload_n 1, 1) := by decide +kernel
theorem d_AR_copyOf3_18 : decode b_AR_copyOf3 18 = .ok (.invokestatic 95, 3) := by decide +kernel
theorem d_AR_copyOf3_21 : decode b_AR_copyOf3 21 = .ok (.checkcast 110, 3) := by decide +kernel
theorem d_AR_copyOf3_24 : decode b_AR_copyOf3 24 = .ok (.astore_n 3, 1) := by decide +kernel
theorem d_AR_copyOf3_25 : decode b_AR_copyOf3 25 = .ok (.aload_n 0, 1) := by decide +kernel
theorem d_AR_copyOf3_26 : decode b_AR_copyOf3 26 = .ok (.iconst 0, 1) := by decide +kernel
theorem d_AR_copyOf3_27 : decode b_AR_copyOf3 27 = .ok (.aload_n 3, 1) := by decide +kernel
theorem d_AR_copyOf3_28 : decode b_AR_copyOf3 28 = .ok (.iconst 0, 1) := by decide +kernel
theorem d_AR_copyOf3_29 : decode b_AR_copyOf3 29 = .ok (.aload_n 0, 1) := by decide +kernel
theorem d_AR_copyOf3_30 : decode b_AR_copyOf3 30 = .ok (.arraylength, 1) := by decide +kernel
theorem d_AR_copyOf3_31 : decode b_AR_copyOf3 31 = .ok (.iload_n 1, 1) := by decide +kernel
theorem d_AR_copyOf3_32 : decode b_AR_copyOf3 32 = .ok (.invokestatic 304, 3) := by decide +kernel
theorem d_AR_copyOf3_35 : decode b_AR_copyOf3 35 = .ok (.invokestatic 150, 3) := by decide +kernel
theorem d_AR_copyOf3_38 : decode b_AR_copyOf3 38 = .ok (.aload_n 3, 1) := by decide +kernel
theorem d_AR_copyOf3_39 : decode b_AR_copyOf3 39 = .ok (.areturn, 1) := by decide +kernel
theorem d_MA_min_0 : decode b_MA_min 0 = .ok (.iload_n 0, 1) := by decide +kernel
theorem d_MA_min_1 : decode b_MA_min 1 = .ok (.iload_n 1, 1) := by decide +kernel
theorem d_MA_min_2 : decode b_MA_min 2 = .ok (.if_icmp .gt 7, 3) := by decide +kernel
theorem d_MA_min_5 : decode b_MA_min 5 = .ok (.iload_n 0, 1) := by decide +kernel
theorem d_MA_min_6 : decode b_MA_min 6 = .ok (.goto 4, 3) := by decide +kernel
theorem d_MA_min_9 : decode b_MA_min 9 = .ok (.iload_n 1, 1) := by decide +kernel
theorem d_MA_min_10 : decode b_MA_min 10 = .ok (.ireturn, 1) := by decide +kernel
theorem d_L_expression_0 : decode b_L_expression 0 = .ok (.aload 5, 2) := by decide +kernel
theorem d_L_expression_2 : decode b_L_expression 2 = .ok (.iconst 0, 1) := by decide +kernel
theorem d_L_expression_3 : decode b_L_expression 3 = .ok (.aload_n 0, 1) := by decide +kernel
theorem d_L_expression_4 : decode b_L_expression 4 = .ok (.iload_n 1, 1) := by decide +kernel
theorem d_L_expression_5 : decode b_L_expression 5 = .ok (.iload_n 2, 1) := by decide +kernel
theorem d_L_expression_6 : decode b_L_expression 6 = .ok (.iload_n 3, 1) := by decide +kernel
theorem d_L_expression_7 : decode b_L_expression 7 = .ok (.iload 4, 2) := by decide +kernel
theorem d_L_expression_9 : decode b_L_expression 9 = .ok (.invokevirtual 7, 3) := by decide +kernel
theorem d_L_expression_12 : decode b_L_expression 12 = .ok (.i2l, 1) := by decide +kernel
theorem d_L_expression_13 : decode b_L_expression 13 = .ok (.lastore, 1) := by decide +kernel
theorem d_L_expression_14 : decode b_L_expression 14 = .ok (.goto 11, 3) := by decide +kernel
theorem d_L_expression_17 : decode b_L_expression 17 = .ok (.astore 6, 2) := by decide +kernel
theorem d_L_expression_19 : decode b_L_expression 19 = .ok (.iconst 1, 1) := by decide +kernel
theorem d_L_expression_20 : decode b_L_expression 20 = .ok (.ireturn, 1) := by decide +kernel
theorem d_L_expression_21 : decode b_L_expression 21 = .ok (.astore 6, 2) := by decide +kernel
theorem d_L_expression_23 : decode b_L_expression 23 = .ok (.iconst 2, 1) := by decide +kernel
theorem d_L_expression_24 : decode b_L_expression 24 = .ok (.ireturn, 1) := by decide +kernel
theorem d_L_expression_25 : decode b_L_expression 25 = .ok (.iconst 0, 1) := by decide +kernel
theorem d_L_expression_26 : decode b_L_expression 26 = .ok (.ireturn, 1) := by decide +kernel
theorem d_C_expression_0 : decode b_C_expression 0 = .ok (.aload_n 0, 1) := by decide +kernel
theorem d_C_expression_1 : decode b_C_expression 1 = .ok (.iload_n 1, 1) := by decide +kernel
theorem d_C_expression_2 : decode b_C_expression 2 = .ok (.iload_n 2, 1) := by decide +kernel
theorem d_C_expression_3 : decode b_C_expression 3 = .ok (.iload_n 3, 1) := by decide +kernel
theorem d_C_expression_4 : decode b_C_expression 4 = .ok (.iload 4, 2) := by decide +kernel
theorem d_C_expression_6 : decode b_C_expression 6 = .ok (.invokevirtual 52, 3) := by decide +kernel
theorem d_C_expression_9 : decode b_C_expression 9 = .ok (.ifCond .ne 11, 3) := by decide +kernel
theorem d_C_expression_12 : decode b_C_expression 12 = .ok (.new 56, 3) := by decide +kernel
theorem d_C_expression_15 : decode b_C_expression 15 = .ok (.dup, 1) := by decide +kernel
theorem d_C_expression_16 : decode b_C_expression 16 = .ok (.invokespecial 58, 3) := by decide +kernel
theorem d_C_expression_19 : decode b_C_expression 19 = .ok (.athrow, 1) := by decide +kernel
theorem d_C_expression_20 : decode b_C_expression 20 = .ok (.aload_n 0, 1) := by decide +kernel
theorem d_C_expression_21 : decode b_C_expression 21 = .ok (.iload_n 1, 1) := by decide +kernel
theorem d_C_expression_22 : decode b_C_expression 22 = .ok (.iload_n 2, 1) := by decide +kernel
theorem d_C_expression_23 : decode b_C_expression 23 = .ok (.iload_n 3, 1) := by decide +kernel
theorem d_C_expression_24 : decode b_C_expression 24 = .ok (.iload 4, 2) := by decide +kernel
theorem d_C_expression_26 : decode b_C_expression 26 = .ok (.invokevirtual 59, 3) := by decide +kernel
theorem d_C_expression_29 : decode b_C_expression 29 = .ok (.ifCond .ne 11, 3) := by decide +kernel
theorem d_C_expression_32 : decode b_C_expression 32 = .ok (.new 62, 3) := by decide +kernel
theorem d_C_expression_35 : decode b_C_expression 35 = .ok (.dup, 1) := by decide +kernel
theorem d_C_expression_36 : decode b_C_expression 36 = .ok (.invokespecial 64, 3) := by decide +kernel
theorem d_C_expression_39 : decode b_C_expression 39 = .ok (.athrow, 1) := by decide +kernel
theorem d_C_expression_40 : decode b_C_expression 40 = .ok (.aload_n 0, 1) := by decide +kernel
theorem d_C_expression_41 : decode b_C_expression 41 = .ok (.getfield 30, 3) := by decide +kernel
theorem d_C_expression_44 : decode b_C_expression 44 = .ok (.iload_n 1, 1) := by decide +kernel
theorem d_C_expression_45 : decode b_C_expression 45 = .ok (.iconst 1, 1) := by decide +kernel
theorem d_C_expression_46 : decode b_C_expression 46 = .ok (.if_icmp .ne 10, 3) := by decide +kernel
theorem d_C_expression_49 : decode b_C_expression 49 = .ok (.aload_n 0, 1) := by decide +kernel
theorem d_C_expression_50 : decode b_C_expression 50 = .ok (.invokevirtual 65, 3) := by decide +kernel
theorem d_C_expression_53 : decode b_C_expression 53 = .ok (.goto 20, 3) := by decide +kernel
theorem d_C_expression_56 : decode b_C_expression 56 = .ok (.new 69, 3) := by decide +kernel
theorem d_C_expression_59 : decode b_C_expression 59 = .ok (.dup, 1) := by decide +kernel
theorem d_C_expression_60 : decode b_C_expression 60 = .ok (.aload_n 0, 1) := by decide +kernel
theorem d_C_expression_61 : decode b_C_expression 61 = .ok (.iload_n 1, 1) := by decide +kernel
theorem d_C_expression_62 : decode b_C_expression 62 = .ok (.iload_n 2, 1) := by decide +kernel
theorem d_C_expression_63 : decode b_C_expression 63 = .ok (.iload_n 3, 1) := by decide +kernel
theorem d_C_expression_64 : decode b_C_expression 64 = .ok (.iload 4, 2) := by decide +kernel
theorem d_C_expression_66 : decode b_C_expression 66 = .ok (.invokevirtual 71, 3) := by decide +kernel
theorem d_C_expression_69 : decode b_C_expression 69 = .ok (.iconst 0, 1) := by decide +kernel
theorem d_C_expression_70 : decode b_C_expression 70 = .ok (.invokespecial 75, 3) := by decide +kernel
theorem d_C_expression_73 : decode b_C_expression 73 = .ok (.invokevirtual 48, 3) := by decide +kernel
theorem d_C_expression_76 : decode b_C_expression 76 = .ok (.pop, 1) := by decide +kernel
theorem d_C_expression_77 : decode b_C_expression 77 = .ok (.aload_n 0, 1) := by decide +kernel
theorem d_C_expression_78 : decode b_C_expression 78 = .ok (.getfield 30, 3) := by decide +kernel
theorem d_C_expression_81 : decode b_C_expression 81 = .ok (.invokevirtual 78, 3) := by decide +kernel
theorem d_C_expression_84 : decode b_C_expression 84 = .ok (.iconst 1, 1) := by decide +kernel
theorem d_C_expression_85 : decode b_C_expression 85 = .ok (.isub, 1) := by decide +kernel
theorem d_C_expression_86 : decode b_C_expression 86 = .ok (.ireturn, 1) := by decide +kernel
theorem d_C_isWellFormed_0 : decode b_C_isWellFormed 0 = .ok (.iload_n 1, 1) := by decide +kernel
theorem d_C_isWellFormed_1 : decode b_C_isWellFormed 1 = .ok (.ifCond .lt 9, 3) := by decide +kernel
theorem d_C_isWellFormed_4 : decode b_C_isWellFormed 4 = .ok (.iload_n 1, 1) := by decide +kernel
theorem d_C_isWellFormed_5 : decode b_C_isWellFormed 5 = .ok (.bipush 9, 2) := by decide +kernel
theorem d_C_isWellFormed_7 : decode b_C_isWellFormed 7 = .ok (.if_icmp .le 5, 3) := by decide +kernel
theorem d_C_isWellFormed_10 : decode b_C_isWellFormed 10 = .ok (.iconst 0, 1) := by decide +kernel
theorem d_C_isWellFormed_11 : decode b_C_isWellFormed 11 = .ok (.ireturn, 1) := by decide +kernel
theorem d_C_isWellFormed_12 : decode b_C_isWellFormed 12 = .ok (.iload_n 1, 1) := by decide +kernel
theorem d_C_isWellFormed_13 : decode b_C_isWellFormed 13 = .ok (.iconst 2, 1) := by decide +kernel
theorem d_C_isWellFormed_14 : decode b_C_isWellFormed 14 = .ok (.if_icmp .lt 13, 3) := by decide +kernel
theorem d_C_isWellFormed_17 : decode b_C_isWellFormed 17 = .ok (.aload_n 0, 1) := by decide +kernel
theorem d_C_isWellFormed_18 : decode b_C_isWellFormed 18 = .ok (.iload_n 2, 1) := by decide +kernel
theorem d_C_isWellFormed_19 : decode b_C_isWellFormed 19 = .ok (.invokevirtual 82, 3) := by decide +kernel
theorem d_C_isWellFormed_22 : decode b_C_isWellFormed 22 = .ok (.ifCond .ne 5, 3) := by decide +kernel
theorem d_C_isWellFormed_25 : decode b_C_isWellFormed 25 = .ok (.iconst 0, 1) := by decide +kernel
theorem d_C_isWellFormed_26 : decode b_C_isWellFormed 26 = .ok (.ireturn, 1) := by decide +kernel
theorem d_C_isWellFormed_27 : decode b_C_isWellFormed 27 = .ok (.iload_n 1, 1) := by decide +kernel
theorem d_C_isWellFormed_28 : decode b_C_isWellFormed 28 = .ok (.iconst 2, 1) := by decide +kernel
theorem d_C_isWellFormed_29 : decode b_C_isWellFormed 29 = .ok (.if_icmp .lt 19, 3) := by decide +kernel
theorem d_C_isWellFormed_32 : decode b_C_isWellFormed 32 = .ok (.iload_n 1, 1) := by decide +kernel
theorem d_C_isWellFormed_33 : decode b_C_isWellFormed 33 = .ok (.bipush 7, 2) := by decide +kernel
theorem d_C_isWellFormed_35 : decode b_C_isWellFormed 35 = .ok (.if_icmp .gt 13, 3) := by decide +kernel
theorem d_C_isWellFormed_38 : decode b_C_isWellFormed 38 = .ok (.aload_n 0, 1) := by decide +kernel
theorem d_C_isWellFormed_39 : decode b_C_isWellFormed 39 = .ok (.iload_n 3, 1) := by decide +kernel
theorem d_C_isWellFormed_40 : decode b_C_isWellFormed 40 = .ok (.invokevirtual 82, 3) := by decide +kernel
theorem d_C_isWellFormed_43 : decode b_C_isWellFormed 43 = .ok (.ifCond .ne 5, 3) := by decide +kernel
theorem d_C_isWellFormed_46 : decode b_C_isWellFormed 46 = .ok (.iconst 0, 1) := by decide +kernel
theorem d_C_isWellFormed_47 : decode b_C_isWellFormed 47 = .ok (.ireturn, 1) := by decide +kernel
theorem d_C_isWellFormed_48 : decode b_C_isWellFormed 48 = .ok (.iload_n 1, 1) := by decide +kernel
theorem d_C_isWellFormed_49 : decode b_C_isWellFormed 49 = .ok (.bipush 7, 2) := by decide +kernel
theorem d_C_isWellFormed_51 : decode b_C_isWellFormed 51 = .ok (.if_icmp .ne 14, 3) := by decide +kernel
theorem d_C_isWellFormed_54 : decode b_C_isWellFormed 54 = .ok (.aload_n 0, 1) := by decide +kernel
theorem d_C_isWellFormed_55 : decode b_C_isWellFormed 55 = .ok (.iload 4, 2) := by decide +kernel
theorem d_C_isWellFormed_57 : decode b_C_isWellFormed 57 = .ok (.invokevirtual 82, 3) := by decide +kernel
theorem d_C_isWellFormed_60 : decode b_C_isWellFormed 60 = .ok (.ifCond .ne 5, 3) := by decide +kernel
theorem d_C_isWellFormed_63 : decode b_C_isWellFormed 63 = .ok (.iconst 0, 1) := by decide +kernel
theorem d_C_isWellFormed_64 : decode b_C_isWellFormed 64 = .ok (.ireturn, 1) := by decide +kernel
theorem d_C_isWellFormed_65 : decode b_C_isWellFormed 65 = .ok (.iload_n 1, 1) := by decide +kernel
theorem d_C_isWellFormed_66 : decode b_C_isWellFormed 66 = .ok (.bipush 9, 2) := by decide +kernel
theorem d_C_isWellFormed_68 : decode b_C_isWellFormed 68 = .ok (.if_icmp .ne 13, 3) := by decide +kernel
theorem d_C_isWellFormed_71 : decode b_C_isWellFormed 71 = .ok (.iload_n 3, 1) := by decide +kernel
theorem d_C_isWellFormed_72 : decode b_C_isWellFormed 72 = .ok (.iconst 1, 1) := by decide +kernel
theorem d_C_isWellFormed_73 : decode b_C_isWellFormed 73 = .ok (.if_icmp .lt 12, 3) := by decide +kernel
theorem d_C_isWellFormed_76 : decode b_C_isWellFormed 76 = .ok (.iload_n 3, 1) := by decide +kernel
theorem d_C_isWellFormed_77 : decode b_C_isWellFormed 77 = .ok (.iconst 5, 1) := by decide +kernel
theorem d_C_isWellFormed_78 : decode b_C_isWellFormed 78 = .ok (.if_icmp .gt 7, 3) := by decide +kernel
theorem d_C_isWellFormed_81 : decode b_C_isWellFormed 81 = .ok (.iconst 1, 1) := by decide +kernel
theorem d_C_isWellFormed_82 : decode b_C_isWellFormed 82 = .ok (.goto 4, 3) := by decide +kernel
theorem d_C_isWellFormed_85 : decode b_C_isWellFormed 85 = .ok (.iconst 0, 1) := by decide +kernel
theorem d_C_isWellFormed_86 : decode b_C_isWellFormed 86 = .ok (.ireturn, 1) := by decide +kernel
theorem d_C_isMade_0 : decode b_C_isMade 0 = .ok (.iload_n 1, 1) := by decide +kernel
theorem d_C_isMade_1 : decode b_C_isMade 1 = .ok (.ifCond .lt 18, 3) := by decide +kernel
theorem d_C_isMade_4 : decode b_C_isMade 4 = .ok (.iload_n 1, 1) := by decide +kernel
theorem d_C_isMade_5 : decode b_C_isMade 5 = .ok (.aload_n 0, 1) := by decide +kernel
theorem d_C_isMade_6 : decode b_C_isMade 6 = .ok (.getfield 30, 3) := by decide +kernel
theorem d_C_isMade_9 : decode b_C_isMade 9 = .ok (.invokevirtual 78, 3) := by decide +kernel
theorem d_C_isMade_12 : decode b_C_isMade 12 = .ok (.if_icmp .ge 7, 3) := by decide +kernel
theorem d_C_isMade_15 : decode b_C_isMade 15 = .ok (.iconst 1, 1) := by decide +kernel
theorem d_C_isMade_16 : decode b_C_isMade 16 = .ok (.goto 4, 3) := by decide +kernel
theorem d_C_isMade_19 : decode b_C_isMade 19 = .ok (.iconst 0, 1) := by decide +kernel
theorem d_C_isMade_20 : decode b_C_isMade 20 = .ok (.ireturn, 1) := by decide +kernel
theorem d_A_size_0 : decode b_A_size 0 = .ok (.aload_n 0, 1) := by decide +kernel
theorem d_A_size_1 : decode b_A_size 1 = .ok (.getfield 48, 3) := by decide +kernel
theorem d_A_size_4 : decode b_A_size 4 = .ok (.ireturn, 1) := by decide +kernel
theorem d_C_hasRoomFor_0 : decode b_C_hasRoomFor 0 = .ok (.aload_n 0, 1) := by decide +kernel
theorem d_C_hasRoomFor_1 : decode b_C_hasRoomFor 1 = .ok (.iload_n 1, 1) := by decide +kernel
theorem d_C_hasRoomFor_2 : decode b_C_hasRoomFor 2 = .ok (.iload_n 2, 1) := by decide +kernel
theorem d_C_hasRoomFor_3 : decode b_C_hasRoomFor 3 = .ok (.iload_n 3, 1) := by decide +kernel
theorem d_C_hasRoomFor_4 : decode b_C_hasRoomFor 4 = .ok (.iload 4, 2) := by decide +kernel
theorem d_C_hasRoomFor_6 : decode b_C_hasRoomFor 6 = .ok (.invokevirtual 181, 3) := by decide +kernel
theorem d_C_hasRoomFor_9 : decode b_C_hasRoomFor 9 = .ok (.istore 5, 2) := by decide +kernel
theorem d_C_hasRoomFor_11 : decode b_C_hasRoomFor 11 = .ok (.iload_n 1, 1) := by decide +kernel
theorem d_C_hasRoomFor_12 : decode b_C_hasRoomFor 12 = .ok (.iconst 1, 1) := by decide +kernel
theorem d_C_hasRoomFor_13 : decode b_C_hasRoomFor 13 = .ok (.if_icmp .ne 7, 3) := by decide +kernel
theorem d_C_hasRoomFor_16 : decode b_C_hasRoomFor 16 = .ok (.iconst 1, 1) := by decide +kernel
theorem d_C_hasRoomFor_17 : decode b_C_hasRoomFor 17 = .ok (.goto 5, 3) := by decide +kernel
theorem d_C_hasRoomFor_20 : decode b_C_hasRoomFor 20 = .ok (.iload 5, 2) := by decide +kernel
theorem d_C_hasRoomFor_22 : decode b_C_hasRoomFor 22 = .ok (.istore 6, 2) := by decide +kernel
theorem d_C_hasRoomFor_24 : decode b_C_hasRoomFor 24 = .ok (.aload_n 0, 1) := by decide +kernel
theorem d_C_hasRoomFor_25 : decode b_C_hasRoomFor 25 = .ok (.getfield 30, 3) := by decide +kernel
theorem d_C_hasRoomFor_28 : decode b_C_hasRoomFor 28 = .ok (.invokevirtual 78, 3) := by decide +kernel
theorem d_C_hasRoomFor_31 : decode b_C_hasRoomFor 31 = .ok (.bipush 60, 2) := by decide +kernel
theorem d_C_hasRoomFor_33 : decode b_C_hasRoomFor 33 = .ok (.if_icmp .ge 37, 3) := by decide +kernel
theorem d_C_hasRoomFor_36 : decode b_C_hasRoomFor 36 = .ok (.aload_n 0, 1) := by decide +kernel
theorem d_C_hasRoomFor_37 : decode b_C_hasRoomFor 37 = .ok (.getfield 26, 3) := by decide +kernel
theorem d_C_hasRoomFor_40 : decode b_C_hasRoomFor 40 = .ok (.invokevirtual 78, 3) := by decide +kernel
theorem d_C_hasRoomFor_43 : decode b_C_hasRoomFor 43 = .ok (.iload 6, 2) := by decide +kernel
theorem d_C_hasRoomFor_45 : decode b_C_hasRoomFor 45 = .ok (.iadd, 1) := by decide +kernel
theorem d_C_hasRoomFor_46 : decode b_C_hasRoomFor 46 = .ok (.bipush 60, 2) := by decide +kernel
theorem d_C_hasRoomFor_48 : decode b_C_hasRoomFor 48 = .ok (.if_icmp .gt 22, 3) := by decide +kernel
theorem d_C_hasRoomFor_51 : decode b_C_hasRoomFor 51 = .ok (.aload_n 0, 1) := by decide +kernel
theorem d_C_hasRoomFor_52 : decode b_C_hasRoomFor 52 = .ok (.getfield 33, 3) := by decide +kernel
theorem d_C_hasRoomFor_55 : decode b_C_hasRoomFor 55 = .ok (.invokevirtual 78, 3) := by decide +kernel
theorem d_C_hasRoomFor_58 : decode b_C_hasRoomFor 58 = .ok (.iload 5, 2) := by decide +kernel
theorem d_C_hasRoomFor_60 : decode b_C_hasRoomFor 60 = .ok (.iadd, 1) := by decide +kernel
theorem d_C_hasRoomFor_61 : decode b_C_hasRoomFor 61 = .ok (.bipush 80, 2) := by decide +kernel
theorem d_C_hasRoomFor_63 : decode b_C_hasRoomFor 63 = .ok (.if_icmp .gt 7, 3) := by decide +kernel
theorem d_C_hasRoomFor_66 : decode b_C_hasRoomFor 66 = .ok (.iconst 1, 1) := by decide +kernel
theorem d_C_hasRoomFor_67 : decode b_C_hasRoomFor 67 = .ok (.goto 4, 3) := by decide +kernel
theorem d_C_hasRoomFor_70 : decode b_C_hasRoomFor 70 = .ok (.iconst 0, 1) := by decide +kernel
theorem d_C_hasRoomFor_71 : decode b_C_hasRoomFor 71 = .ok (.ireturn, 1) := by decide +kernel
theorem d_C_constraintsNeeded_0 : decode b_C_constraintsNeeded 0 = .ok (.iload_n 1, 1) := by decide +kernel
theorem d_C_constraintsNeeded_1 : decode b_C_constraintsNeeded 1 = .ok (.tableswitch 89 4 9 #[39, 53, 53, 55, 89, 71], 39) := by decide +kernel
theorem d_C_constraintsNeeded_40 : decode b_C_constraintsNeeded 40 = .ok (.aload_n 0, 1) := by decide +kernel
theorem d_C_constraintsNeeded_41 : decode b_C_constraintsNeeded 41 = .ok (.iload_n 2, 1) := by decide +kernel
theorem d_C_constraintsNeeded_42 : decode b_C_constraintsNeeded 42 = .ok (.invokevirtual 94, 3) := by decide +kernel
theorem d_C_constraintsNeeded_45 : decode b_C_constraintsNeeded 45 = .ok (.aload_n 0, 1) := by decide +kernel
theorem d_C_constraintsNeeded_46 : decode b_C_constraintsNeeded 46 = .ok (.iload_n 3, 1) := by decide +kernel
theorem d_C_constraintsNeeded_47 : decode b_C_constraintsNeeded 47 = .ok (.invokevirtual 94, 3) := by decide +kernel
theorem d_C_constraintsNeeded_50 : decode b_C_constraintsNeeded 50 = .ok (.invokestatic 185, 3) := by decide +kernel
theorem d_C_constraintsNeeded_53 : decode b_C_constraintsNeeded 53 = .ok (.ireturn, 1) := by decide +kernel
theorem d_C_constraintsNeeded_54 : decode b_C_constraintsNeeded 54 = .ok (.iconst 2, 1) := by decide +kernel
theorem d_C_constraintsNeeded_55 : decode b_C_constraintsNeeded 55 = .ok (.ireturn, 1) := by decide +kernel
theorem d_C_constraintsNeeded_56 : decode b_C_constraintsNeeded 56 = .ok (.aload_n 0, 1) := by decide +kernel
theorem d_C_constraintsNeeded_57 : decode b_C_constraintsNeeded 57 = .ok (.iload 4, 2) := by decide +kernel
theorem d_C_constraintsNeeded_59 : decode b_C_constraintsNeeded 59 = .ok (.invokevirtual 94, 3) := by decide +kernel
theorem d_C_constraintsNeeded_62 : decode b_C_constraintsNeeded 62 = .ok (.aload_n 0, 1) := by decide +kernel
theorem d_C_constraintsNeeded_63 : decode b_C_constraintsNeeded 63 = .ok (.iload_n 2, 1) := by decide +kernel
theorem d_C_constraintsNeeded_64 : decode b_C_constraintsNeeded 64 = .ok (.iload_n 3, 1) := by decide +kernel
theorem d_C_constraintsNeeded_65 : decode b_C_constraintsNeeded 65 = .ok (.invokevirtual 86, 3) := by decide +kernel
theorem d_C_constraintsNeeded_68 : decode b_C_constraintsNeeded 68 = .ok (.invokestatic 185, 3) := by decide +kernel
theorem d_C_constraintsNeeded_71 : decode b_C_constraintsNeeded 71 = .ok (.ireturn, 1) := by decide +kernel
theorem d_C_constraintsNeeded_72 : decode b_C_constraintsNeeded 72 = .ok (.iload_n 3, 1) := by decide +kernel
theorem d_C_constraintsNeeded_73 : decode b_C_constraintsNeeded 73 = .ok (.iconst 1, 1) := by decide +kernel
theorem d_C_constraintsNeeded_74 : decode b_C_constraintsNeeded 74 = .ok (.isub, 1) := by decide +kernel
theorem d_C_constraintsNeeded_75 : decode b_C_constraintsNeeded 75 = .ok (.aload_n 0, 1) := by decide +kernel
theorem d_C_constraintsNeeded_76 : decode b_C_constraintsNeeded 76 = .ok (.iload_n 2, 1) := by decide +kernel
theorem d_C_constraintsNeeded_77 : decode b_C_constraintsNeeded 77 = .ok (.invokevirtual 94, 3) := by decide +kernel
theorem d_C_constraintsNeeded_80 : decode b_C_constraintsNeeded 80 = .ok (.aload_n 0, 1) := by decide +kernel
theorem d_C_constraintsNeeded_81 : decode b_C_constraintsNeeded 81 = .ok (.iload_n 2, 1) := by decide +kernel
theorem d_C_constraintsNeeded_82 : decode b_C_constraintsNeeded 82 = .ok (.invokevirtual 94, 3) := by decide +kernel
theorem d_C_constraintsNeeded_85 : decode b_C_constraintsNeeded 85 = .ok (.invokestatic 185, 3) := by decide +kernel
theorem d_C_constraintsNeeded_88 : decode b_C_constraintsNeeded 88 = .ok (.imul, 1) := by decide +kernel
theorem d_C_constraintsNeeded_89 : decode b_C_constraintsNeeded 89 = .ok (.ireturn, 1) := by decide +kernel
end
section
theorem d_C_constraintsNeeded_90 : decode b_C_constraintsNeeded 90 = .ok (.iconst 0, 1) := by decide +kernel
theorem d_C_constraintsNeeded_91 : decode b_C_constraintsNeeded 91 = .ok (.ireturn, 1) := by decide +kernel
theorem d_C_sumOf_0 : decode b_C_sumOf 0 = .ok (.aload_n 0, 1) := by decide +kernel
theorem d_C_sumOf_1 : decode b_C_sumOf 1 = .ok (.getfield 30, 3) := by decide +kernel
theorem d_C_sumOf_4 : decode b_C_sumOf 4 = .ok (.iload_n 1, 1) := by decide +kernel
theorem d_C_sumOf_5 : decode b_C_sumOf 5 = .ok (.invokevirtual 104, 3) := by decide +kernel
theorem d_C_sumOf_8 : decode b_C_sumOf 8 = .ok (.checkcast 69, 3) := by decide +kernel
theorem d_C_sumOf_11 : decode b_C_sumOf 11 = .ok (.getfield 192, 3) := by decide +kernel
theorem d_C_sumOf_14 : decode b_C_sumOf 14 = .ok (.areturn, 1) := by decide +kernel
theorem d_A_get_0 : decode b_A_get 0 = .ok (.iload_n 1, 1) := by decide +kernel
theorem d_A_get_1 : decode b_A_get 1 = .ok (.aload_n 0, 1) := by decide +kernel
theorem d_A_get_2 : decode b_A_get 2 = .ok (.getfield 48, 3) := by decide +kernel
theorem d_A_get_5 : decode b_A_get 5 = .ok (.invokestatic 118, 3) := by decide +kernel
theorem d_A_get_8 : decode b_A_get 8 = .ok (.pop, 1) := by decide +kernel
theorem d_A_get_9 : decode b_A_get 9 = .ok (.aload_n 0, 1) := by decide +kernel
theorem d_A_get_10 : decode b_A_get 10 = .ok (.iload_n 1, 1) := by decide +kernel
theorem d_A_get_11 : decode b_A_get 11 = .ok (.invokevirtual 123, 3) := by decide +kernel
theorem d_A_get_14 : decode b_A_get 14 = .ok (.areturn, 1) := by decide +kernel
theorem d_OB_checkIndex_0 : decode b_OB_checkIndex 0 = .ok (.iload_n 0, 1) := by decide +kernel
theorem d_OB_checkIndex_1 : decode b_OB_checkIndex 1 = .ok (.iload_n 1, 1) := by decide +kernel
theorem d_OB_checkIndex_2 : decode b_OB_checkIndex 2 = .ok (.aconst_null, 1) := by decide +kernel
theorem d_OB_checkIndex_3 : decode b_OB_checkIndex 3 = .ok (.invokestatic 105, 3) := by decide +kernel
theorem d_OB_checkIndex_6 : decode b_OB_checkIndex 6 = .ok (.ireturn, 1) := by decide +kernel
theorem d_PC_checkIndex_0 : decode b_PC_checkIndex 0 = .ok (.iload_n 0, 1) := by decide +kernel
theorem d_PC_checkIndex_1 : decode b_PC_checkIndex 1 = .ok (.ifCond .lt 8, 3) := by decide +kernel
theorem d_PC_checkIndex_4 : decode b_PC_checkIndex 4 = .ok (.iload_n 0, 1) := by decide +kernel
theorem d_PC_checkIndex_5 : decode b_PC_checkIndex 5 = .ok (.iload_n 1, 1) := by decide +kernel
theorem d_PC_checkIndex_6 : decode b_PC_checkIndex 6 = .ok (.if_icmp .lt 10, 3) := by decide +kernel
theorem d_PC_checkIndex_9 : decode b_PC_checkIndex 9 = .ok (.aload_n 2, 1) := by decide +kernel
theorem d_PC_checkIndex_10 : decode b_PC_checkIndex 10 = .ok (.iload_n 0, 1) := by decide +kernel
theorem d_PC_checkIndex_11 : decode b_PC_checkIndex 11 = .ok (.iload_n 1, 1) := by decide +kernel
theorem d_PC_checkIndex_12 : decode b_PC_checkIndex 12 = .ok (.invokestatic 95, 3) := by decide +kernel
theorem d_PC_checkIndex_15 : decode b_PC_checkIndex 15 = .ok (.athrow, 1) := by decide +kernel
theorem d_PC_checkIndex_16 : decode b_PC_checkIndex 16 = .ok (.iload_n 0, 1) := by decide +kernel
theorem d_PC_checkIndex_17 : decode b_PC_checkIndex 17 = .ok (.ireturn, 1) := by decide +kernel
theorem d_A_elementData_0 : decode b_A_elementData 0 = .ok (.aload_n 0, 1) := by decide +kernel
theorem d_A_elementData_1 : decode b_A_elementData 1 = .ok (.getfield 9, 3) := by decide +kernel
theorem d_A_elementData_4 : decode b_A_elementData 4 = .ok (.iload_n 1, 1) := by decide +kernel
theorem d_A_elementData_5 : decode b_A_elementData 5 = .ok (.aaload, 1) := by decide +kernel
theorem d_A_elementData_6 : decode b_A_elementData 6 = .ok (.areturn, 1) := by decide +kernel
theorem d_C_constraintsOfProduct_0 : decode b_C_constraintsOfProduct 0 = .ok (.aload_n 0, 1) := by decide +kernel
theorem d_C_constraintsOfProduct_1 : decode b_C_constraintsOfProduct 1 = .ok (.invokevirtual 189, 3) := by decide +kernel
theorem d_C_constraintsOfProduct_4 : decode b_C_constraintsOfProduct 4 = .ok (.ifCond .ne 10, 3) := by decide +kernel
theorem d_C_constraintsOfProduct_7 : decode b_C_constraintsOfProduct 7 = .ok (.aload_n 1, 1) := by decide +kernel
theorem d_C_constraintsOfProduct_8 : decode b_C_constraintsOfProduct 8 = .ok (.invokevirtual 189, 3) := by decide +kernel
theorem d_C_constraintsOfProduct_11 : decode b_C_constraintsOfProduct 11 = .ok (.ifCond .eq 7, 3) := by decide +kernel
theorem d_C_constraintsOfProduct_14 : decode b_C_constraintsOfProduct 14 = .ok (.iconst 0, 1) := by decide +kernel
theorem d_C_constraintsOfProduct_15 : decode b_C_constraintsOfProduct 15 = .ok (.goto 4, 3) := by decide +kernel
theorem d_C_constraintsOfProduct_18 : decode b_C_constraintsOfProduct 18 = .ok (.iconst 1, 1) := by decide +kernel
theorem d_C_constraintsOfProduct_19 : decode b_C_constraintsOfProduct 19 = .ok (.ireturn, 1) := by decide +kernel
theorem d_S_isConstant_0 : decode b_S_isConstant 0 = .ok (.aload_n 0, 1) := by decide +kernel
theorem d_S_isConstant_1 : decode b_S_isConstant 1 = .ok (.invokevirtual 24, 3) := by decide +kernel
theorem d_S_isConstant_4 : decode b_S_isConstant 4 = .ok (.ifCond .ne 7, 3) := by decide +kernel
theorem d_S_isConstant_7 : decode b_S_isConstant 7 = .ok (.iconst 1, 1) := by decide +kernel
theorem d_S_isConstant_8 : decode b_S_isConstant 8 = .ok (.goto 4, 3) := by decide +kernel
theorem d_S_isConstant_11 : decode b_S_isConstant 11 = .ok (.iconst 0, 1) := by decide +kernel
theorem d_S_isConstant_12 : decode b_S_isConstant 12 = .ok (.ireturn, 1) := by decide +kernel
theorem d_S_lastVariable_0 : decode b_S_lastVariable 0 = .ok (.bipush 59, 2) := by decide +kernel
theorem d_S_lastVariable_2 : decode b_S_lastVariable 2 = .ok (.istore_n 1, 1) := by decide +kernel
theorem d_S_lastVariable_3 : decode b_S_lastVariable 3 = .ok (.iload_n 1, 1) := by decide +kernel
theorem d_S_lastVariable_4 : decode b_S_lastVariable 4 = .ok (.ifCond .le 20, 3) := by decide +kernel
theorem d_S_lastVariable_7 : decode b_S_lastVariable 7 = .ok (.aload_n 0, 1) := by decide +kernel
theorem d_S_lastVariable_8 : decode b_S_lastVariable 8 = .ok (.getfield 9, 3) := by decide +kernel
theorem d_S_lastVariable_11 : decode b_S_lastVariable 11 = .ok (.iload_n 1, 1) := by decide +kernel
theorem d_S_lastVariable_12 : decode b_S_lastVariable 12 = .ok (.iaload, 1) := by decide +kernel
theorem d_S_lastVariable_13 : decode b_S_lastVariable 13 = .ok (.ifCond .eq 5, 3) := by decide +kernel
theorem d_S_lastVariable_16 : decode b_S_lastVariable 16 = .ok (.iload_n 1, 1) := by decide +kernel
theorem d_S_lastVariable_17 : decode b_S_lastVariable 17 = .ok (.ireturn, 1) := by decide +kernel
theorem d_S_lastVariable_18 : decode b_S_lastVariable 18 = .ok (.iinc 1 (-1), 3) := by decide +kernel
theorem d_S_lastVariable_21 : decode b_S_lastVariable 21 = .ok (.goto (-18), 3) := by decide +kernel
theorem d_S_lastVariable_24 : decode b_S_lastVariable 24 = .ok (.iconst 0, 1) := by decide +kernel
theorem d_S_lastVariable_25 : decode b_S_lastVariable 25 = .ok (.ireturn, 1) := by decide +kernel
theorem d_C_difference_0 : decode b_C_difference 0 = .ok (.aload_n 0, 1) := by decide +kernel
theorem d_C_difference_1 : decode b_C_difference 1 = .ok (.iload_n 1, 1) := by decide +kernel
theorem d_C_difference_2 : decode b_C_difference 2 = .ok (.invokevirtual 94, 3) := by decide +kernel
theorem d_C_difference_5 : decode b_C_difference 5 = .ok (.aload_n 0, 1) := by decide +kernel
theorem d_C_difference_6 : decode b_C_difference 6 = .ok (.iload_n 2, 1) := by decide +kernel
theorem d_C_difference_7 : decode b_C_difference 7 = .ok (.invokevirtual 94, 3) := by decide +kernel
theorem d_C_difference_10 : decode b_C_difference 10 = .ok (.invokevirtual 97, 3) := by decide +kernel
theorem d_C_difference_13 : decode b_C_difference 13 = .ok (.areturn, 1) := by decide +kernel
theorem d_S_minus_0 : decode b_S_minus 0 = .ok (.aload_n 0, 1) := by decide +kernel
theorem d_S_minus_1 : decode b_S_minus 1 = .ok (.aload_n 1, 1) := by decide +kernel
theorem d_S_minus_2 : decode b_S_minus 2 = .ok (.iconst 1, 1) := by decide +kernel
theorem d_S_minus_3 : decode b_S_minus 3 = .ok (.bipush 96, 2) := by decide +kernel
theorem d_S_minus_5 : decode b_S_minus 5 = .ok (.invokevirtual 16, 3) := by decide +kernel
theorem d_S_minus_8 : decode b_S_minus 8 = .ok (.areturn, 1) := by decide +kernel
theorem d_S_combinedWith_0 : decode b_S_combinedWith 0 = .ok (.new 10, 3) := by decide +kernel
theorem d_S_combinedWith_3 : decode b_S_combinedWith 3 = .ok (.dup, 1) := by decide +kernel
theorem d_S_combinedWith_4 : decode b_S_combinedWith 4 = .ok (.invokespecial 15, 3) := by decide +kernel
theorem d_S_combinedWith_7 : decode b_S_combinedWith 7 = .ok (.astore 4, 2) := by decide +kernel
theorem d_S_combinedWith_9 : decode b_S_combinedWith 9 = .ok (.iconst 0, 1) := by decide +kernel
theorem d_S_combinedWith_10 : decode b_S_combinedWith 10 = .ok (.istore 5, 2) := by decide +kernel
theorem d_S_combinedWith_12 : decode b_S_combinedWith 12 = .ok (.iload 5, 2) := by decide +kernel
theorem d_S_combinedWith_14 : decode b_S_combinedWith 14 = .ok (.bipush 60, 2) := by decide +kernel
theorem d_S_combinedWith_16 : decode b_S_combinedWith 16 = .ok (.if_icmp .ge 39, 3) := by decide +kernel
theorem d_S_combinedWith_19 : decode b_S_combinedWith 19 = .ok (.aload 4, 2) := by decide +kernel
theorem d_S_combinedWith_21 : decode b_S_combinedWith 21 = .ok (.getfield 9, 3) := by decide +kernel
theorem d_S_combinedWith_24 : decode b_S_combinedWith 24 = .ok (.iload 5, 2) := by decide +kernel
theorem d_S_combinedWith_26 : decode b_S_combinedWith 26 = .ok (.iload_n 2, 1) := by decide +kernel
theorem d_S_combinedWith_27 : decode b_S_combinedWith 27 = .ok (.aload_n 0, 1) := by decide +kernel
theorem d_S_combinedWith_28 : decode b_S_combinedWith 28 = .ok (.getfield 9, 3) := by decide +kernel
theorem d_S_combinedWith_31 : decode b_S_combinedWith 31 = .ok (.iload 5, 2) := by decide +kernel
theorem d_S_combinedWith_33 : decode b_S_combinedWith 33 = .ok (.iaload, 1) := by decide +kernel
theorem d_S_combinedWith_34 : decode b_S_combinedWith 34 = .ok (.imul, 1) := by decide +kernel
theorem d_S_combinedWith_35 : decode b_S_combinedWith 35 = .ok (.iload_n 3, 1) := by decide +kernel
theorem d_S_combinedWith_36 : decode b_S_combinedWith 36 = .ok (.aload_n 1, 1) := by decide +kernel
theorem d_S_combinedWith_37 : decode b_S_combinedWith 37 = .ok (.getfield 9, 3) := by decide +kernel
theorem d_S_combinedWith_40 : decode b_S_combinedWith 40 = .ok (.iload 5, 2) := by decide +kernel
theorem d_S_combinedWith_42 : decode b_S_combinedWith 42 = .ok (.iaload, 1) := by decide +kernel
theorem d_S_combinedWith_43 : decode b_S_combinedWith 43 = .ok (.imul, 1) := by decide +kernel
theorem d_S_combinedWith_44 : decode b_S_combinedWith 44 = .ok (.iadd, 1) := by decide +kernel
theorem d_S_combinedWith_45 : decode b_S_combinedWith 45 = .ok (.invokestatic 20, 3) := by decide +kernel
theorem d_S_combinedWith_48 : decode b_S_combinedWith 48 = .ok (.iastore, 1) := by decide +kernel
theorem d_S_combinedWith_49 : decode b_S_combinedWith 49 = .ok (.iinc 5 1, 3) := by decide +kernel
theorem d_S_combinedWith_52 : decode b_S_combinedWith 52 = .ok (.goto (-40), 3) := by decide +kernel
theorem d_S_combinedWith_55 : decode b_S_combinedWith 55 = .ok (.aload 4, 2) := by decide +kernel
theorem d_S_combinedWith_57 : decode b_S_combinedWith 57 = .ok (.areturn, 1) := by decide +kernel
theorem d_C_remainder_0 : decode b_C_remainder 0 = .ok (.iload_n 0, 1) := by decide +kernel
theorem d_C_remainder_1 : decode b_C_remainder 1 = .ok (.bipush 97, 2) := by decide +kernel
theorem d_C_remainder_3 : decode b_C_remainder 3 = .ok (.invokestatic 175, 3) := by decide +kernel
theorem d_C_remainder_6 : decode b_C_remainder 6 = .ok (.ireturn, 1) := by decide +kernel
theorem d_MA_floorMod_0 : decode b_MA_floorMod 0 = .ok (.iload_n 0, 1) := by decide +kernel
theorem d_MA_floorMod_1 : decode b_MA_floorMod 1 = .ok (.iload_n 1, 1) := by decide +kernel
theorem d_MA_floorMod_2 : decode b_MA_floorMod 2 = .ok (.irem, 1) := by decide +kernel
theorem d_MA_floorMod_3 : decode b_MA_floorMod 3 = .ok (.istore_n 2, 1) := by decide +kernel
theorem d_MA_floorMod_4 : decode b_MA_floorMod 4 = .ok (.iload_n 0, 1) := by decide +kernel
theorem d_MA_floorMod_5 : decode b_MA_floorMod 5 = .ok (.iload_n 1, 1) := by decide +kernel
theorem d_MA_floorMod_6 : decode b_MA_floorMod 6 = .ok (.ixor, 1) := by decide +kernel
theorem d_MA_floorMod_7 : decode b_MA_floorMod 7 = .ok (.ifCond .ge 11, 3) := by decide +kernel
theorem d_MA_floorMod_10 : decode b_MA_floorMod 10 = .ok (.iload_n 2, 1) := by decide +kernel
theorem d_MA_floorMod_11 : decode b_MA_floorMod 11 = .ok (.ifCond .eq 7, 3) := by decide +kernel
theorem d_MA_floorMod_14 : decode b_MA_floorMod 14 = .ok (.iload_n 2, 1) := by decide +kernel
theorem d_MA_floorMod_15 : decode b_MA_floorMod 15 = .ok (.iload_n 1, 1) := by decide +kernel
theorem d_MA_floorMod_16 : decode b_MA_floorMod 16 = .ok (.iadd, 1) := by decide +kernel
theorem d_MA_floorMod_17 : decode b_MA_floorMod 17 = .ok (.ireturn, 1) := by decide +kernel
theorem d_MA_floorMod_18 : decode b_MA_floorMod 18 = .ok (.iload_n 2, 1) := by decide +kernel
theorem d_MA_floorMod_19 : decode b_MA_floorMod 19 = .ok (.ireturn, 1) := by decide +kernel
theorem d_C_makeInput_0 : decode b_C_makeInput 0 = .ok (.aload_n 0, 1) := by decide +kernel
theorem d_C_makeInput_1 : decode b_C_makeInput 1 = .ok (.iconst 1, 1) := by decide +kernel
theorem d_C_makeInput_2 : decode b_C_makeInput 2 = .ok (.aload_n 0, 1) := by decide +kernel
theorem d_C_makeInput_3 : decode b_C_makeInput 3 = .ok (.getfield 12, 3) := by decide +kernel
theorem d_C_makeInput_6 : decode b_C_makeInput 6 = .ok (.aload_n 0, 1) := by decide +kernel
theorem d_C_makeInput_7 : decode b_C_makeInput 7 = .ok (.getfield 12, 3) := by decide +kernel
theorem d_C_makeInput_10 : decode b_C_makeInput 10 = .ok (.invokevirtual 195, 3) := by decide +kernel
theorem d_C_makeInput_13 : decode b_C_makeInput 13 = .ok (.istore_n 1, 1) := by decide +kernel
theorem d_C_makeInput_14 : decode b_C_makeInput 14 = .ok (.aload_n 0, 1) := by decide +kernel
theorem d_C_makeInput_15 : decode b_C_makeInput 15 = .ok (.dup, 1) := by decide +kernel
theorem d_C_makeInput_16 : decode b_C_makeInput 16 = .ok (.getfield 172, 3) := by decide +kernel
theorem d_C_makeInput_19 : decode b_C_makeInput 19 = .ok (.iconst 1, 1) := by decide +kernel
theorem d_C_makeInput_20 : decode b_C_makeInput 20 = .ok (.iadd, 1) := by decide +kernel
theorem d_C_makeInput_21 : decode b_C_makeInput 21 = .ok (.putfield 172, 3) := by decide +kernel
theorem d_C_makeInput_24 : decode b_C_makeInput 24 = .ok (.new 69, 3) := by decide +kernel
theorem d_C_makeInput_27 : decode b_C_makeInput 27 = .ok (.dup, 1) := by decide +kernel
theorem d_C_makeInput_28 : decode b_C_makeInput 28 = .ok (.iload_n 1, 1) := by decide +kernel
theorem d_C_makeInput_29 : decode b_C_makeInput 29 = .ok (.invokestatic 16, 3) := by decide +kernel
theorem d_C_makeInput_32 : decode b_C_makeInput 32 = .ok (.iload_n 1, 1) := by decide +kernel
theorem d_C_makeInput_33 : decode b_C_makeInput 33 = .ok (.invokespecial 75, 3) := by decide +kernel
theorem d_C_makeInput_36 : decode b_C_makeInput 36 = .ok (.areturn, 1) := by decide +kernel
theorem d_C_addVariable_0 : decode b_C_addVariable 0 = .ok (.aload_n 0, 1) := by decide +kernel
theorem d_C_addVariable_1 : decode b_C_addVariable 1 = .ok (.getfield 26, 3) := by decide +kernel
theorem d_C_addVariable_4 : decode b_C_addVariable 4 = .ok (.new 43, 3) := by decide +kernel
theorem d_C_addVariable_7 : decode b_C_addVariable 7 = .ok (.dup, 1) := by decide +kernel
theorem d_C_addVariable_8 : decode b_C_addVariable 8 = .ok (.iload_n 1, 1) := by decide +kernel
theorem d_C_addVariable_9 : decode b_C_addVariable 9 = .ok (.aload_n 2, 1) := by decide +kernel
theorem d_C_addVariable_10 : decode b_C_addVariable 10 = .ok (.aload_n 3, 1) := by decide +kernel
theorem d_C_addVariable_11 : decode b_C_addVariable 11 = .ok (.invokespecial 45, 3) := by decide +kernel
theorem d_C_addVariable_14 : decode b_C_addVariable 14 = .ok (.invokevirtual 48, 3) := by decide +kernel
theorem d_C_addVariable_17 : decode b_C_addVariable 17 = .ok (.pop, 1) := by decide +kernel
theorem d_C_addVariable_18 : decode b_C_addVariable 18 = .ok (.aload_n 0, 1) := by decide +kernel
theorem d_C_addVariable_19 : decode b_C_addVariable 19 = .ok (.getfield 26, 3) := by decide +kernel
theorem d_C_addVariable_22 : decode b_C_addVariable 22 = .ok (.invokevirtual 78, 3) := by decide +kernel
theorem d_C_addVariable_25 : decode b_C_addVariable 25 = .ok (.iconst 1, 1) := by decide +kernel
theorem d_C_addVariable_26 : decode b_C_addVariable 26 = .ok (.isub, 1) := by decide +kernel
theorem d_C_addVariable_27 : decode b_C_addVariable 27 = .ok (.ireturn, 1) := by decide +kernel
theorem d_E_init_0 : decode b_E_init 0 = .ok (.aload_n 0, 1) := by decide +kernel
theorem d_E_init_1 : decode b_E_init 1 = .ok (.invokespecial 1, 3) := by decide +kernel
theorem d_E_init_4 : decode b_E_init 4 = .ok (.aload_n 0, 1) := by decide +kernel
theorem d_E_init_5 : decode b_E_init 5 = .ok (.aload_n 1, 1) := by decide +kernel
theorem d_E_init_6 : decode b_E_init 6 = .ok (.putfield 7, 3) := by decide +kernel
theorem d_E_init_9 : decode b_E_init 9 = .ok (.aload_n 0, 1) := by decide +kernel
theorem d_E_init_10 : decode b_E_init 10 = .ok (.iload_n 2, 1) := by decide +kernel
theorem d_E_init_11 : decode b_E_init 11 = .ok (.putfield 13, 3) := by decide +kernel
theorem d_E_init_14 : decode b_E_init 14 = .ok (.return_, 1) := by decide +kernel
theorem d_C_makeSum_0 : decode b_C_makeSum 0 = .ok (.iload_n 1, 1) := by decide +kernel
theorem d_C_makeSum_1 : decode b_C_makeSum 1 = .ok (.tableswitch 158 2 9 #[47, 61, 68, 83, 98, 109, 134, 147], 47) := by decide +kernel
theorem d_C_makeSum_48 : decode b_C_makeSum 48 = .ok (.aload_n 0, 1) := by decide +kernel
theorem d_C_makeSum_49 : decode b_C_makeSum 49 = .ok (.iload_n 2, 1) := by decide +kernel
theorem d_C_makeSum_50 : decode b_C_makeSum 50 = .ok (.invokevirtual 94, 3) := by decide +kernel
theorem d_C_makeSum_53 : decode b_C_makeSum 53 = .ok (.aload_n 0, 1) := by decide +kernel
theorem d_C_makeSum_54 : decode b_C_makeSum 54 = .ok (.iload_n 3, 1) := by decide +kernel
theorem d_C_makeSum_55 : decode b_C_makeSum 55 = .ok (.invokevirtual 94, 3) := by decide +kernel
theorem d_C_makeSum_58 : decode b_C_makeSum 58 = .ok (.invokevirtual 199, 3) := by decide +kernel
theorem d_C_makeSum_61 : decode b_C_makeSum 61 = .ok (.areturn, 1) := by decide +kernel
theorem d_C_makeSum_62 : decode b_C_makeSum 62 = .ok (.aload_n 0, 1) := by decide +kernel
theorem d_C_makeSum_63 : decode b_C_makeSum 63 = .ok (.iload_n 2, 1) := by decide +kernel
theorem d_C_makeSum_64 : decode b_C_makeSum 64 = .ok (.iload_n 3, 1) := by decide +kernel
theorem d_C_makeSum_65 : decode b_C_makeSum 65 = .ok (.invokevirtual 86, 3) := by decide +kernel
theorem d_C_makeSum_68 : decode b_C_makeSum 68 = .ok (.areturn, 1) := by decide +kernel
theorem d_C_makeSum_69 : decode b_C_makeSum 69 = .ok (.aload_n 0, 1) := by decide +kernel
theorem d_C_makeSum_70 : decode b_C_makeSum 70 = .ok (.aload_n 0, 1) := by decide +kernel
theorem d_C_makeSum_71 : decode b_C_makeSum 71 = .ok (.iload_n 2, 1) := by decide +kernel
theorem d_C_makeSum_72 : decode b_C_makeSum 72 = .ok (.invokevirtual 94, 3) := by decide +kernel
theorem d_C_makeSum_75 : decode b_C_makeSum 75 = .ok (.aload_n 0, 1) := by decide +kernel
theorem d_C_makeSum_76 : decode b_C_makeSum 76 = .ok (.iload_n 3, 1) := by decide +kernel
theorem d_C_makeSum_77 : decode b_C_makeSum 77 = .ok (.invokevirtual 94, 3) := by decide +kernel
theorem d_C_makeSum_80 : decode b_C_makeSum 80 = .ok (.invokevirtual 202, 3) := by decide +kernel
theorem d_C_makeSum_83 : decode b_C_makeSum 83 = .ok (.areturn, 1) := by decide +kernel
theorem d_C_makeSum_84 : decode b_C_makeSum 84 = .ok (.aload_n 0, 1) := by decide +kernel
theorem d_C_makeSum_85 : decode b_C_makeSum 85 = .ok (.aload_n 0, 1) := by decide +kernel
theorem d_C_makeSum_86 : decode b_C_makeSum 86 = .ok (.iload_n 2, 1) := by decide +kernel
theorem d_C_makeSum_87 : decode b_C_makeSum 87 = .ok (.invokevirtual 94, 3) := by decide +kernel
theorem d_C_makeSum_90 : decode b_C_makeSum 90 = .ok (.aload_n 0, 1) := by decide +kernel
theorem d_C_makeSum_91 : decode b_C_makeSum 91 = .ok (.iload_n 3, 1) := by decide +kernel
theorem d_C_makeSum_92 : decode b_C_makeSum 92 = .ok (.invokevirtual 94, 3) := by decide +kernel
theorem d_C_makeSum_95 : decode b_C_makeSum 95 = .ok (.invokevirtual 206, 3) := by decide +kernel
theorem d_C_makeSum_98 : decode b_C_makeSum 98 = .ok (.areturn, 1) := by decide +kernel
theorem d_C_makeSum_99 : decode b_C_makeSum 99 = .ok (.aload_n 0, 1) := by decide +kernel
theorem d_C_makeSum_100 : decode b_C_makeSum 100 = .ok (.aload_n 0, 1) := by decide +kernel
theorem d_C_makeSum_101 : decode b_C_makeSum 101 = .ok (.iload_n 2, 1) := by decide +kernel
theorem d_C_makeSum_102 : decode b_C_makeSum 102 = .ok (.iload_n 3, 1) := by decide +kernel
theorem d_C_makeSum_103 : decode b_C_makeSum 103 = .ok (.invokevirtual 86, 3) := by decide +kernel
theorem d_C_makeSum_106 : decode b_C_makeSum 106 = .ok (.invokevirtual 209, 3) := by decide +kernel
theorem d_C_makeSum_109 : decode b_C_makeSum 109 = .ok (.areturn, 1) := by decide +kernel
theorem d_C_makeSum_110 : decode b_C_makeSum 110 = .ok (.aload_n 0, 1) := by decide +kernel
theorem d_C_makeSum_111 : decode b_C_makeSum 111 = .ok (.aload_n 0, 1) := by decide +kernel
theorem d_C_makeSum_112 : decode b_C_makeSum 112 = .ok (.iload 4, 2) := by decide +kernel
theorem d_C_makeSum_114 : decode b_C_makeSum 114 = .ok (.invokevirtual 94, 3) := by decide +kernel
theorem d_C_makeSum_117 : decode b_C_makeSum 117 = .ok (.aload_n 0, 1) := by decide +kernel
theorem d_C_makeSum_118 : decode b_C_makeSum 118 = .ok (.iload_n 2, 1) := by decide +kernel
theorem d_C_makeSum_119 : decode b_C_makeSum 119 = .ok (.iload_n 3, 1) := by decide +kernel
theorem d_C_makeSum_120 : decode b_C_makeSum 120 = .ok (.invokevirtual 86, 3) := by decide +kernel
theorem d_C_makeSum_123 : decode b_C_makeSum 123 = .ok (.invokevirtual 202, 3) := by decide +kernel
theorem d_C_makeSum_126 : decode b_C_makeSum 126 = .ok (.aload_n 0, 1) := by decide +kernel
theorem d_C_makeSum_127 : decode b_C_makeSum 127 = .ok (.iload_n 3, 1) := by decide +kernel
theorem d_C_makeSum_128 : decode b_C_makeSum 128 = .ok (.invokevirtual 94, 3) := by decide +kernel
theorem d_C_makeSum_131 : decode b_C_makeSum 131 = .ok (.invokevirtual 199, 3) := by decide +kernel
theorem d_C_makeSum_134 : decode b_C_makeSum 134 = .ok (.areturn, 1) := by decide +kernel
theorem d_C_makeSum_135 : decode b_C_makeSum 135 = .ok (.aload_n 0, 1) := by decide +kernel
theorem d_C_makeSum_136 : decode b_C_makeSum 136 = .ok (.getfield 20, 3) := by decide +kernel
theorem d_C_makeSum_139 : decode b_C_makeSum 139 = .ok (.aload_n 0, 1) := by decide +kernel
theorem d_C_makeSum_140 : decode b_C_makeSum 140 = .ok (.iload_n 2, 1) := by decide +kernel
theorem d_C_makeSum_141 : decode b_C_makeSum 141 = .ok (.invokevirtual 94, 3) := by decide +kernel
theorem d_C_makeSum_144 : decode b_C_makeSum 144 = .ok (.invokevirtual 97, 3) := by decide +kernel
theorem d_C_makeSum_147 : decode b_C_makeSum 147 = .ok (.areturn, 1) := by decide +kernel
theorem d_C_makeSum_148 : decode b_C_makeSum 148 = .ok (.aload_n 0, 1) := by decide +kernel
theorem d_C_makeSum_149 : decode b_C_makeSum 149 = .ok (.aload_n 0, 1) := by decide +kernel
theorem d_C_makeSum_150 : decode b_C_makeSum 150 = .ok (.iload_n 2, 1) := by decide +kernel
theorem d_C_makeSum_151 : decode b_C_makeSum 151 = .ok (.invokevirtual 94, 3) := by decide +kernel
theorem d_C_makeSum_154 : decode b_C_makeSum 154 = .ok (.iload_n 3, 1) := by decide +kernel
theorem d_C_makeSum_155 : decode b_C_makeSum 155 = .ok (.invokevirtual 212, 3) := by decide +kernel
theorem d_C_makeSum_158 : decode b_C_makeSum 158 = .ok (.areturn, 1) := by decide +kernel
theorem d_C_makeSum_159 : decode b_C_makeSum 159 = .ok (.aload_n 0, 1) := by decide +kernel
theorem d_C_makeSum_160 : decode b_C_makeSum 160 = .ok (.getfield 20, 3) := by decide +kernel
theorem d_C_makeSum_163 : decode b_C_makeSum 163 = .ok (.iload_n 2, 1) := by decide +kernel
theorem d_C_makeSum_164 : decode b_C_makeSum 164 = .ok (.invokestatic 122, 3) := by decide +kernel
theorem d_C_makeSum_167 : decode b_C_makeSum 167 = .ok (.invokevirtual 216, 3) := by decide +kernel
theorem d_C_makeSum_170 : decode b_C_makeSum 170 = .ok (.areturn, 1) := by decide +kernel
theorem d_S_plus_0 : decode b_S_plus 0 = .ok (.aload_n 0, 1) := by decide +kernel
theorem d_S_plus_1 : decode b_S_plus 1 = .ok (.aload_n 1, 1) := by decide +kernel
theorem d_S_plus_2 : decode b_S_plus 2 = .ok (.iconst 1, 1) := by decide +kernel
theorem d_S_plus_3 : decode b_S_plus 3 = .ok (.iconst 1, 1) := by decide +kernel
theorem d_S_plus_4 : decode b_S_plus 4 = .ok (.invokevirtual 16, 3) := by decide +kernel
theorem d_S_plus_7 : decode b_S_plus 7 = .ok (.areturn, 1) := by decide +kernel
theorem d_C_makeProduct_0 : decode b_C_makeProduct 0 = .ok (.aload_n 1, 1) := by decide +kernel
theorem d_C_makeProduct_1 : decode b_C_makeProduct 1 = .ok (.invokevirtual 189, 3) := by decide +kernel
theorem d_C_makeProduct_4 : decode b_C_makeProduct 4 = .ok (.ifCond .eq 14, 3) := by decide +kernel
theorem d_C_makeProduct_7 : decode b_C_makeProduct 7 = .ok (.aload_n 2, 1) := by decide +kernel
theorem d_C_makeProduct_8 : decode b_C_makeProduct 8 = .ok (.aload_n 1, 1) := by decide +kernel
theorem d_C_makeProduct_9 : decode b_C_makeProduct 9 = .ok (.getfield 163, 3) := by decide +kernel
theorem d_C_makeProduct_12 : decode b_C_makeProduct 12 = .ok (.iconst 0, 1) := by decide +kernel
theorem d_C_makeProduct_13 : decode b_C_makeProduct 13 = .ok (.iaload, 1) := by decide +kernel
theorem d_C_makeProduct_14 : decode b_C_makeProduct 14 = .ok (.invokevirtual 216, 3) := by decide +kernel
theorem d_C_makeProduct_17 : decode b_C_makeProduct 17 = .ok (.areturn, 1) := by decide +kernel
theorem d_C_makeProduct_18 : decode b_C_makeProduct 18 = .ok (.aload_n 2, 1) := by decide +kernel
theorem d_C_makeProduct_19 : decode b_C_makeProduct 19 = .ok (.invokevirtual 189, 3) := by decide +kernel
theorem d_C_makeProduct_22 : decode b_C_makeProduct 22 = .ok (.ifCond .eq 14, 3) := by decide +kernel
theorem d_C_makeProduct_25 : decode b_C_makeProduct 25 = .ok (.aload_n 1, 1) := by decide +kernel
theorem d_C_makeProduct_26 : decode b_C_makeProduct 26 = .ok (.aload_n 2, 1) := by decide +kernel
theorem d_C_makeProduct_27 : decode b_C_makeProduct 27 = .ok (.getfield 163, 3) := by decide +kernel
theorem d_C_makeProduct_30 : decode b_C_makeProduct 30 = .ok (.iconst 0, 1) := by decide +kernel
theorem d_C_makeProduct_31 : decode b_C_makeProduct 31 = .ok (.iaload, 1) := by decide +kernel
theorem d_C_makeProduct_32 : decode b_C_makeProduct 32 = .ok (.invokevirtual 216, 3) := by decide +kernel
theorem d_C_makeProduct_35 : decode b_C_makeProduct 35 = .ok (.areturn, 1) := by decide +kernel
theorem d_C_makeProduct_36 : decode b_C_makeProduct 36 = .ok (.aload_n 0, 1) := by decide +kernel
theorem d_C_makeProduct_37 : decode b_C_makeProduct 37 = .ok (.aload_n 1, 1) := by decide +kernel
theorem d_C_makeProduct_38 : decode b_C_makeProduct 38 = .ok (.aload_n 2, 1) := by decide +kernel
theorem d_C_makeProduct_39 : decode b_C_makeProduct 39 = .ok (.invokevirtual 219, 3) := by decide +kernel
theorem d_C_makeProduct_42 : decode b_C_makeProduct 42 = .ok (.areturn, 1) := by decide +kernel
theorem d_S_scaledBy_0 : decode b_S_scaledBy 0 = .ok (.aload_n 0, 1) := by decide +kernel
theorem d_S_scaledBy_1 : decode b_S_scaledBy 1 = .ok (.aload_n 0, 1) := by decide +kernel
theorem d_S_scaledBy_2 : decode b_S_scaledBy 2 = .ok (.iload_n 1, 1) := by decide +kernel
theorem d_S_scaledBy_3 : decode b_S_scaledBy 3 = .ok (.iconst 0, 1) := by decide +kernel
theorem d_S_scaledBy_4 : decode b_S_scaledBy 4 = .ok (.invokevirtual 16, 3) := by decide +kernel
theorem d_S_scaledBy_7 : decode b_S_scaledBy 7 = .ok (.areturn, 1) := by decide +kernel
theorem d_C_makeConstrainedProduct_0 : decode b_C_makeConstrainedProduct 0 = .ok (.aload_n 0, 1) := by decide +kernel
theorem d_C_makeConstrainedProduct_1 : decode b_C_makeConstrainedProduct 1 = .ok (.iconst 2, 1) := by decide +kernel
theorem d_C_makeConstrainedProduct_2 : decode b_C_makeConstrainedProduct 2 = .ok (.aload_n 1, 1) := by decide +kernel
theorem d_C_makeConstrainedProduct_3 : decode b_C_makeConstrainedProduct 3 = .ok (.aload_n 2, 1) := by decide +kernel
theorem d_C_makeConstrainedProduct_4 : decode b_C_makeConstrainedProduct 4 = .ok (.invokevirtual 195, 3) := by decide +kernel
theorem d_C_makeConstrainedProduct_7 : decode b_C_makeConstrainedProduct 7 = .ok (.invokestatic 16, 3) := by decide +kernel
theorem d_C_makeConstrainedProduct_10 : decode b_C_makeConstrainedProduct 10 = .ok (.astore_n 3, 1) := by decide +kernel
theorem d_C_makeConstrainedProduct_11 : decode b_C_makeConstrainedProduct 11 = .ok (.aload_n 0, 1) := by decide +kernel
theorem d_C_makeConstrainedProduct_12 : decode b_C_makeConstrainedProduct 12 = .ok (.aload_n 1, 1) := by decide +kernel
theorem d_C_makeConstrainedProduct_13 : decode b_C_makeConstrainedProduct 13 = .ok (.aload_n 2, 1) := by decide +kernel
theorem d_C_makeConstrainedProduct_14 : decode b_C_makeConstrainedProduct 14 = .ok (.aload_n 3, 1) := by decide +kernel
theorem d_C_makeConstrainedProduct_15 : decode b_C_makeConstrainedProduct 15 = .ok (.invokevirtual 90, 3) := by decide +kernel
theorem d_C_makeConstrainedProduct_18 : decode b_C_makeConstrainedProduct 18 = .ok (.aload_n 3, 1) := by decide +kernel
theorem d_C_makeConstrainedProduct_19 : decode b_C_makeConstrainedProduct 19 = .ok (.areturn, 1) := by decide +kernel
theorem d_C_addConstraint_0 : decode b_C_addConstraint 0 = .ok (.aload_n 0, 1) := by decide +kernel
theorem d_C_addConstraint_1 : decode b_C_addConstraint 1 = .ok (.getfield 33, 3) := by decide +kernel
theorem d_C_addConstraint_4 : decode b_C_addConstraint 4 = .ok (.new 151, 3) := by decide +kernel
theorem d_C_addConstraint_7 : decode b_C_addConstraint 7 = .ok (.dup, 1) := by decide +kernel
theorem d_C_addConstraint_8 : decode b_C_addConstraint 8 = .ok (.aload_n 1, 1) := by decide +kernel
theorem d_C_addConstraint_9 : decode b_C_addConstraint 9 = .ok (.aload_n 2, 1) := by decide +kernel
theorem d_C_addConstraint_10 : decode b_C_addConstraint 10 = .ok (.aload_n 3, 1) := by decide +kernel
theorem d_C_addConstraint_11 : decode b_C_addConstraint 11 = .ok (.invokespecial 222, 3) := by decide +kernel
theorem d_C_addConstraint_14 : decode b_C_addConstraint 14 = .ok (.invokevirtual 48, 3) := by decide +kernel
theorem d_C_addConstraint_17 : decode b_C_addConstraint 17 = .ok (.pop, 1) := by decide +kernel
theorem d_C_addConstraint_18 : decode b_C_addConstraint 18 = .ok (.return_, 1) := by decide +kernel
theorem d_K_init_0 : decode b_K_init 0 = .ok (.aload_n 0, 1) := by decide +kernel
theorem d_K_init_1 : decode b_K_init 1 = .ok (.invokespecial 1, 3) := by decide +kernel
theorem d_K_init_4 : decode b_K_init 4 = .ok (.aload_n 0, 1) := by decide +kernel
theorem d_K_init_5 : decode b_K_init 5 = .ok (.aload_n 1, 1) := by decide +kernel
theorem d_K_init_6 : decode b_K_init 6 = .ok (.putfield 7, 3) := by decide +kernel
theorem d_K_init_9 : decode b_K_init 9 = .ok (.aload_n 0, 1) := by decide +kernel
theorem d_K_init_10 : decode b_K_init 10 = .ok (.aload_n 2, 1) := by decide +kernel
theorem d_K_init_11 : decode b_K_init 11 = .ok (.putfield 13, 3) := by decide +kernel
theorem d_K_init_14 : decode b_K_init 14 = .ok (.aload_n 0, 1) := by decide +kernel
theorem d_K_init_15 : decode b_K_init 15 = .ok (.aload_n 3, 1) := by decide +kernel
theorem d_K_init_16 : decode b_K_init 16 = .ok (.putfield 16, 3) := by decide +kernel
theorem d_K_init_19 : decode b_K_init 19 = .ok (.return_, 1) := by decide +kernel
theorem d_C_makeShare_0 : decode b_C_makeShare 0 = .ok (.aload_n 0, 1) := by decide +kernel
theorem d_C_makeShare_1 : decode b_C_makeShare 1 = .ok (.iconst 3, 1) := by decide +kernel
theorem d_C_makeShare_2 : decode b_C_makeShare 2 = .ok (.aload_n 2, 1) := by decide +kernel
theorem d_C_makeShare_3 : decode b_C_makeShare 3 = .ok (.aload_n 0, 1) := by decide +kernel
theorem d_C_makeShare_4 : decode b_C_makeShare 4 = .ok (.getfield 12, 3) := by decide +kernel
theorem d_C_makeShare_7 : decode b_C_makeShare 7 = .ok (.invokevirtual 195, 3) := by decide +kernel
theorem d_C_makeShare_10 : decode b_C_makeShare 10 = .ok (.invokestatic 16, 3) := by decide +kernel
theorem d_C_makeShare_13 : decode b_C_makeShare 13 = .ok (.astore_n 3, 1) := by decide +kernel
theorem d_C_makeShare_14 : decode b_C_makeShare 14 = .ok (.aload_n 0, 1) := by decide +kernel
theorem d_C_makeShare_15 : decode b_C_makeShare 15 = .ok (.aload_n 2, 1) := by decide +kernel
theorem d_C_makeShare_16 : decode b_C_makeShare 16 = .ok (.aload_n 3, 1) := by decide +kernel
theorem d_C_makeShare_17 : decode b_C_makeShare 17 = .ok (.aload_n 0, 1) := by decide +kernel
theorem d_C_makeShare_18 : decode b_C_makeShare 18 = .ok (.getfield 20, 3) := by decide +kernel
theorem d_C_makeShare_21 : decode b_C_makeShare 21 = .ok (.invokevirtual 90, 3) := by decide +kernel
theorem d_C_makeShare_24 : decode b_C_makeShare 24 = .ok (.aload_n 0, 1) := by decide +kernel
theorem d_C_makeShare_25 : decode b_C_makeShare 25 = .ok (.aload_n 1, 1) := by decide +kernel
theorem d_C_makeShare_26 : decode b_C_makeShare 26 = .ok (.aload_n 3, 1) := by decide +kernel
theorem d_C_makeShare_27 : decode b_C_makeShare 27 = .ok (.invokevirtual 219, 3) := by decide +kernel
theorem d_C_makeShare_30 : decode b_C_makeShare 30 = .ok (.areturn, 1) := by decide +kernel
theorem d_C_makeSame_0 : decode b_C_makeSame 0 = .ok (.aload_n 0, 1) := by decide +kernel
theorem d_C_makeSame_1 : decode b_C_makeSame 1 = .ok (.iconst 4, 1) := by decide +kernel
theorem d_C_makeSame_2 : decode b_C_makeSame 2 = .ok (.aload_n 1, 1) := by decide +kernel
theorem d_C_makeSame_3 : decode b_C_makeSame 3 = .ok (.aload_n 0, 1) := by decide +kernel
theorem d_C_makeSame_4 : decode b_C_makeSame 4 = .ok (.getfield 12, 3) := by decide +kernel
theorem d_C_makeSame_7 : decode b_C_makeSame 7 = .ok (.invokevirtual 195, 3) := by decide +kernel
theorem d_C_makeSame_10 : decode b_C_makeSame 10 = .ok (.invokestatic 16, 3) := by decide +kernel
theorem d_C_makeSame_13 : decode b_C_makeSame 13 = .ok (.astore_n 2, 1) := by decide +kernel
theorem d_C_makeSame_14 : decode b_C_makeSame 14 = .ok (.aload_n 0, 1) := by decide +kernel
theorem d_C_makeSame_15 : decode b_C_makeSame 15 = .ok (.iconst 5, 1) := by decide +kernel
theorem d_C_makeSame_16 : decode b_C_makeSame 16 = .ok (.aload_n 1, 1) := by decide +kernel
theorem d_C_makeSame_17 : decode b_C_makeSame 17 = .ok (.aload_n 0, 1) := by decide +kernel
theorem d_C_makeSame_18 : decode b_C_makeSame 18 = .ok (.getfield 12, 3) := by decide +kernel
theorem d_C_makeSame_21 : decode b_C_makeSame 21 = .ok (.invokevirtual 195, 3) := by decide +kernel
theorem d_C_makeSame_24 : decode b_C_makeSame 24 = .ok (.invokestatic 16, 3) := by decide +kernel
theorem d_C_makeSame_27 : decode b_C_makeSame 27 = .ok (.astore_n 3, 1) := by decide +kernel
theorem d_C_makeSame_28 : decode b_C_makeSame 28 = .ok (.aload_n 0, 1) := by decide +kernel
theorem d_C_makeSame_29 : decode b_C_makeSame 29 = .ok (.aload_n 1, 1) := by decide +kernel
theorem d_C_makeSame_30 : decode b_C_makeSame 30 = .ok (.aload_n 2, 1) := by decide +kernel
theorem d_C_makeSame_31 : decode b_C_makeSame 31 = .ok (.aload_n 0, 1) := by decide +kernel
theorem d_C_makeSame_32 : decode b_C_makeSame 32 = .ok (.getfield 20, 3) := by decide +kernel
theorem d_C_makeSame_35 : decode b_C_makeSame 35 = .ok (.aload_n 3, 1) := by decide +kernel
theorem d_C_makeSame_36 : decode b_C_makeSame 36 = .ok (.invokevirtual 97, 3) := by decide +kernel
theorem d_C_makeSame_39 : decode b_C_makeSame 39 = .ok (.invokevirtual 90, 3) := by decide +kernel
theorem d_C_makeSame_42 : decode b_C_makeSame 42 = .ok (.aload_n 0, 1) := by decide +kernel
theorem d_C_makeSame_43 : decode b_C_makeSame 43 = .ok (.aload_n 1, 1) := by decide +kernel
theorem d_C_makeSame_44 : decode b_C_makeSame 44 = .ok (.aload_n 3, 1) := by decide +kernel
theorem d_C_makeSame_45 : decode b_C_makeSame 45 = .ok (.aload_n 0, 1) := by decide +kernel
theorem d_C_makeSame_46 : decode b_C_makeSame 46 = .ok (.getfield 12, 3) := by decide +kernel
theorem d_C_makeSame_49 : decode b_C_makeSame 49 = .ok (.invokevirtual 90, 3) := by decide +kernel
theorem d_C_makeSame_52 : decode b_C_makeSame 52 = .ok (.aload_n 3, 1) := by decide +kernel
theorem d_C_makeSame_53 : decode b_C_makeSame 53 = .ok (.areturn, 1) := by decide +kernel
theorem d_C_makePower_0 : decode b_C_makePower 0 = .ok (.aload_n 1, 1) := by decide +kernel
theorem d_C_makePower_1 : decode b_C_makePower 1 = .ok (.astore_n 3, 1) := by decide +kernel
theorem d_C_makePower_2 : decode b_C_makePower 2 = .ok (.iconst 1, 1) := by decide +kernel
theorem d_C_makePower_3 : decode b_C_makePower 3 = .ok (.istore 4, 2) := by decide +kernel
theorem d_C_makePower_5 : decode b_C_makePower 5 = .ok (.iload 4, 2) := by decide +kernel
theorem d_C_makePower_7 : decode b_C_makePower 7 = .ok (.iload_n 2, 1) := by decide +kernel
theorem d_C_makePower_8 : decode b_C_makePower 8 = .ok (.if_icmp .ge 16, 3) := by decide +kernel
theorem d_C_makePower_11 : decode b_C_makePower 11 = .ok (.aload_n 0, 1) := by decide +kernel
theorem d_C_makePower_12 : decode b_C_makePower 12 = .ok (.aload_n 3, 1) := by decide +kernel
theorem d_C_makePower_13 : decode b_C_makePower 13 = .ok (.aload_n 1, 1) := by decide +kernel
theorem d_C_makePower_14 : decode b_C_makePower 14 = .ok (.invokevirtual 202, 3) := by decide +kernel
theorem d_C_makePower_17 : decode b_C_makePower 17 = .ok (.astore_n 3, 1) := by decide +kernel
theorem d_C_makePower_18 : decode b_C_makePower 18 = .ok (.iinc 4 1, 3) := by decide +kernel
theorem d_C_makePower_21 : decode b_C_makePower 21 = .ok (.goto (-16), 3) := by decide +kernel
theorem d_C_makePower_24 : decode b_C_makePower 24 = .ok (.aload_n 3, 1) := by decide +kernel
theorem d_C_makePower_25 : decode b_C_makePower 25 = .ok (.areturn, 1) := by decide +kernel
theorem d_L_claim_0 : decode b_L_claim 0 = .ok (.aload 4, 2) := by decide +kernel
theorem d_L_claim_2 : decode b_L_claim 2 = .ok (.iconst 0, 1) := by decide +kernel
theorem d_L_claim_3 : decode b_L_claim 3 = .ok (.aload_n 0, 1) := by decide +kernel
theorem d_L_claim_4 : decode b_L_claim 4 = .ok (.iload_n 1, 1) := by decide +kernel
theorem d_L_claim_5 : decode b_L_claim 5 = .ok (.iload_n 2, 1) := by decide +kernel
theorem d_L_claim_6 : decode b_L_claim 6 = .ok (.iload_n 3, 1) := by decide +kernel
theorem d_L_claim_7 : decode b_L_claim 7 = .ok (.invokevirtual 17, 3) := by decide +kernel
theorem d_L_claim_10 : decode b_L_claim 10 = .ok (.i2l, 1) := by decide +kernel
theorem d_L_claim_11 : decode b_L_claim 11 = .ok (.lastore, 1) := by decide +kernel
theorem d_L_claim_12 : decode b_L_claim 12 = .ok (.goto 11, 3) := by decide +kernel
theorem d_L_claim_15 : decode b_L_claim 15 = .ok (.astore 5, 2) := by decide +kernel
theorem d_L_claim_17 : decode b_L_claim 17 = .ok (.iconst 1, 1) := by decide +kernel
theorem d_L_claim_18 : decode b_L_claim 18 = .ok (.ireturn, 1) := by decide +kernel
theorem d_L_claim_19 : decode b_L_claim 19 = .ok (.astore 5, 2) := by decide +kernel
theorem d_L_claim_21 : decode b_L_claim 21 = .ok (.iconst 2, 1) := by decide +kernel
theorem d_L_claim_22 : decode b_L_claim 22 = .ok (.ireturn, 1) := by decide +kernel
theorem d_L_claim_23 : decode b_L_claim 23 = .ok (.iconst 0, 1) := by decide +kernel
theorem d_L_claim_24 : decode b_L_claim 24 = .ok (.ireturn, 1) := by decide +kernel
theorem d_C_claim_0 : decode b_C_claim 0 = .ok (.iload_n 1, 1) := by decide +kernel
theorem d_C_claim_1 : decode b_C_claim 1 = .ok (.ifCond .eq 8, 3) := by decide +kernel
theorem d_C_claim_4 : decode b_C_claim 4 = .ok (.iload_n 1, 1) := by decide +kernel
theorem d_C_claim_5 : decode b_C_claim 5 = .ok (.iconst 1, 1) := by decide +kernel
theorem d_C_claim_6 : decode b_C_claim 6 = .ok (.if_icmp .ne 23, 3) := by decide +kernel
theorem d_C_claim_9 : decode b_C_claim 9 = .ok (.aload_n 0, 1) := by decide +kernel
theorem d_C_claim_10 : decode b_C_claim 10 = .ok (.iload_n 2, 1) := by decide +kernel
theorem d_C_claim_11 : decode b_C_claim 11 = .ok (.invokevirtual 82, 3) := by decide +kernel
theorem d_C_claim_14 : decode b_C_claim 14 = .ok (.ifCond .eq 15, 3) := by decide +kernel
theorem d_C_claim_17 : decode b_C_claim 17 = .ok (.iload_n 1, 1) := by decide +kernel
theorem d_C_claim_18 : decode b_C_claim 18 = .ok (.ifCond .ne 19, 3) := by decide +kernel
theorem d_C_claim_21 : decode b_C_claim 21 = .ok (.aload_n 0, 1) := by decide +kernel
theorem d_C_claim_22 : decode b_C_claim 22 = .ok (.iload_n 3, 1) := by decide +kernel
theorem d_C_claim_23 : decode b_C_claim 23 = .ok (.invokevirtual 82, 3) := by decide +kernel
theorem d_C_claim_26 : decode b_C_claim 26 = .ok (.ifCond .ne 11, 3) := by decide +kernel
theorem d_C_claim_29 : decode b_C_claim 29 = .ok (.new 56, 3) := by decide +kernel
theorem d_C_claim_32 : decode b_C_claim 32 = .ok (.dup, 1) := by decide +kernel
theorem d_C_claim_33 : decode b_C_claim 33 = .ok (.invokespecial 58, 3) := by decide +kernel
theorem d_C_claim_36 : decode b_C_claim 36 = .ok (.athrow, 1) := by decide +kernel
theorem d_C_claim_37 : decode b_C_claim 37 = .ok (.aload_n 0, 1) := by decide +kernel
theorem d_C_claim_38 : decode b_C_claim 38 = .ok (.getfield 33, 3) := by decide +kernel
theorem d_C_claim_41 : decode b_C_claim 41 = .ok (.invokevirtual 78, 3) := by decide +kernel
theorem d_C_claim_44 : decode b_C_claim 44 = .ok (.bipush 80, 2) := by decide +kernel
theorem d_C_claim_46 : decode b_C_claim 46 = .ok (.if_icmp .lt 11, 3) := by decide +kernel
theorem d_C_claim_49 : decode b_C_claim 49 = .ok (.new 62, 3) := by decide +kernel
theorem d_C_claim_52 : decode b_C_claim 52 = .ok (.dup, 1) := by decide +kernel
theorem d_C_claim_53 : decode b_C_claim 53 = .ok (.invokespecial 64, 3) := by decide +kernel
theorem d_C_claim_56 : decode b_C_claim 56 = .ok (.athrow, 1) := by decide +kernel
theorem d_C_claim_57 : decode b_C_claim 57 = .ok (.iload_n 1, 1) := by decide +kernel
theorem d_C_claim_58 : decode b_C_claim 58 = .ok (.ifCond .ne 24, 3) := by decide +kernel
theorem d_C_claim_61 : decode b_C_claim 61 = .ok (.aload_n 0, 1) := by decide +kernel
theorem d_C_claim_62 : decode b_C_claim 62 = .ok (.aload_n 0, 1) := by decide +kernel
theorem d_C_claim_63 : decode b_C_claim 63 = .ok (.iload_n 2, 1) := by decide +kernel
theorem d_C_claim_64 : decode b_C_claim 64 = .ok (.iload_n 3, 1) := by decide +kernel
theorem d_C_claim_65 : decode b_C_claim 65 = .ok (.invokevirtual 86, 3) := by decide +kernel
theorem d_C_claim_68 : decode b_C_claim 68 = .ok (.aload_n 0, 1) := by decide +kernel
theorem d_C_claim_69 : decode b_C_claim 69 = .ok (.getfield 20, 3) := by decide +kernel
theorem d_C_claim_72 : decode b_C_claim 72 = .ok (.aload_n 0, 1) := by decide +kernel
theorem d_C_claim_73 : decode b_C_claim 73 = .ok (.getfield 12, 3) := by decide +kernel
theorem d_C_claim_76 : decode b_C_claim 76 = .ok (.invokevirtual 90, 3) := by decide +kernel
theorem d_C_claim_79 : decode b_C_claim 79 = .ok (.goto 28, 3) := by decide +kernel
theorem d_C_claim_82 : decode b_C_claim 82 = .ok (.aload_n 0, 1) := by decide +kernel
theorem d_C_claim_83 : decode b_C_claim 83 = .ok (.aload_n 0, 1) := by decide +kernel
theorem d_C_claim_84 : decode b_C_claim 84 = .ok (.iload_n 2, 1) := by decide +kernel
end
section
theorem d_C_claim_85 : decode b_C_claim 85 = .ok (.invokevirtual 94, 3) := by decide +kernel
theorem d_C_claim_88 : decode b_C_claim 88 = .ok (.aload_n 0, 1) := by decide +kernel
theorem d_C_claim_89 : decode b_C_claim 89 = .ok (.getfield 20, 3) := by decide +kernel
theorem d_C_claim_92 : decode b_C_claim 92 = .ok (.aload_n 0, 1) := by decide +kernel
theorem d_C_claim_93 : decode b_C_claim 93 = .ok (.iload_n 2, 1) := by decide +kernel
theorem d_C_claim_94 : decode b_C_claim 94 = .ok (.invokevirtual 94, 3) := by decide +kernel
theorem d_C_claim_97 : decode b_C_claim 97 = .ok (.invokevirtual 97, 3) := by decide +kernel
theorem d_C_claim_100 : decode b_C_claim 100 = .ok (.aload_n 0, 1) := by decide +kernel
theorem d_C_claim_101 : decode b_C_claim 101 = .ok (.getfield 12, 3) := by decide +kernel
theorem d_C_claim_104 : decode b_C_claim 104 = .ok (.invokevirtual 90, 3) := by decide +kernel
theorem d_C_claim_107 : decode b_C_claim 107 = .ok (.aload_n 0, 1) := by decide +kernel
theorem d_C_claim_108 : decode b_C_claim 108 = .ok (.getfield 33, 3) := by decide +kernel
theorem d_C_claim_111 : decode b_C_claim 111 = .ok (.invokevirtual 78, 3) := by decide +kernel
theorem d_C_claim_114 : decode b_C_claim 114 = .ok (.iconst 1, 1) := by decide +kernel
theorem d_C_claim_115 : decode b_C_claim 115 = .ok (.isub, 1) := by decide +kernel
theorem d_C_claim_116 : decode b_C_claim 116 = .ok (.ireturn, 1) := by decide +kernel
theorem d_L_give_0 : decode b_L_give 0 = .ok (.aload_n 3, 1) := by decide +kernel
theorem d_L_give_1 : decode b_L_give 1 = .ok (.iconst 0, 1) := by decide +kernel
theorem d_L_give_2 : decode b_L_give 2 = .ok (.aload_n 0, 1) := by decide +kernel
theorem d_L_give_3 : decode b_L_give 3 = .ok (.iload_n 1, 1) := by decide +kernel
theorem d_L_give_4 : decode b_L_give 4 = .ok (.iload_n 2, 1) := by decide +kernel
theorem d_L_give_5 : decode b_L_give 5 = .ok (.invokevirtual 21, 3) := by decide +kernel
theorem d_L_give_8 : decode b_L_give 8 = .ok (.i2l, 1) := by decide +kernel
theorem d_L_give_9 : decode b_L_give 9 = .ok (.lastore, 1) := by decide +kernel
theorem d_L_give_10 : decode b_L_give 10 = .ok (.goto 11, 3) := by decide +kernel
theorem d_L_give_13 : decode b_L_give 13 = .ok (.astore 4, 2) := by decide +kernel
theorem d_L_give_15 : decode b_L_give 15 = .ok (.iconst 1, 1) := by decide +kernel
theorem d_L_give_16 : decode b_L_give 16 = .ok (.ireturn, 1) := by decide +kernel
theorem d_L_give_17 : decode b_L_give 17 = .ok (.astore 4, 2) := by decide +kernel
theorem d_L_give_19 : decode b_L_give 19 = .ok (.iconst 2, 1) := by decide +kernel
theorem d_L_give_20 : decode b_L_give 20 = .ok (.ireturn, 1) := by decide +kernel
theorem d_L_give_21 : decode b_L_give 21 = .ok (.iconst 0, 1) := by decide +kernel
theorem d_L_give_22 : decode b_L_give 22 = .ok (.ireturn, 1) := by decide +kernel
theorem d_C_give_0 : decode b_C_give 0 = .ok (.aload_n 0, 1) := by decide +kernel
theorem d_C_give_1 : decode b_C_give 1 = .ok (.iload_n 1, 1) := by decide +kernel
theorem d_C_give_2 : decode b_C_give 2 = .ok (.invokevirtual 82, 3) := by decide +kernel
theorem d_C_give_5 : decode b_C_give 5 = .ok (.ifCond .ne 11, 3) := by decide +kernel
theorem d_C_give_8 : decode b_C_give 8 = .ok (.new 101, 3) := by decide +kernel
theorem d_C_give_11 : decode b_C_give 11 = .ok (.dup, 1) := by decide +kernel
theorem d_C_give_12 : decode b_C_give 12 = .ok (.invokespecial 103, 3) := by decide +kernel
theorem d_C_give_15 : decode b_C_give 15 = .ok (.athrow, 1) := by decide +kernel
theorem d_C_give_16 : decode b_C_give 16 = .ok (.aload_n 0, 1) := by decide +kernel
theorem d_C_give_17 : decode b_C_give 17 = .ok (.getfield 30, 3) := by decide +kernel
theorem d_C_give_20 : decode b_C_give 20 = .ok (.iload_n 1, 1) := by decide +kernel
theorem d_C_give_21 : decode b_C_give 21 = .ok (.invokevirtual 104, 3) := by decide +kernel
theorem d_C_give_24 : decode b_C_give 24 = .ok (.checkcast 69, 3) := by decide +kernel
theorem d_C_give_27 : decode b_C_give 27 = .ok (.astore_n 3, 1) := by decide +kernel
theorem d_C_give_28 : decode b_C_give 28 = .ok (.aload_n 3, 1) := by decide +kernel
theorem d_C_give_29 : decode b_C_give 29 = .ok (.invokevirtual 108, 3) := by decide +kernel
theorem d_C_give_32 : decode b_C_give 32 = .ok (.ifCond .ne 11, 3) := by decide +kernel
theorem d_C_give_35 : decode b_C_give 35 = .ok (.new 112, 3) := by decide +kernel
theorem d_C_give_38 : decode b_C_give 38 = .ok (.dup, 1) := by decide +kernel
theorem d_C_give_39 : decode b_C_give 39 = .ok (.invokespecial 114, 3) := by decide +kernel
theorem d_C_give_42 : decode b_C_give 42 = .ok (.athrow, 1) := by decide +kernel
theorem d_C_give_43 : decode b_C_give 43 = .ok (.aload_n 0, 1) := by decide +kernel
theorem d_C_give_44 : decode b_C_give 44 = .ok (.getfield 26, 3) := by decide +kernel
theorem d_C_give_47 : decode b_C_give 47 = .ok (.aload_n 3, 1) := by decide +kernel
theorem d_C_give_48 : decode b_C_give 48 = .ok (.getfield 115, 3) := by decide +kernel
theorem d_C_give_51 : decode b_C_give 51 = .ok (.invokevirtual 104, 3) := by decide +kernel
theorem d_C_give_54 : decode b_C_give 54 = .ok (.checkcast 43, 3) := by decide +kernel
theorem d_C_give_57 : decode b_C_give 57 = .ok (.astore 4, 2) := by decide +kernel
theorem d_C_give_59 : decode b_C_give 59 = .ok (.aload 4, 2) := by decide +kernel
theorem d_C_give_61 : decode b_C_give 61 = .ok (.getfield 119, 3) := by decide +kernel
theorem d_C_give_64 : decode b_C_give 64 = .ok (.istore 5, 2) := by decide +kernel
theorem d_C_give_66 : decode b_C_give 66 = .ok (.aload 4, 2) := by decide +kernel
theorem d_C_give_68 : decode b_C_give 68 = .ok (.iload_n 2, 1) := by decide +kernel
theorem d_C_give_69 : decode b_C_give 69 = .ok (.invokestatic 122, 3) := by decide +kernel
theorem d_C_give_72 : decode b_C_give 72 = .ok (.putfield 119, 3) := by decide +kernel
theorem d_C_give_75 : decode b_C_give 75 = .ok (.iload 5, 2) := by decide +kernel
theorem d_C_give_77 : decode b_C_give 77 = .ok (.ireturn, 1) := by decide +kernel
theorem d_E_isInput_0 : decode b_E_isInput 0 = .ok (.aload_n 0, 1) := by decide +kernel
theorem d_E_isInput_1 : decode b_E_isInput 1 = .ok (.getfield 13, 3) := by decide +kernel
theorem d_E_isInput_4 : decode b_E_isInput 4 = .ok (.ifCond .eq 7, 3) := by decide +kernel
theorem d_E_isInput_7 : decode b_E_isInput 7 = .ok (.iconst 1, 1) := by decide +kernel
theorem d_E_isInput_8 : decode b_E_isInput 8 = .ok (.goto 4, 3) := by decide +kernel
theorem d_E_isInput_11 : decode b_E_isInput 11 = .ok (.iconst 0, 1) := by decide +kernel
theorem d_E_isInput_12 : decode b_E_isInput 12 = .ok (.ireturn, 1) := by decide +kernel
theorem d_L_solve_0 : decode b_L_solve 0 = .ok (.aload_n 1, 1) := by decide +kernel
theorem d_L_solve_1 : decode b_L_solve 1 = .ok (.iconst 0, 1) := by decide +kernel
theorem d_L_solve_2 : decode b_L_solve 2 = .ok (.aload_n 0, 1) := by decide +kernel
theorem d_L_solve_3 : decode b_L_solve 3 = .ok (.invokevirtual 29, 3) := by decide +kernel
theorem d_L_solve_6 : decode b_L_solve 6 = .ok (.i2l, 1) := by decide +kernel
theorem d_L_solve_7 : decode b_L_solve 7 = .ok (.lastore, 1) := by decide +kernel
theorem d_L_solve_8 : decode b_L_solve 8 = .ok (.goto 6, 3) := by decide +kernel
theorem d_L_solve_11 : decode b_L_solve 11 = .ok (.astore_n 2, 1) := by decide +kernel
theorem d_L_solve_12 : decode b_L_solve 12 = .ok (.iconst 1, 1) := by decide +kernel
theorem d_L_solve_13 : decode b_L_solve 13 = .ok (.ireturn, 1) := by decide +kernel
theorem d_L_solve_14 : decode b_L_solve 14 = .ok (.iconst 0, 1) := by decide +kernel
theorem d_L_solve_15 : decode b_L_solve 15 = .ok (.ireturn, 1) := by decide +kernel
theorem d_C_solve_0 : decode b_C_solve 0 = .ok (.aload_n 0, 1) := by decide +kernel
theorem d_C_solve_1 : decode b_C_solve 1 = .ok (.invokevirtual 126, 3) := by decide +kernel
theorem d_C_solve_4 : decode b_C_solve 4 = .ok (.ifCond .ne 11, 3) := by decide +kernel
theorem d_C_solve_7 : decode b_C_solve 7 = .ok (.new 129, 3) := by decide +kernel
theorem d_C_solve_10 : decode b_C_solve 10 = .ok (.dup, 1) := by decide +kernel
theorem d_C_solve_11 : decode b_C_solve 11 = .ok (.invokespecial 131, 3) := by decide +kernel
theorem d_C_solve_14 : decode b_C_solve 14 = .ok (.athrow, 1) := by decide +kernel
theorem d_C_solve_15 : decode b_C_solve 15 = .ok (.aload_n 0, 1) := by decide +kernel
theorem d_C_solve_16 : decode b_C_solve 16 = .ok (.getfield 36, 3) := by decide +kernel
theorem d_C_solve_19 : decode b_C_solve 19 = .ok (.astore_n 1, 1) := by decide +kernel
theorem d_C_solve_20 : decode b_C_solve 20 = .ok (.aload_n 0, 1) := by decide +kernel
theorem d_C_solve_21 : decode b_C_solve 21 = .ok (.aload_n 0, 1) := by decide +kernel
theorem d_C_solve_22 : decode b_C_solve 22 = .ok (.getfield 40, 3) := by decide +kernel
theorem d_C_solve_25 : decode b_C_solve 25 = .ok (.putfield 36, 3) := by decide +kernel
theorem d_C_solve_28 : decode b_C_solve 28 = .ok (.aload_n 0, 1) := by decide +kernel
theorem d_C_solve_29 : decode b_C_solve 29 = .ok (.aload_n 1, 1) := by decide +kernel
theorem d_C_solve_30 : decode b_C_solve 30 = .ok (.putfield 40, 3) := by decide +kernel
theorem d_C_solve_33 : decode b_C_solve 33 = .ok (.aload_n 0, 1) := by decide +kernel
theorem d_C_solve_34 : decode b_C_solve 34 = .ok (.aload_n 0, 1) := by decide +kernel
theorem d_C_solve_35 : decode b_C_solve 35 = .ok (.getfield 26, 3) := by decide +kernel
theorem d_C_solve_38 : decode b_C_solve 38 = .ok (.invokevirtual 78, 3) := by decide +kernel
theorem d_C_solve_41 : decode b_C_solve 41 = .ok (.putfield 132, 3) := by decide +kernel
theorem d_C_solve_44 : decode b_C_solve 44 = .ok (.aload_n 0, 1) := by decide +kernel
theorem d_C_solve_45 : decode b_C_solve 45 = .ok (.aload_n 0, 1) := by decide +kernel
theorem d_C_solve_46 : decode b_C_solve 46 = .ok (.getfield 33, 3) := by decide +kernel
theorem d_C_solve_49 : decode b_C_solve 49 = .ok (.invokevirtual 78, 3) := by decide +kernel
theorem d_C_solve_52 : decode b_C_solve 52 = .ok (.putfield 135, 3) := by decide +kernel
theorem d_C_solve_55 : decode b_C_solve 55 = .ok (.aload_n 0, 1) := by decide +kernel
theorem d_C_solve_56 : decode b_C_solve 56 = .ok (.invokevirtual 138, 3) := by decide +kernel
theorem d_C_solve_59 : decode b_C_solve 59 = .ok (.ireturn, 1) := by decide +kernel
theorem d_C_fillDraft_0 : decode b_C_fillDraft 0 = .ok (.iconst 0, 1) := by decide +kernel
theorem d_C_fillDraft_1 : decode b_C_fillDraft 1 = .ok (.istore_n 1, 1) := by decide +kernel
theorem d_C_fillDraft_2 : decode b_C_fillDraft 2 = .ok (.iload_n 1, 1) := by decide +kernel
theorem d_C_fillDraft_3 : decode b_C_fillDraft 3 = .ok (.aload_n 0, 1) := by decide +kernel
theorem d_C_fillDraft_4 : decode b_C_fillDraft 4 = .ok (.getfield 26, 3) := by decide +kernel
theorem d_C_fillDraft_7 : decode b_C_fillDraft 7 = .ok (.invokevirtual 78, 3) := by decide +kernel
theorem d_C_fillDraft_10 : decode b_C_fillDraft 10 = .ok (.if_icmp .ge 42, 3) := by decide +kernel
theorem d_C_fillDraft_13 : decode b_C_fillDraft 13 = .ok (.aload_n 0, 1) := by decide +kernel
theorem d_C_fillDraft_14 : decode b_C_fillDraft 14 = .ok (.getfield 26, 3) := by decide +kernel
theorem d_C_fillDraft_17 : decode b_C_fillDraft 17 = .ok (.iload_n 1, 1) := by decide +kernel
theorem d_C_fillDraft_18 : decode b_C_fillDraft 18 = .ok (.invokevirtual 104, 3) := by decide +kernel
theorem d_C_fillDraft_21 : decode b_C_fillDraft 21 = .ok (.checkcast 43, 3) := by decide +kernel
theorem d_C_fillDraft_24 : decode b_C_fillDraft 24 = .ok (.aload_n 0, 1) := by decide +kernel
theorem d_C_fillDraft_25 : decode b_C_fillDraft 25 = .ok (.getfield 40, 3) := by decide +kernel
theorem d_C_fillDraft_28 : decode b_C_fillDraft 28 = .ok (.invokevirtual 224, 3) := by decide +kernel
theorem d_C_fillDraft_31 : decode b_C_fillDraft 31 = .ok (.istore_n 2, 1) := by decide +kernel
theorem d_C_fillDraft_32 : decode b_C_fillDraft 32 = .ok (.iload_n 2, 1) := by decide +kernel
theorem d_C_fillDraft_33 : decode b_C_fillDraft 33 = .ok (.iconst (-1), 1) := by decide +kernel
theorem d_C_fillDraft_34 : decode b_C_fillDraft 34 = .ok (.if_icmp .ne 5, 3) := by decide +kernel
theorem d_C_fillDraft_37 : decode b_C_fillDraft 37 = .ok (.iconst 0, 1) := by decide +kernel
theorem d_C_fillDraft_38 : decode b_C_fillDraft 38 = .ok (.ireturn, 1) := by decide +kernel
theorem d_C_fillDraft_39 : decode b_C_fillDraft 39 = .ok (.aload_n 0, 1) := by decide +kernel
theorem d_C_fillDraft_40 : decode b_C_fillDraft 40 = .ok (.getfield 40, 3) := by decide +kernel
theorem d_C_fillDraft_43 : decode b_C_fillDraft 43 = .ok (.iload_n 1, 1) := by decide +kernel
theorem d_C_fillDraft_44 : decode b_C_fillDraft 44 = .ok (.iload_n 2, 1) := by decide +kernel
theorem d_C_fillDraft_45 : decode b_C_fillDraft 45 = .ok (.iastore, 1) := by decide +kernel
theorem d_C_fillDraft_46 : decode b_C_fillDraft 46 = .ok (.iinc 1 1, 3) := by decide +kernel
theorem d_C_fillDraft_49 : decode b_C_fillDraft 49 = .ok (.goto (-47), 3) := by decide +kernel
theorem d_C_fillDraft_52 : decode b_C_fillDraft 52 = .ok (.iconst 1, 1) := by decide +kernel
theorem d_C_fillDraft_53 : decode b_C_fillDraft 53 = .ok (.ireturn, 1) := by decide +kernel
theorem d_V_numberFor_0 : decode b_V_numberFor 0 = .ok (.aload_n 0, 1) := by decide +kernel
theorem d_V_numberFor_1 : decode b_V_numberFor 1 = .ok (.getfield 15, 3) := by decide +kernel
theorem d_V_numberFor_4 : decode b_V_numberFor 4 = .ok (.aload_n 1, 1) := by decide +kernel
theorem d_V_numberFor_5 : decode b_V_numberFor 5 = .ok (.invokevirtual 22, 3) := by decide +kernel
theorem d_V_numberFor_8 : decode b_V_numberFor 8 = .ok (.istore_n 2, 1) := by decide +kernel
theorem d_V_numberFor_9 : decode b_V_numberFor 9 = .ok (.aload_n 0, 1) := by decide +kernel
theorem d_V_numberFor_10 : decode b_V_numberFor 10 = .ok (.getfield 9, 3) := by decide +kernel
theorem d_V_numberFor_13 : decode b_V_numberFor 13 = .ok (.tableswitch 74 0 4 #[35, 37, 42, 56, 69], 35) := by decide +kernel
theorem d_V_numberFor_48 : decode b_V_numberFor 48 = .ok (.iconst 1, 1) := by decide +kernel
theorem d_V_numberFor_49 : decode b_V_numberFor 49 = .ok (.ireturn, 1) := by decide +kernel
theorem d_V_numberFor_50 : decode b_V_numberFor 50 = .ok (.aload_n 0, 1) := by decide +kernel
theorem d_V_numberFor_51 : decode b_V_numberFor 51 = .ok (.getfield 28, 3) := by decide +kernel
theorem d_V_numberFor_54 : decode b_V_numberFor 54 = .ok (.ireturn, 1) := by decide +kernel
theorem d_V_numberFor_55 : decode b_V_numberFor 55 = .ok (.iload_n 2, 1) := by decide +kernel
theorem d_V_numberFor_56 : decode b_V_numberFor 56 = .ok (.aload_n 0, 1) := by decide +kernel
theorem d_V_numberFor_57 : decode b_V_numberFor 57 = .ok (.getfield 19, 3) := by decide +kernel
theorem d_V_numberFor_60 : decode b_V_numberFor 60 = .ok (.aload_n 1, 1) := by decide +kernel
theorem d_V_numberFor_61 : decode b_V_numberFor 61 = .ok (.invokevirtual 22, 3) := by decide +kernel
theorem d_V_numberFor_64 : decode b_V_numberFor 64 = .ok (.imul, 1) := by decide +kernel
theorem d_V_numberFor_65 : decode b_V_numberFor 65 = .ok (.invokestatic 31, 3) := by decide +kernel
theorem d_V_numberFor_68 : decode b_V_numberFor 68 = .ok (.ireturn, 1) := by decide +kernel
theorem d_V_numberFor_69 : decode b_V_numberFor 69 = .ok (.iload_n 2, 1) := by decide +kernel
theorem d_V_numberFor_70 : decode b_V_numberFor 70 = .ok (.ifCond .ne 7, 3) := by decide +kernel
theorem d_V_numberFor_73 : decode b_V_numberFor 73 = .ok (.iconst (-1), 1) := by decide +kernel
theorem d_V_numberFor_74 : decode b_V_numberFor 74 = .ok (.goto 7, 3) := by decide +kernel
theorem d_V_numberFor_77 : decode b_V_numberFor 77 = .ok (.iload_n 2, 1) := by decide +kernel
theorem d_V_numberFor_78 : decode b_V_numberFor 78 = .ok (.invokestatic 35, 3) := by decide +kernel
theorem d_V_numberFor_81 : decode b_V_numberFor 81 = .ok (.ireturn, 1) := by decide +kernel
theorem d_V_numberFor_82 : decode b_V_numberFor 82 = .ok (.iload_n 2, 1) := by decide +kernel
theorem d_V_numberFor_83 : decode b_V_numberFor 83 = .ok (.invokestatic 35, 3) := by decide +kernel
theorem d_V_numberFor_86 : decode b_V_numberFor 86 = .ok (.ireturn, 1) := by decide +kernel
theorem d_V_numberFor_87 : decode b_V_numberFor 87 = .ok (.iload_n 2, 1) := by decide +kernel
theorem d_V_numberFor_88 : decode b_V_numberFor 88 = .ok (.ifCond .ne 7, 3) := by decide +kernel
theorem d_V_numberFor_91 : decode b_V_numberFor 91 = .ok (.iconst 1, 1) := by decide +kernel
theorem d_V_numberFor_92 : decode b_V_numberFor 92 = .ok (.goto 4, 3) := by decide +kernel
theorem d_V_numberFor_95 : decode b_V_numberFor 95 = .ok (.iconst 0, 1) := by decide +kernel
theorem d_V_numberFor_96 : decode b_V_numberFor 96 = .ok (.ireturn, 1) := by decide +kernel
theorem d_S_valueFor_0 : decode b_S_valueFor 0 = .ok (.iconst 0, 1) := by decide +kernel
theorem d_S_valueFor_1 : decode b_S_valueFor 1 = .ok (.istore_n 2, 1) := by decide +kernel
theorem d_S_valueFor_2 : decode b_S_valueFor 2 = .ok (.iconst 0, 1) := by decide +kernel
theorem d_S_valueFor_3 : decode b_S_valueFor 3 = .ok (.istore_n 3, 1) := by decide +kernel
theorem d_S_valueFor_4 : decode b_S_valueFor 4 = .ok (.iload_n 3, 1) := by decide +kernel
theorem d_S_valueFor_5 : decode b_S_valueFor 5 = .ok (.bipush 60, 2) := by decide +kernel
theorem d_S_valueFor_7 : decode b_S_valueFor 7 = .ok (.if_icmp .ge 22, 3) := by decide +kernel
theorem d_S_valueFor_10 : decode b_S_valueFor 10 = .ok (.iload_n 2, 1) := by decide +kernel
theorem d_S_valueFor_11 : decode b_S_valueFor 11 = .ok (.aload_n 0, 1) := by decide +kernel
theorem d_S_valueFor_12 : decode b_S_valueFor 12 = .ok (.getfield 9, 3) := by decide +kernel
theorem d_S_valueFor_15 : decode b_S_valueFor 15 = .ok (.iload_n 3, 1) := by decide +kernel
theorem d_S_valueFor_16 : decode b_S_valueFor 16 = .ok (.iaload, 1) := by decide +kernel
theorem d_S_valueFor_17 : decode b_S_valueFor 17 = .ok (.aload_n 1, 1) := by decide +kernel
theorem d_S_valueFor_18 : decode b_S_valueFor 18 = .ok (.iload_n 3, 1) := by decide +kernel
theorem d_S_valueFor_19 : decode b_S_valueFor 19 = .ok (.iaload, 1) := by decide +kernel
theorem d_S_valueFor_20 : decode b_S_valueFor 20 = .ok (.imul, 1) := by decide +kernel
theorem d_S_valueFor_21 : decode b_S_valueFor 21 = .ok (.iadd, 1) := by decide +kernel
theorem d_S_valueFor_22 : decode b_S_valueFor 22 = .ok (.istore_n 2, 1) := by decide +kernel
theorem d_S_valueFor_23 : decode b_S_valueFor 23 = .ok (.iinc 3 1, 3) := by decide +kernel
theorem d_S_valueFor_26 : decode b_S_valueFor 26 = .ok (.goto (-22), 3) := by decide +kernel
theorem d_S_valueFor_29 : decode b_S_valueFor 29 = .ok (.iload_n 2, 1) := by decide +kernel
theorem d_S_valueFor_30 : decode b_S_valueFor 30 = .ok (.invokestatic 20, 3) := by decide +kernel
theorem d_S_valueFor_33 : decode b_S_valueFor 33 = .ok (.ireturn, 1) := by decide +kernel
theorem d_C_inverseOrZero_0 : decode b_C_inverseOrZero 0 = .ok (.iconst 1, 1) := by decide +kernel
theorem d_C_inverseOrZero_1 : decode b_C_inverseOrZero 1 = .ok (.istore_n 1, 1) := by decide +kernel
theorem d_C_inverseOrZero_2 : decode b_C_inverseOrZero 2 = .ok (.iload_n 1, 1) := by decide +kernel
theorem d_C_inverseOrZero_3 : decode b_C_inverseOrZero 3 = .ok (.bipush 97, 2) := by decide +kernel
theorem d_C_inverseOrZero_5 : decode b_C_inverseOrZero 5 = .ok (.if_icmp .ge 21, 3) := by decide +kernel
theorem d_C_inverseOrZero_8 : decode b_C_inverseOrZero 8 = .ok (.iload_n 0, 1) := by decide +kernel
theorem d_C_inverseOrZero_9 : decode b_C_inverseOrZero 9 = .ok (.iload_n 1, 1) := by decide +kernel
theorem d_C_inverseOrZero_10 : decode b_C_inverseOrZero 10 = .ok (.imul, 1) := by decide +kernel
theorem d_C_inverseOrZero_11 : decode b_C_inverseOrZero 11 = .ok (.bipush 97, 2) := by decide +kernel
theorem d_C_inverseOrZero_13 : decode b_C_inverseOrZero 13 = .ok (.irem, 1) := by decide +kernel
theorem d_C_inverseOrZero_14 : decode b_C_inverseOrZero 14 = .ok (.iconst 1, 1) := by decide +kernel
theorem d_C_inverseOrZero_15 : decode b_C_inverseOrZero 15 = .ok (.if_icmp .ne 5, 3) := by decide +kernel
theorem d_C_inverseOrZero_18 : decode b_C_inverseOrZero 18 = .ok (.iload_n 1, 1) := by decide +kernel
theorem d_C_inverseOrZero_19 : decode b_C_inverseOrZero 19 = .ok (.ireturn, 1) := by decide +kernel
theorem d_C_inverseOrZero_20 : decode b_C_inverseOrZero 20 = .ok (.iinc 1 1, 3) := by decide +kernel
theorem d_C_inverseOrZero_23 : decode b_C_inverseOrZero 23 = .ok (.goto (-21), 3) := by decide +kernel
theorem d_C_inverseOrZero_26 : decode b_C_inverseOrZero 26 = .ok (.iconst 0, 1) := by decide +kernel
theorem d_C_inverseOrZero_27 : decode b_C_inverseOrZero 27 = .ok (.ireturn, 1) := by decide +kernel
theorem d_C_howManyBroken_0 : decode b_C_howManyBroken 0 = .ok (.iconst 0, 1) := by decide +kernel
theorem d_C_howManyBroken_1 : decode b_C_howManyBroken 1 = .ok (.istore_n 1, 1) := by decide +kernel
theorem d_C_howManyBroken_2 : decode b_C_howManyBroken 2 = .ok (.iconst 0, 1) := by decide +kernel
theorem d_C_howManyBroken_3 : decode b_C_howManyBroken 3 = .ok (.istore_n 2, 1) := by decide +kernel
theorem d_C_howManyBroken_4 : decode b_C_howManyBroken 4 = .ok (.iload_n 2, 1) := by decide +kernel
theorem d_C_howManyBroken_5 : decode b_C_howManyBroken 5 = .ok (.aload_n 0, 1) := by decide +kernel
theorem d_C_howManyBroken_6 : decode b_C_howManyBroken 6 = .ok (.getfield 135, 3) := by decide +kernel
theorem d_C_howManyBroken_9 : decode b_C_howManyBroken 9 = .ok (.if_icmp .ge 33, 3) := by decide +kernel
theorem d_C_howManyBroken_12 : decode b_C_howManyBroken 12 = .ok (.aload_n 0, 1) := by decide +kernel
theorem d_C_howManyBroken_13 : decode b_C_howManyBroken 13 = .ok (.getfield 33, 3) := by decide +kernel
theorem d_C_howManyBroken_16 : decode b_C_howManyBroken 16 = .ok (.iload_n 2, 1) := by decide +kernel
theorem d_C_howManyBroken_17 : decode b_C_howManyBroken 17 = .ok (.invokevirtual 104, 3) := by decide +kernel
theorem d_C_howManyBroken_20 : decode b_C_howManyBroken 20 = .ok (.checkcast 151, 3) := by decide +kernel
theorem d_C_howManyBroken_23 : decode b_C_howManyBroken 23 = .ok (.aload_n 0, 1) := by decide +kernel
theorem d_C_howManyBroken_24 : decode b_C_howManyBroken 24 = .ok (.getfield 36, 3) := by decide +kernel
theorem d_C_howManyBroken_27 : decode b_C_howManyBroken 27 = .ok (.invokevirtual 153, 3) := by decide +kernel
theorem d_C_howManyBroken_30 : decode b_C_howManyBroken 30 = .ok (.ifCond .ne 6, 3) := by decide +kernel
theorem d_C_howManyBroken_33 : decode b_C_howManyBroken 33 = .ok (.iinc 1 1, 3) := by decide +kernel
theorem d_C_howManyBroken_36 : decode b_C_howManyBroken 36 = .ok (.iinc 2 1, 3) := by decide +kernel
theorem d_C_howManyBroken_39 : decode b_C_howManyBroken 39 = .ok (.goto (-35), 3) := by decide +kernel
theorem d_C_howManyBroken_42 : decode b_C_howManyBroken 42 = .ok (.iload_n 1, 1) := by decide +kernel
theorem d_C_howManyBroken_43 : decode b_C_howManyBroken 43 = .ok (.ireturn, 1) := by decide +kernel
theorem d_K_holdsFor_0 : decode b_K_holdsFor 0 = .ok (.aload_n 0, 1) := by decide +kernel
theorem d_K_holdsFor_1 : decode b_K_holdsFor 1 = .ok (.getfield 7, 3) := by decide +kernel
theorem d_K_holdsFor_4 : decode b_K_holdsFor 4 = .ok (.aload_n 1, 1) := by decide +kernel
theorem d_K_holdsFor_5 : decode b_K_holdsFor 5 = .ok (.invokevirtual 19, 3) := by decide +kernel
theorem d_K_holdsFor_8 : decode b_K_holdsFor 8 = .ok (.aload_n 0, 1) := by decide +kernel
theorem d_K_holdsFor_9 : decode b_K_holdsFor 9 = .ok (.getfield 13, 3) := by decide +kernel
theorem d_K_holdsFor_12 : decode b_K_holdsFor 12 = .ok (.aload_n 1, 1) := by decide +kernel
theorem d_K_holdsFor_13 : decode b_K_holdsFor 13 = .ok (.invokevirtual 19, 3) := by decide +kernel
theorem d_K_holdsFor_16 : decode b_K_holdsFor 16 = .ok (.imul, 1) := by decide +kernel
theorem d_K_holdsFor_17 : decode b_K_holdsFor 17 = .ok (.invokestatic 25, 3) := by decide +kernel
theorem d_K_holdsFor_20 : decode b_K_holdsFor 20 = .ok (.aload_n 0, 1) := by decide +kernel
theorem d_K_holdsFor_21 : decode b_K_holdsFor 21 = .ok (.getfield 16, 3) := by decide +kernel
theorem d_K_holdsFor_24 : decode b_K_holdsFor 24 = .ok (.aload_n 1, 1) := by decide +kernel
theorem d_K_holdsFor_25 : decode b_K_holdsFor 25 = .ok (.invokevirtual 19, 3) := by decide +kernel
theorem d_K_holdsFor_28 : decode b_K_holdsFor 28 = .ok (.if_icmp .ne 7, 3) := by decide +kernel
theorem d_K_holdsFor_31 : decode b_K_holdsFor 31 = .ok (.iconst 1, 1) := by decide +kernel
theorem d_K_holdsFor_32 : decode b_K_holdsFor 32 = .ok (.goto 4, 3) := by decide +kernel
theorem d_K_holdsFor_35 : decode b_K_holdsFor 35 = .ok (.iconst 0, 1) := by decide +kernel
theorem d_K_holdsFor_36 : decode b_K_holdsFor 36 = .ok (.ireturn, 1) := by decide +kernel
theorem d_L_value_0 : decode b_L_value 0 = .ok (.aload_n 2, 1) := by decide +kernel
theorem d_L_value_1 : decode b_L_value 1 = .ok (.iconst 0, 1) := by decide +kernel
theorem d_L_value_2 : decode b_L_value 2 = .ok (.aload_n 0, 1) := by decide +kernel
theorem d_L_value_3 : decode b_L_value 3 = .ok (.iload_n 1, 1) := by decide +kernel
theorem d_L_value_4 : decode b_L_value 4 = .ok (.invokevirtual 35, 3) := by decide +kernel
theorem d_L_value_7 : decode b_L_value 7 = .ok (.i2l, 1) := by decide +kernel
theorem d_L_value_8 : decode b_L_value 8 = .ok (.lastore, 1) := by decide +kernel
theorem d_L_value_9 : decode b_L_value 9 = .ok (.goto 9, 3) := by decide +kernel
theorem d_L_value_12 : decode b_L_value 12 = .ok (.astore_n 3, 1) := by decide +kernel
theorem d_L_value_13 : decode b_L_value 13 = .ok (.iconst 1, 1) := by decide +kernel
theorem d_L_value_14 : decode b_L_value 14 = .ok (.ireturn, 1) := by decide +kernel
theorem d_L_value_15 : decode b_L_value 15 = .ok (.astore_n 3, 1) := by decide +kernel
theorem d_L_value_16 : decode b_L_value 16 = .ok (.iconst 2, 1) := by decide +kernel
theorem d_L_value_17 : decode b_L_value 17 = .ok (.ireturn, 1) := by decide +kernel
theorem d_L_value_18 : decode b_L_value 18 = .ok (.iconst 0, 1) := by decide +kernel
theorem d_L_value_19 : decode b_L_value 19 = .ok (.ireturn, 1) := by decide +kernel
theorem d_C_value_0 : decode b_C_value 0 = .ok (.aload_n 0, 1) := by decide +kernel
theorem d_C_value_1 : decode b_C_value 1 = .ok (.iload_n 1, 1) := by decide +kernel
theorem d_C_value_2 : decode b_C_value 2 = .ok (.invokevirtual 82, 3) := by decide +kernel
theorem d_C_value_5 : decode b_C_value 5 = .ok (.ifCond .ne 11, 3) := by decide +kernel
theorem d_C_value_8 : decode b_C_value 8 = .ok (.new 101, 3) := by decide +kernel
theorem d_C_value_11 : decode b_C_value 11 = .ok (.dup, 1) := by decide +kernel
theorem d_C_value_12 : decode b_C_value 12 = .ok (.invokespecial 103, 3) := by decide +kernel
theorem d_C_value_15 : decode b_C_value 15 = .ok (.athrow, 1) := by decide +kernel
theorem d_C_value_16 : decode b_C_value 16 = .ok (.aload_n 0, 1) := by decide +kernel
theorem d_C_value_17 : decode b_C_value 17 = .ok (.iload_n 1, 1) := by decide +kernel
theorem d_C_value_18 : decode b_C_value 18 = .ok (.invokevirtual 94, 3) := by decide +kernel
theorem d_C_value_21 : decode b_C_value 21 = .ok (.astore_n 2, 1) := by decide +kernel
theorem d_C_value_22 : decode b_C_value 22 = .ok (.aload_n 0, 1) := by decide +kernel
theorem d_C_value_23 : decode b_C_value 23 = .ok (.invokevirtual 141, 3) := by decide +kernel
theorem d_C_value_26 : decode b_C_value 26 = .ok (.ifCond .eq 14, 3) := by decide +kernel
theorem d_C_value_29 : decode b_C_value 29 = .ok (.aload_n 2, 1) := by decide +kernel
theorem d_C_value_30 : decode b_C_value 30 = .ok (.invokevirtual 144, 3) := by decide +kernel
theorem d_C_value_33 : decode b_C_value 33 = .ok (.aload_n 0, 1) := by decide +kernel
theorem d_C_value_34 : decode b_C_value 34 = .ok (.getfield 132, 3) := by decide +kernel
theorem d_C_value_37 : decode b_C_value 37 = .ok (.if_icmp .lt 11, 3) := by decide +kernel
theorem d_C_value_40 : decode b_C_value 40 = .ok (.new 62, 3) := by decide +kernel
theorem d_C_value_43 : decode b_C_value 43 = .ok (.dup, 1) := by decide +kernel
theorem d_C_value_44 : decode b_C_value 44 = .ok (.invokespecial 64, 3) := by decide +kernel
theorem d_C_value_47 : decode b_C_value 47 = .ok (.athrow, 1) := by decide +kernel
theorem d_C_value_48 : decode b_C_value 48 = .ok (.aload_n 2, 1) := by decide +kernel
theorem d_C_value_49 : decode b_C_value 49 = .ok (.aload_n 0, 1) := by decide +kernel
theorem d_C_value_50 : decode b_C_value 50 = .ok (.getfield 36, 3) := by decide +kernel
theorem d_C_value_53 : decode b_C_value 53 = .ok (.invokevirtual 147, 3) := by decide +kernel
theorem d_C_value_56 : decode b_C_value 56 = .ok (.ireturn, 1) := by decide +kernel
theorem d_C_hasWitness_0 : decode b_C_hasWitness 0 = .ok (.aload_n 0, 1) := by decide +kernel
theorem d_C_hasWitness_1 : decode b_C_hasWitness 1 = .ok (.getfield 132, 3) := by decide +kernel
theorem d_C_hasWitness_4 : decode b_C_hasWitness 4 = .ok (.ifCond .le 7, 3) := by decide +kernel
theorem d_C_hasWitness_7 : decode b_C_hasWitness 7 = .ok (.iconst 1, 1) := by decide +kernel
theorem d_C_hasWitness_8 : decode b_C_hasWitness 8 = .ok (.goto 4, 3) := by decide +kernel
theorem d_C_hasWitness_11 : decode b_C_hasWitness 11 = .ok (.iconst 0, 1) := by decide +kernel
theorem d_C_hasWitness_12 : decode b_C_hasWitness 12 = .ok (.ireturn, 1) := by decide +kernel
theorem d_L_tamper_0 : decode b_L_tamper 0 = .ok (.aload_n 3, 1) := by decide +kernel
theorem d_L_tamper_1 : decode b_L_tamper 1 = .ok (.iconst 0, 1) := by decide +kernel
theorem d_L_tamper_2 : decode b_L_tamper 2 = .ok (.aload_n 0, 1) := by decide +kernel
theorem d_L_tamper_3 : decode b_L_tamper 3 = .ok (.iload_n 1, 1) := by decide +kernel
theorem d_L_tamper_4 : decode b_L_tamper 4 = .ok (.iload_n 2, 1) := by decide +kernel
theorem d_L_tamper_5 : decode b_L_tamper 5 = .ok (.invokevirtual 39, 3) := by decide +kernel
theorem d_L_tamper_8 : decode b_L_tamper 8 = .ok (.i2l, 1) := by decide +kernel
theorem d_L_tamper_9 : decode b_L_tamper 9 = .ok (.lastore, 1) := by decide +kernel
theorem d_L_tamper_10 : decode b_L_tamper 10 = .ok (.goto 11, 3) := by decide +kernel
theorem d_L_tamper_13 : decode b_L_tamper 13 = .ok (.astore 4, 2) := by decide +kernel
theorem d_L_tamper_15 : decode b_L_tamper 15 = .ok (.iconst 1, 1) := by decide +kernel
theorem d_L_tamper_16 : decode b_L_tamper 16 = .ok (.ireturn, 1) := by decide +kernel
theorem d_L_tamper_17 : decode b_L_tamper 17 = .ok (.astore 4, 2) := by decide +kernel
theorem d_L_tamper_19 : decode b_L_tamper 19 = .ok (.iconst 2, 1) := by decide +kernel
theorem d_L_tamper_20 : decode b_L_tamper 20 = .ok (.ireturn, 1) := by decide +kernel
theorem d_L_tamper_21 : decode b_L_tamper 21 = .ok (.iconst 0, 1) := by decide +kernel
theorem d_L_tamper_22 : decode b_L_tamper 22 = .ok (.ireturn, 1) := by decide +kernel
theorem d_C_tamper_0 : decode b_C_tamper 0 = .ok (.aload_n 0, 1) := by decide +kernel
theorem d_C_tamper_1 : decode b_C_tamper 1 = .ok (.invokevirtual 141, 3) := by decide +kernel
theorem d_C_tamper_4 : decode b_C_tamper 4 = .ok (.ifCond .ne 11, 3) := by decide +kernel
theorem d_C_tamper_7 : decode b_C_tamper 7 = .ok (.new 62, 3) := by decide +kernel
theorem d_C_tamper_10 : decode b_C_tamper 10 = .ok (.dup, 1) := by decide +kernel
theorem d_C_tamper_11 : decode b_C_tamper 11 = .ok (.invokespecial 64, 3) := by decide +kernel
theorem d_C_tamper_14 : decode b_C_tamper 14 = .ok (.athrow, 1) := by decide +kernel
theorem d_C_tamper_15 : decode b_C_tamper 15 = .ok (.iload_n 1, 1) := by decide +kernel
theorem d_C_tamper_16 : decode b_C_tamper 16 = .ok (.iconst 1, 1) := by decide +kernel
theorem d_C_tamper_17 : decode b_C_tamper 17 = .ok (.if_icmp .lt 11, 3) := by decide +kernel
theorem d_C_tamper_20 : decode b_C_tamper 20 = .ok (.iload_n 1, 1) := by decide +kernel
theorem d_C_tamper_21 : decode b_C_tamper 21 = .ok (.aload_n 0, 1) := by decide +kernel
theorem d_C_tamper_22 : decode b_C_tamper 22 = .ok (.getfield 132, 3) := by decide +kernel
theorem d_C_tamper_25 : decode b_C_tamper 25 = .ok (.if_icmp .lt 11, 3) := by decide +kernel
theorem d_C_tamper_28 : decode b_C_tamper 28 = .ok (.new 56, 3) := by decide +kernel
theorem d_C_tamper_31 : decode b_C_tamper 31 = .ok (.dup, 1) := by decide +kernel
theorem d_C_tamper_32 : decode b_C_tamper 32 = .ok (.invokespecial 58, 3) := by decide +kernel
theorem d_C_tamper_35 : decode b_C_tamper 35 = .ok (.athrow, 1) := by decide +kernel
theorem d_C_tamper_36 : decode b_C_tamper 36 = .ok (.aload_n 0, 1) := by decide +kernel
theorem d_C_tamper_37 : decode b_C_tamper 37 = .ok (.getfield 36, 3) := by decide +kernel
theorem d_C_tamper_40 : decode b_C_tamper 40 = .ok (.iload_n 1, 1) := by decide +kernel
theorem d_C_tamper_41 : decode b_C_tamper 41 = .ok (.iaload, 1) := by decide +kernel
theorem d_C_tamper_42 : decode b_C_tamper 42 = .ok (.istore_n 3, 1) := by decide +kernel
theorem d_C_tamper_43 : decode b_C_tamper 43 = .ok (.aload_n 0, 1) := by decide +kernel
theorem d_C_tamper_44 : decode b_C_tamper 44 = .ok (.getfield 36, 3) := by decide +kernel
theorem d_C_tamper_47 : decode b_C_tamper 47 = .ok (.iload_n 1, 1) := by decide +kernel
theorem d_C_tamper_48 : decode b_C_tamper 48 = .ok (.iload_n 2, 1) := by decide +kernel
theorem d_C_tamper_49 : decode b_C_tamper 49 = .ok (.invokestatic 122, 3) := by decide +kernel
theorem d_C_tamper_52 : decode b_C_tamper 52 = .ok (.iastore, 1) := by decide +kernel
theorem d_C_tamper_53 : decode b_C_tamper 53 = .ok (.iload_n 3, 1) := by decide +kernel
theorem d_C_tamper_54 : decode b_C_tamper 54 = .ok (.ireturn, 1) := by decide +kernel
theorem d_L_broken_0 : decode b_L_broken 0 = .ok (.aload_n 1, 1) := by decide +kernel
theorem d_L_broken_1 : decode b_L_broken 1 = .ok (.iconst 0, 1) := by decide +kernel
theorem d_L_broken_2 : decode b_L_broken 2 = .ok (.aload_n 0, 1) := by decide +kernel
theorem d_L_broken_3 : decode b_L_broken 3 = .ok (.invokevirtual 42, 3) := by decide +kernel
theorem d_L_broken_6 : decode b_L_broken 6 = .ok (.i2l, 1) := by decide +kernel
theorem d_L_broken_7 : decode b_L_broken 7 = .ok (.lastore, 1) := by decide +kernel
theorem d_L_broken_8 : decode b_L_broken 8 = .ok (.goto 6, 3) := by decide +kernel
theorem d_L_broken_11 : decode b_L_broken 11 = .ok (.astore_n 2, 1) := by decide +kernel
theorem d_L_broken_12 : decode b_L_broken 12 = .ok (.iconst 1, 1) := by decide +kernel
theorem d_L_broken_13 : decode b_L_broken 13 = .ok (.ireturn, 1) := by decide +kernel
theorem d_L_broken_14 : decode b_L_broken 14 = .ok (.iconst 0, 1) := by decide +kernel
theorem d_L_broken_15 : decode b_L_broken 15 = .ok (.ireturn, 1) := by decide +kernel
theorem d_C_broken_0 : decode b_C_broken 0 = .ok (.aload_n 0, 1) := by decide +kernel
theorem d_C_broken_1 : decode b_C_broken 1 = .ok (.invokevirtual 141, 3) := by decide +kernel
theorem d_C_broken_4 : decode b_C_broken 4 = .ok (.ifCond .ne 11, 3) := by decide +kernel
theorem d_C_broken_7 : decode b_C_broken 7 = .ok (.new 62, 3) := by decide +kernel
theorem d_C_broken_10 : decode b_C_broken 10 = .ok (.dup, 1) := by decide +kernel
theorem d_C_broken_11 : decode b_C_broken 11 = .ok (.invokespecial 64, 3) := by decide +kernel
theorem d_C_broken_14 : decode b_C_broken 14 = .ok (.athrow, 1) := by decide +kernel
theorem d_C_broken_15 : decode b_C_broken 15 = .ok (.aload_n 0, 1) := by decide +kernel
theorem d_C_broken_16 : decode b_C_broken 16 = .ok (.invokevirtual 138, 3) := by decide +kernel
theorem d_C_broken_19 : decode b_C_broken 19 = .ok (.ireturn, 1) := by decide +kernel
theorem d_L_first_0 : decode b_L_first 0 = .ok (.aload_n 1, 1) := by decide +kernel
theorem d_L_first_1 : decode b_L_first 1 = .ok (.iconst 0, 1) := by decide +kernel
theorem d_L_first_2 : decode b_L_first 2 = .ok (.aload_n 0, 1) := by decide +kernel
theorem d_L_first_3 : decode b_L_first 3 = .ok (.invokevirtual 45, 3) := by decide +kernel
theorem d_L_first_6 : decode b_L_first 6 = .ok (.i2l, 1) := by decide +kernel
theorem d_L_first_7 : decode b_L_first 7 = .ok (.lastore, 1) := by decide +kernel
theorem d_L_first_8 : decode b_L_first 8 = .ok (.goto 9, 3) := by decide +kernel
theorem d_L_first_11 : decode b_L_first 11 = .ok (.astore_n 2, 1) := by decide +kernel
theorem d_L_first_12 : decode b_L_first 12 = .ok (.iconst 1, 1) := by decide +kernel
theorem d_L_first_13 : decode b_L_first 13 = .ok (.ireturn, 1) := by decide +kernel
theorem d_L_first_14 : decode b_L_first 14 = .ok (.astore_n 2, 1) := by decide +kernel
theorem d_L_first_15 : decode b_L_first 15 = .ok (.iconst 2, 1) := by decide +kernel
theorem d_L_first_16 : decode b_L_first 16 = .ok (.ireturn, 1) := by decide +kernel
theorem d_L_first_17 : decode b_L_first 17 = .ok (.iconst 0, 1) := by decide +kernel
theorem d_L_first_18 : decode b_L_first 18 = .ok (.ireturn, 1) := by decide +kernel
theorem d_C_first_0 : decode b_C_first 0 = .ok (.aload_n 0, 1) := by decide +kernel
theorem d_C_first_1 : decode b_C_first 1 = .ok (.invokevirtual 141, 3) := by decide +kernel
theorem d_C_first_4 : decode b_C_first 4 = .ok (.ifCond .ne 11, 3) := by decide +kernel
theorem d_C_first_7 : decode b_C_first 7 = .ok (.new 62, 3) := by decide +kernel
theorem d_C_first_10 : decode b_C_first 10 = .ok (.dup, 1) := by decide +kernel
theorem d_C_first_11 : decode b_C_first 11 = .ok (.invokespecial 64, 3) := by decide +kernel
theorem d_C_first_14 : decode b_C_first 14 = .ok (.athrow, 1) := by decide +kernel
theorem d_C_first_15 : decode b_C_first 15 = .ok (.iconst 0, 1) := by decide +kernel
theorem d_C_first_16 : decode b_C_first 16 = .ok (.istore_n 1, 1) := by decide +kernel
theorem d_C_first_17 : decode b_C_first 17 = .ok (.iload_n 1, 1) := by decide +kernel
theorem d_C_first_18 : decode b_C_first 18 = .ok (.aload_n 0, 1) := by decide +kernel
theorem d_C_first_19 : decode b_C_first 19 = .ok (.getfield 135, 3) := by decide +kernel
theorem d_C_first_22 : decode b_C_first 22 = .ok (.if_icmp .ge 32, 3) := by decide +kernel
theorem d_C_first_25 : decode b_C_first 25 = .ok (.aload_n 0, 1) := by decide +kernel
theorem d_C_first_26 : decode b_C_first 26 = .ok (.getfield 33, 3) := by decide +kernel
theorem d_C_first_29 : decode b_C_first 29 = .ok (.iload_n 1, 1) := by decide +kernel
theorem d_C_first_30 : decode b_C_first 30 = .ok (.invokevirtual 104, 3) := by decide +kernel
theorem d_C_first_33 : decode b_C_first 33 = .ok (.checkcast 151, 3) := by decide +kernel
theorem d_C_first_36 : decode b_C_first 36 = .ok (.aload_n 0, 1) := by decide +kernel
theorem d_C_first_37 : decode b_C_first 37 = .ok (.getfield 36, 3) := by decide +kernel
theorem d_C_first_40 : decode b_C_first 40 = .ok (.invokevirtual 153, 3) := by decide +kernel
theorem d_C_first_43 : decode b_C_first 43 = .ok (.ifCond .ne 5, 3) := by decide +kernel
theorem d_C_first_46 : decode b_C_first 46 = .ok (.iload_n 1, 1) := by decide +kernel
theorem d_C_first_47 : decode b_C_first 47 = .ok (.ireturn, 1) := by decide +kernel
theorem d_C_first_48 : decode b_C_first 48 = .ok (.iinc 1 1, 3) := by decide +kernel
theorem d_C_first_51 : decode b_C_first 51 = .ok (.goto (-34), 3) := by decide +kernel
theorem d_C_first_54 : decode b_C_first 54 = .ok (.new 101, 3) := by decide +kernel
theorem d_C_first_57 : decode b_C_first 57 = .ok (.dup, 1) := by decide +kernel
theorem d_C_first_58 : decode b_C_first 58 = .ok (.invokespecial 103, 3) := by decide +kernel
theorem d_C_first_61 : decode b_C_first 61 = .ok (.athrow, 1) := by decide +kernel
theorem d_L_coefficient_0 : decode b_L_coefficient 0 = .ok (.aload 4, 2) := by decide +kernel
theorem d_L_coefficient_2 : decode b_L_coefficient 2 = .ok (.iconst 0, 1) := by decide +kernel
theorem d_L_coefficient_3 : decode b_L_coefficient 3 = .ok (.aload_n 0, 1) := by decide +kernel
theorem d_L_coefficient_4 : decode b_L_coefficient 4 = .ok (.iload_n 1, 1) := by decide +kernel
theorem d_L_coefficient_5 : decode b_L_coefficient 5 = .ok (.iload_n 2, 1) := by decide +kernel
theorem d_L_coefficient_6 : decode b_L_coefficient 6 = .ok (.iload_n 3, 1) := by decide +kernel
theorem d_L_coefficient_7 : decode b_L_coefficient 7 = .ok (.invokevirtual 48, 3) := by decide +kernel
theorem d_L_coefficient_10 : decode b_L_coefficient 10 = .ok (.i2l, 1) := by decide +kernel
theorem d_L_coefficient_11 : decode b_L_coefficient 11 = .ok (.lastore, 1) := by decide +kernel
theorem d_L_coefficient_12 : decode b_L_coefficient 12 = .ok (.goto 11, 3) := by decide +kernel
theorem d_L_coefficient_15 : decode b_L_coefficient 15 = .ok (.astore 5, 2) := by decide +kernel
theorem d_L_coefficient_17 : decode b_L_coefficient 17 = .ok (.iconst 1, 1) := by decide +kernel
theorem d_L_coefficient_18 : decode b_L_coefficient 18 = .ok (.ireturn, 1) := by decide +kernel
theorem d_L_coefficient_19 : decode b_L_coefficient 19 = .ok (.astore 5, 2) := by decide +kernel
theorem d_L_coefficient_21 : decode b_L_coefficient 21 = .ok (.iconst 2, 1) := by decide +kernel
theorem d_L_coefficient_22 : decode b_L_coefficient 22 = .ok (.ireturn, 1) := by decide +kernel
theorem d_L_coefficient_23 : decode b_L_coefficient 23 = .ok (.iconst 0, 1) := by decide +kernel
theorem d_L_coefficient_24 : decode b_L_coefficient 24 = .ok (.ireturn, 1) := by decide +kernel
theorem d_C_coefficient_0 : decode b_C_coefficient 0 = .ok (.iload_n 1, 1) := by decide +kernel
theorem d_C_coefficient_1 : decode b_C_coefficient 1 = .ok (.ifCond .lt 14, 3) := by decide +kernel
theorem d_C_coefficient_4 : decode b_C_coefficient 4 = .ok (.iload_n 1, 1) := by decide +kernel
theorem d_C_coefficient_5 : decode b_C_coefficient 5 = .ok (.aload_n 0, 1) := by decide +kernel
theorem d_C_coefficient_6 : decode b_C_coefficient 6 = .ok (.getfield 33, 3) := by decide +kernel
theorem d_C_coefficient_9 : decode b_C_coefficient 9 = .ok (.invokevirtual 78, 3) := by decide +kernel
theorem d_C_coefficient_12 : decode b_C_coefficient 12 = .ok (.if_icmp .lt 11, 3) := by decide +kernel
end
section
theorem d_C_coefficient_15 : decode b_C_coefficient 15 = .ok (.new 101, 3) := by decide +kernel
theorem d_C_coefficient_18 : decode b_C_coefficient 18 = .ok (.dup, 1) := by decide +kernel
theorem d_C_coefficient_19 : decode b_C_coefficient 19 = .ok (.invokespecial 103, 3) := by decide +kernel
theorem d_C_coefficient_22 : decode b_C_coefficient 22 = .ok (.athrow, 1) := by decide +kernel
theorem d_C_coefficient_23 : decode b_C_coefficient 23 = .ok (.iload_n 2, 1) := by decide +kernel
theorem d_C_coefficient_24 : decode b_C_coefficient 24 = .ok (.ifCond .lt 15, 3) := by decide +kernel
theorem d_C_coefficient_27 : decode b_C_coefficient 27 = .ok (.iload_n 2, 1) := by decide +kernel
theorem d_C_coefficient_28 : decode b_C_coefficient 28 = .ok (.iconst 2, 1) := by decide +kernel
theorem d_C_coefficient_29 : decode b_C_coefficient 29 = .ok (.if_icmp .gt 10, 3) := by decide +kernel
theorem d_C_coefficient_32 : decode b_C_coefficient 32 = .ok (.iload_n 3, 1) := by decide +kernel
theorem d_C_coefficient_33 : decode b_C_coefficient 33 = .ok (.invokestatic 157, 3) := by decide +kernel
theorem d_C_coefficient_36 : decode b_C_coefficient 36 = .ok (.ifCond .ne 11, 3) := by decide +kernel
theorem d_C_coefficient_39 : decode b_C_coefficient 39 = .ok (.new 56, 3) := by decide +kernel
theorem d_C_coefficient_42 : decode b_C_coefficient 42 = .ok (.dup, 1) := by decide +kernel
theorem d_C_coefficient_43 : decode b_C_coefficient 43 = .ok (.invokespecial 58, 3) := by decide +kernel
theorem d_C_coefficient_46 : decode b_C_coefficient 46 = .ok (.athrow, 1) := by decide +kernel
theorem d_C_coefficient_47 : decode b_C_coefficient 47 = .ok (.aload_n 0, 1) := by decide +kernel
theorem d_C_coefficient_48 : decode b_C_coefficient 48 = .ok (.getfield 33, 3) := by decide +kernel
theorem d_C_coefficient_51 : decode b_C_coefficient 51 = .ok (.iload_n 1, 1) := by decide +kernel
theorem d_C_coefficient_52 : decode b_C_coefficient 52 = .ok (.invokevirtual 104, 3) := by decide +kernel
theorem d_C_coefficient_55 : decode b_C_coefficient 55 = .ok (.checkcast 151, 3) := by decide +kernel
theorem d_C_coefficient_58 : decode b_C_coefficient 58 = .ok (.iload_n 2, 1) := by decide +kernel
theorem d_C_coefficient_59 : decode b_C_coefficient 59 = .ok (.invokevirtual 160, 3) := by decide +kernel
theorem d_C_coefficient_62 : decode b_C_coefficient 62 = .ok (.getfield 163, 3) := by decide +kernel
theorem d_C_coefficient_65 : decode b_C_coefficient 65 = .ok (.iload_n 3, 1) := by decide +kernel
theorem d_C_coefficient_66 : decode b_C_coefficient 66 = .ok (.iaload, 1) := by decide +kernel
theorem d_C_coefficient_67 : decode b_C_coefficient 67 = .ok (.ireturn, 1) := by decide +kernel
theorem d_C_isVariableNumber_0 : decode b_C_isVariableNumber 0 = .ok (.iload_n 0, 1) := by decide +kernel
theorem d_C_isVariableNumber_1 : decode b_C_isVariableNumber 1 = .ok (.ifCond .lt 13, 3) := by decide +kernel
theorem d_C_isVariableNumber_4 : decode b_C_isVariableNumber 4 = .ok (.iload_n 0, 1) := by decide +kernel
theorem d_C_isVariableNumber_5 : decode b_C_isVariableNumber 5 = .ok (.bipush 60, 2) := by decide +kernel
theorem d_C_isVariableNumber_7 : decode b_C_isVariableNumber 7 = .ok (.if_icmp .ge 7, 3) := by decide +kernel
theorem d_C_isVariableNumber_10 : decode b_C_isVariableNumber 10 = .ok (.iconst 1, 1) := by decide +kernel
theorem d_C_isVariableNumber_11 : decode b_C_isVariableNumber 11 = .ok (.goto 4, 3) := by decide +kernel
theorem d_C_isVariableNumber_14 : decode b_C_isVariableNumber 14 = .ok (.iconst 0, 1) := by decide +kernel
theorem d_C_isVariableNumber_15 : decode b_C_isVariableNumber 15 = .ok (.ireturn, 1) := by decide +kernel
theorem d_K_sumAt_0 : decode b_K_sumAt 0 = .ok (.iload_n 1, 1) := by decide +kernel
theorem d_K_sumAt_1 : decode b_K_sumAt 1 = .ok (.lookupswitch 37 #[(0, 27), (1, 32)], 27) := by decide +kernel
theorem d_K_sumAt_28 : decode b_K_sumAt 28 = .ok (.aload_n 0, 1) := by decide +kernel
theorem d_K_sumAt_29 : decode b_K_sumAt 29 = .ok (.getfield 7, 3) := by decide +kernel
theorem d_K_sumAt_32 : decode b_K_sumAt 32 = .ok (.areturn, 1) := by decide +kernel
theorem d_K_sumAt_33 : decode b_K_sumAt 33 = .ok (.aload_n 0, 1) := by decide +kernel
theorem d_K_sumAt_34 : decode b_K_sumAt 34 = .ok (.getfield 13, 3) := by decide +kernel
theorem d_K_sumAt_37 : decode b_K_sumAt 37 = .ok (.areturn, 1) := by decide +kernel
theorem d_K_sumAt_38 : decode b_K_sumAt 38 = .ok (.aload_n 0, 1) := by decide +kernel
theorem d_K_sumAt_39 : decode b_K_sumAt 39 = .ok (.getfield 16, 3) := by decide +kernel
theorem d_K_sumAt_42 : decode b_K_sumAt 42 = .ok (.areturn, 1) := by decide +kernel
theorem d_L_terms_0 : decode b_L_terms 0 = .ok (.aload_n 2, 1) := by decide +kernel
theorem d_L_terms_1 : decode b_L_terms 1 = .ok (.iconst 0, 1) := by decide +kernel
theorem d_L_terms_2 : decode b_L_terms 2 = .ok (.aload_n 0, 1) := by decide +kernel
theorem d_L_terms_3 : decode b_L_terms 3 = .ok (.iload_n 1, 1) := by decide +kernel
theorem d_L_terms_4 : decode b_L_terms 4 = .ok (.invokevirtual 51, 3) := by decide +kernel
theorem d_L_terms_7 : decode b_L_terms 7 = .ok (.i2l, 1) := by decide +kernel
theorem d_L_terms_8 : decode b_L_terms 8 = .ok (.lastore, 1) := by decide +kernel
theorem d_L_terms_9 : decode b_L_terms 9 = .ok (.goto 6, 3) := by decide +kernel
theorem d_L_terms_12 : decode b_L_terms 12 = .ok (.astore_n 3, 1) := by decide +kernel
theorem d_L_terms_13 : decode b_L_terms 13 = .ok (.iconst 1, 1) := by decide +kernel
theorem d_L_terms_14 : decode b_L_terms 14 = .ok (.ireturn, 1) := by decide +kernel
theorem d_L_terms_15 : decode b_L_terms 15 = .ok (.iconst 0, 1) := by decide +kernel
theorem d_L_terms_16 : decode b_L_terms 16 = .ok (.ireturn, 1) := by decide +kernel
theorem d_C_terms_0 : decode b_C_terms 0 = .ok (.aload_n 0, 1) := by decide +kernel
theorem d_C_terms_1 : decode b_C_terms 1 = .ok (.iload_n 1, 1) := by decide +kernel
theorem d_C_terms_2 : decode b_C_terms 2 = .ok (.invokevirtual 82, 3) := by decide +kernel
theorem d_C_terms_5 : decode b_C_terms 5 = .ok (.ifCond .ne 11, 3) := by decide +kernel
theorem d_C_terms_8 : decode b_C_terms 8 = .ok (.new 101, 3) := by decide +kernel
theorem d_C_terms_11 : decode b_C_terms 11 = .ok (.dup, 1) := by decide +kernel
theorem d_C_terms_12 : decode b_C_terms 12 = .ok (.invokespecial 103, 3) := by decide +kernel
theorem d_C_terms_15 : decode b_C_terms 15 = .ok (.athrow, 1) := by decide +kernel
theorem d_C_terms_16 : decode b_C_terms 16 = .ok (.aload_n 0, 1) := by decide +kernel
theorem d_C_terms_17 : decode b_C_terms 17 = .ok (.iload_n 1, 1) := by decide +kernel
theorem d_C_terms_18 : decode b_C_terms 18 = .ok (.invokevirtual 94, 3) := by decide +kernel
theorem d_C_terms_21 : decode b_C_terms 21 = .ok (.invokevirtual 166, 3) := by decide +kernel
theorem d_C_terms_24 : decode b_C_terms 24 = .ok (.ireturn, 1) := by decide +kernel
theorem d_S_howManyTerms_0 : decode b_S_howManyTerms 0 = .ok (.iconst 0, 1) := by decide +kernel
theorem d_S_howManyTerms_1 : decode b_S_howManyTerms 1 = .ok (.istore_n 1, 1) := by decide +kernel
theorem d_S_howManyTerms_2 : decode b_S_howManyTerms 2 = .ok (.iconst 0, 1) := by decide +kernel
theorem d_S_howManyTerms_3 : decode b_S_howManyTerms 3 = .ok (.istore_n 2, 1) := by decide +kernel
theorem d_S_howManyTerms_4 : decode b_S_howManyTerms 4 = .ok (.iload_n 2, 1) := by decide +kernel
theorem d_S_howManyTerms_5 : decode b_S_howManyTerms 5 = .ok (.bipush 60, 2) := by decide +kernel
theorem d_S_howManyTerms_7 : decode b_S_howManyTerms 7 = .ok (.if_icmp .ge 21, 3) := by decide +kernel
theorem d_S_howManyTerms_10 : decode b_S_howManyTerms 10 = .ok (.aload_n 0, 1) := by decide +kernel
theorem d_S_howManyTerms_11 : decode b_S_howManyTerms 11 = .ok (.getfield 9, 3) := by decide +kernel
theorem d_S_howManyTerms_14 : decode b_S_howManyTerms 14 = .ok (.iload_n 2, 1) := by decide +kernel
theorem d_S_howManyTerms_15 : decode b_S_howManyTerms 15 = .ok (.iaload, 1) := by decide +kernel
theorem d_S_howManyTerms_16 : decode b_S_howManyTerms 16 = .ok (.ifCond .eq 6, 3) := by decide +kernel
theorem d_S_howManyTerms_19 : decode b_S_howManyTerms 19 = .ok (.iinc 1 1, 3) := by decide +kernel
theorem d_S_howManyTerms_22 : decode b_S_howManyTerms 22 = .ok (.iinc 2 1, 3) := by decide +kernel
theorem d_S_howManyTerms_25 : decode b_S_howManyTerms 25 = .ok (.goto (-21), 3) := by decide +kernel
theorem d_S_howManyTerms_28 : decode b_S_howManyTerms 28 = .ok (.iload_n 1, 1) := by decide +kernel
theorem d_S_howManyTerms_29 : decode b_S_howManyTerms 29 = .ok (.ireturn, 1) := by decide +kernel
theorem d_L_uses_0 : decode b_L_uses 0 = .ok (.aload_n 2, 1) := by decide +kernel
theorem d_L_uses_1 : decode b_L_uses 1 = .ok (.iconst 0, 1) := by decide +kernel
theorem d_L_uses_2 : decode b_L_uses 2 = .ok (.aload_n 0, 1) := by decide +kernel
theorem d_L_uses_3 : decode b_L_uses 3 = .ok (.iload_n 1, 1) := by decide +kernel
theorem d_L_uses_4 : decode b_L_uses 4 = .ok (.invokevirtual 54, 3) := by decide +kernel
theorem d_L_uses_7 : decode b_L_uses 7 = .ok (.i2l, 1) := by decide +kernel
theorem d_L_uses_8 : decode b_L_uses 8 = .ok (.lastore, 1) := by decide +kernel
theorem d_L_uses_9 : decode b_L_uses 9 = .ok (.goto 6, 3) := by decide +kernel
theorem d_L_uses_12 : decode b_L_uses 12 = .ok (.astore_n 3, 1) := by decide +kernel
theorem d_L_uses_13 : decode b_L_uses 13 = .ok (.iconst 1, 1) := by decide +kernel
theorem d_L_uses_14 : decode b_L_uses 14 = .ok (.ireturn, 1) := by decide +kernel
theorem d_L_uses_15 : decode b_L_uses 15 = .ok (.iconst 0, 1) := by decide +kernel
theorem d_L_uses_16 : decode b_L_uses 16 = .ok (.ireturn, 1) := by decide +kernel
theorem d_C_uses_0 : decode b_C_uses 0 = .ok (.iload_n 1, 1) := by decide +kernel
theorem d_C_uses_1 : decode b_C_uses 1 = .ok (.invokestatic 157, 3) := by decide +kernel
theorem d_C_uses_4 : decode b_C_uses 4 = .ok (.ifCond .ne 11, 3) := by decide +kernel
theorem d_C_uses_7 : decode b_C_uses 7 = .ok (.new 56, 3) := by decide +kernel
theorem d_C_uses_10 : decode b_C_uses 10 = .ok (.dup, 1) := by decide +kernel
theorem d_C_uses_11 : decode b_C_uses 11 = .ok (.invokespecial 58, 3) := by decide +kernel
theorem d_C_uses_14 : decode b_C_uses 14 = .ok (.athrow, 1) := by decide +kernel
theorem d_C_uses_15 : decode b_C_uses 15 = .ok (.iconst 0, 1) := by decide +kernel
theorem d_C_uses_16 : decode b_C_uses 16 = .ok (.istore_n 2, 1) := by decide +kernel
theorem d_C_uses_17 : decode b_C_uses 17 = .ok (.iconst 0, 1) := by decide +kernel
theorem d_C_uses_18 : decode b_C_uses 18 = .ok (.istore_n 3, 1) := by decide +kernel
theorem d_C_uses_19 : decode b_C_uses 19 = .ok (.iload_n 3, 1) := by decide +kernel
theorem d_C_uses_20 : decode b_C_uses 20 = .ok (.aload_n 0, 1) := by decide +kernel
theorem d_C_uses_21 : decode b_C_uses 21 = .ok (.getfield 33, 3) := by decide +kernel
theorem d_C_uses_24 : decode b_C_uses 24 = .ok (.invokevirtual 78, 3) := by decide +kernel
theorem d_C_uses_27 : decode b_C_uses 27 = .ok (.if_icmp .ge 30, 3) := by decide +kernel
theorem d_C_uses_30 : decode b_C_uses 30 = .ok (.aload_n 0, 1) := by decide +kernel
theorem d_C_uses_31 : decode b_C_uses 31 = .ok (.getfield 33, 3) := by decide +kernel
theorem d_C_uses_34 : decode b_C_uses 34 = .ok (.iload_n 3, 1) := by decide +kernel
theorem d_C_uses_35 : decode b_C_uses 35 = .ok (.invokevirtual 104, 3) := by decide +kernel
theorem d_C_uses_38 : decode b_C_uses 38 = .ok (.checkcast 151, 3) := by decide +kernel
theorem d_C_uses_41 : decode b_C_uses 41 = .ok (.iload_n 1, 1) := by decide +kernel
theorem d_C_uses_42 : decode b_C_uses 42 = .ok (.invokevirtual 169, 3) := by decide +kernel
theorem d_C_uses_45 : decode b_C_uses 45 = .ok (.ifCond .eq 6, 3) := by decide +kernel
theorem d_C_uses_48 : decode b_C_uses 48 = .ok (.iinc 2 1, 3) := by decide +kernel
theorem d_C_uses_51 : decode b_C_uses 51 = .ok (.iinc 3 1, 3) := by decide +kernel
theorem d_C_uses_54 : decode b_C_uses 54 = .ok (.goto (-35), 3) := by decide +kernel
theorem d_C_uses_57 : decode b_C_uses 57 = .ok (.iload_n 2, 1) := by decide +kernel
theorem d_C_uses_58 : decode b_C_uses 58 = .ok (.ireturn, 1) := by decide +kernel
theorem d_K_hasVariable_0 : decode b_K_hasVariable 0 = .ok (.aload_n 0, 1) := by decide +kernel
theorem d_K_hasVariable_1 : decode b_K_hasVariable 1 = .ok (.getfield 7, 3) := by decide +kernel
theorem d_K_hasVariable_4 : decode b_K_hasVariable 4 = .ok (.getfield 31, 3) := by decide +kernel
theorem d_K_hasVariable_7 : decode b_K_hasVariable 7 = .ok (.iload_n 1, 1) := by decide +kernel
theorem d_K_hasVariable_8 : decode b_K_hasVariable 8 = .ok (.iaload, 1) := by decide +kernel
theorem d_K_hasVariable_9 : decode b_K_hasVariable 9 = .ok (.ifCond .ne 27, 3) := by decide +kernel
theorem d_K_hasVariable_12 : decode b_K_hasVariable 12 = .ok (.aload_n 0, 1) := by decide +kernel
theorem d_K_hasVariable_13 : decode b_K_hasVariable 13 = .ok (.getfield 13, 3) := by decide +kernel
theorem d_K_hasVariable_16 : decode b_K_hasVariable 16 = .ok (.getfield 31, 3) := by decide +kernel
theorem d_K_hasVariable_19 : decode b_K_hasVariable 19 = .ok (.iload_n 1, 1) := by decide +kernel
theorem d_K_hasVariable_20 : decode b_K_hasVariable 20 = .ok (.iaload, 1) := by decide +kernel
theorem d_K_hasVariable_21 : decode b_K_hasVariable 21 = .ok (.ifCond .ne 15, 3) := by decide +kernel
theorem d_K_hasVariable_24 : decode b_K_hasVariable 24 = .ok (.aload_n 0, 1) := by decide +kernel
theorem d_K_hasVariable_25 : decode b_K_hasVariable 25 = .ok (.getfield 16, 3) := by decide +kernel
theorem d_K_hasVariable_28 : decode b_K_hasVariable 28 = .ok (.getfield 31, 3) := by decide +kernel
theorem d_K_hasVariable_31 : decode b_K_hasVariable 31 = .ok (.iload_n 1, 1) := by decide +kernel
theorem d_K_hasVariable_32 : decode b_K_hasVariable 32 = .ok (.iaload, 1) := by decide +kernel
theorem d_K_hasVariable_33 : decode b_K_hasVariable 33 = .ok (.ifCond .eq 7, 3) := by decide +kernel
theorem d_K_hasVariable_36 : decode b_K_hasVariable 36 = .ok (.iconst 1, 1) := by decide +kernel
theorem d_K_hasVariable_37 : decode b_K_hasVariable 37 = .ok (.goto 4, 3) := by decide +kernel
theorem d_K_hasVariable_40 : decode b_K_hasVariable 40 = .ok (.iconst 0, 1) := by decide +kernel
theorem d_K_hasVariable_41 : decode b_K_hasVariable 41 = .ok (.ireturn, 1) := by decide +kernel
theorem d_L_count_0 : decode b_L_count 0 = .ok (.aload_n 2, 1) := by decide +kernel
theorem d_L_count_1 : decode b_L_count 1 = .ok (.iconst 0, 1) := by decide +kernel
theorem d_L_count_2 : decode b_L_count 2 = .ok (.aload_n 0, 1) := by decide +kernel
theorem d_L_count_3 : decode b_L_count 3 = .ok (.iload_n 1, 1) := by decide +kernel
theorem d_L_count_4 : decode b_L_count 4 = .ok (.invokevirtual 57, 3) := by decide +kernel
theorem d_L_count_7 : decode b_L_count 7 = .ok (.i2l, 1) := by decide +kernel
theorem d_L_count_8 : decode b_L_count 8 = .ok (.lastore, 1) := by decide +kernel
theorem d_L_count_9 : decode b_L_count 9 = .ok (.goto 6, 3) := by decide +kernel
theorem d_L_count_12 : decode b_L_count 12 = .ok (.astore_n 3, 1) := by decide +kernel
theorem d_L_count_13 : decode b_L_count 13 = .ok (.iconst 1, 1) := by decide +kernel
theorem d_L_count_14 : decode b_L_count 14 = .ok (.ireturn, 1) := by decide +kernel
theorem d_L_count_15 : decode b_L_count 15 = .ok (.iconst 0, 1) := by decide +kernel
theorem d_L_count_16 : decode b_L_count 16 = .ok (.ireturn, 1) := by decide +kernel
theorem d_C_count_0 : decode b_C_count 0 = .ok (.iload_n 1, 1) := by decide +kernel
theorem d_C_count_1 : decode b_C_count 1 = .ok (.tableswitch 86 0 5 #[39, 47, 55, 63, 68, 81], 39) := by decide +kernel
theorem d_C_count_40 : decode b_C_count 40 = .ok (.aload_n 0, 1) := by decide +kernel
theorem d_C_count_41 : decode b_C_count 41 = .ok (.getfield 30, 3) := by decide +kernel
theorem d_C_count_44 : decode b_C_count 44 = .ok (.invokevirtual 78, 3) := by decide +kernel
theorem d_C_count_47 : decode b_C_count 47 = .ok (.ireturn, 1) := by decide +kernel
theorem d_C_count_48 : decode b_C_count 48 = .ok (.aload_n 0, 1) := by decide +kernel
theorem d_C_count_49 : decode b_C_count 49 = .ok (.getfield 26, 3) := by decide +kernel
theorem d_C_count_52 : decode b_C_count 52 = .ok (.invokevirtual 78, 3) := by decide +kernel
theorem d_C_count_55 : decode b_C_count 55 = .ok (.ireturn, 1) := by decide +kernel
theorem d_C_count_56 : decode b_C_count 56 = .ok (.aload_n 0, 1) := by decide +kernel
theorem d_C_count_57 : decode b_C_count 57 = .ok (.getfield 33, 3) := by decide +kernel
theorem d_C_count_60 : decode b_C_count 60 = .ok (.invokevirtual 78, 3) := by decide +kernel
theorem d_C_count_63 : decode b_C_count 63 = .ok (.ireturn, 1) := by decide +kernel
theorem d_C_count_64 : decode b_C_count 64 = .ok (.aload_n 0, 1) := by decide +kernel
theorem d_C_count_65 : decode b_C_count 65 = .ok (.getfield 172, 3) := by decide +kernel
theorem d_C_count_68 : decode b_C_count 68 = .ok (.ireturn, 1) := by decide +kernel
theorem d_C_count_69 : decode b_C_count 69 = .ok (.aload_n 0, 1) := by decide +kernel
theorem d_C_count_70 : decode b_C_count 70 = .ok (.invokevirtual 141, 3) := by decide +kernel
theorem d_C_count_73 : decode b_C_count 73 = .ok (.ifCond .eq 7, 3) := by decide +kernel
theorem d_C_count_76 : decode b_C_count 76 = .ok (.iconst 1, 1) := by decide +kernel
theorem d_C_count_77 : decode b_C_count 77 = .ok (.goto 4, 3) := by decide +kernel
theorem d_C_count_80 : decode b_C_count 80 = .ok (.iconst 0, 1) := by decide +kernel
theorem d_C_count_81 : decode b_C_count 81 = .ok (.ireturn, 1) := by decide +kernel
theorem d_C_count_82 : decode b_C_count 82 = .ok (.aload_n 0, 1) := by decide +kernel
theorem d_C_count_83 : decode b_C_count 83 = .ok (.getfield 132, 3) := by decide +kernel
theorem d_C_count_86 : decode b_C_count 86 = .ok (.ireturn, 1) := by decide +kernel
theorem d_C_count_87 : decode b_C_count 87 = .ok (.new 56, 3) := by decide +kernel
theorem d_C_count_90 : decode b_C_count 90 = .ok (.dup, 1) := by decide +kernel
theorem d_C_count_91 : decode b_C_count 91 = .ok (.invokespecial 58, 3) := by decide +kernel
theorem d_C_count_94 : decode b_C_count 94 = .ok (.athrow, 1) := by decide +kernel
theorem d_M_init_0 : decode b_M_init 0 = .ok (.aload_n 0, 1) := by decide +kernel
theorem d_M_init_1 : decode b_M_init 1 = .ok (.invokespecial 1, 3) := by decide +kernel
theorem d_M_init_4 : decode b_M_init 4 = .ok (.aload_n 0, 1) := by decide +kernel
theorem d_M_init_5 : decode b_M_init 5 = .ok (.sipush 3600, 3) := by decide +kernel
theorem d_M_init_8 : decode b_M_init 8 = .ok (.newarray .int, 2) := by decide +kernel
theorem d_M_init_10 : decode b_M_init 10 = .ok (.putfield 7, 3) := by decide +kernel
theorem d_M_init_13 : decode b_M_init 13 = .ok (.aload_n 0, 1) := by decide +kernel
theorem d_M_init_14 : decode b_M_init 14 = .ok (.bipush 60, 2) := by decide +kernel
theorem d_M_init_16 : decode b_M_init 16 = .ok (.newarray .int, 2) := by decide +kernel
theorem d_M_init_18 : decode b_M_init 18 = .ok (.putfield 13, 3) := by decide +kernel
theorem d_M_init_21 : decode b_M_init 21 = .ok (.aload_n 0, 1) := by decide +kernel
theorem d_M_init_22 : decode b_M_init 22 = .ok (.bipush 60, 2) := by decide +kernel
theorem d_M_init_24 : decode b_M_init 24 = .ok (.newarray .int, 2) := by decide +kernel
theorem d_M_init_26 : decode b_M_init 26 = .ok (.putfield 16, 3) := by decide +kernel
theorem d_M_init_29 : decode b_M_init 29 = .ok (.aload_n 0, 1) := by decide +kernel
theorem d_M_init_30 : decode b_M_init 30 = .ok (.bipush 60, 2) := by decide +kernel
theorem d_M_init_32 : decode b_M_init 32 = .ok (.newarray .int, 2) := by decide +kernel
theorem d_M_init_34 : decode b_M_init 34 = .ok (.putfield 19, 3) := by decide +kernel
theorem d_M_init_37 : decode b_M_init 37 = .ok (.aload_n 0, 1) := by decide +kernel
theorem d_M_init_38 : decode b_M_init 38 = .ok (.bipush 60, 2) := by decide +kernel
theorem d_M_init_40 : decode b_M_init 40 = .ok (.newarray .int, 2) := by decide +kernel
theorem d_M_init_42 : decode b_M_init 42 = .ok (.putfield 22, 3) := by decide +kernel
theorem d_M_init_45 : decode b_M_init 45 = .ok (.aload_n 0, 1) := by decide +kernel
theorem d_M_init_46 : decode b_M_init 46 = .ok (.bipush 60, 2) := by decide +kernel
theorem d_M_init_48 : decode b_M_init 48 = .ok (.newarray .int, 2) := by decide +kernel
theorem d_M_init_50 : decode b_M_init 50 = .ok (.putfield 25, 3) := by decide +kernel
theorem d_M_init_53 : decode b_M_init 53 = .ok (.aload_n 0, 1) := by decide +kernel
theorem d_M_init_54 : decode b_M_init 54 = .ok (.iconst 1, 1) := by decide +kernel
theorem d_M_init_55 : decode b_M_init 55 = .ok (.putfield 28, 3) := by decide +kernel
theorem d_M_init_58 : decode b_M_init 58 = .ok (.aload_n 0, 1) := by decide +kernel
theorem d_M_init_59 : decode b_M_init 59 = .ok (.sipush 14400, 3) := by decide +kernel
theorem d_M_init_62 : decode b_M_init 62 = .ok (.newarray .int, 2) := by decide +kernel
theorem d_M_init_64 : decode b_M_init 64 = .ok (.putfield 32, 3) := by decide +kernel
theorem d_M_init_67 : decode b_M_init 67 = .ok (.aload_n 0, 1) := by decide +kernel
theorem d_M_init_68 : decode b_M_init 68 = .ok (.bipush 60, 2) := by decide +kernel
theorem d_M_init_70 : decode b_M_init 70 = .ok (.newarray .int, 2) := by decide +kernel
theorem d_M_init_72 : decode b_M_init 72 = .ok (.putfield 35, 3) := by decide +kernel
theorem d_M_init_75 : decode b_M_init 75 = .ok (.aload_n 0, 1) := by decide +kernel
theorem d_M_init_76 : decode b_M_init 76 = .ok (.bipush 60, 2) := by decide +kernel
theorem d_M_init_78 : decode b_M_init 78 = .ok (.newarray .int, 2) := by decide +kernel
theorem d_M_init_80 : decode b_M_init 80 = .ok (.putfield 38, 3) := by decide +kernel
theorem d_M_init_83 : decode b_M_init 83 = .ok (.aload_n 0, 1) := by decide +kernel
theorem d_M_init_84 : decode b_M_init 84 = .ok (.bipush 60, 2) := by decide +kernel
theorem d_M_init_86 : decode b_M_init 86 = .ok (.newarray .int, 2) := by decide +kernel
theorem d_M_init_88 : decode b_M_init 88 = .ok (.putfield 41, 3) := by decide +kernel
theorem d_M_init_91 : decode b_M_init 91 = .ok (.aload_n 0, 1) := by decide +kernel
theorem d_M_init_92 : decode b_M_init 92 = .ok (.bipush 60, 2) := by decide +kernel
theorem d_M_init_94 : decode b_M_init 94 = .ok (.newarray .int, 2) := by decide +kernel
theorem d_M_init_96 : decode b_M_init 96 = .ok (.putfield 44, 3) := by decide +kernel
theorem d_M_init_99 : decode b_M_init 99 = .ok (.aload_n 0, 1) := by decide +kernel
theorem d_M_init_100 : decode b_M_init 100 = .ok (.bipush 60, 2) := by decide +kernel
theorem d_M_init_102 : decode b_M_init 102 = .ok (.newarray .int, 2) := by decide +kernel
theorem d_M_init_104 : decode b_M_init 104 = .ok (.putfield 47, 3) := by decide +kernel
theorem d_M_init_107 : decode b_M_init 107 = .ok (.return_, 1) := by decide +kernel
theorem d_M_thrown_0 : decode b_M_thrown 0 = .ok (.aload_n 0, 1) := by decide +kernel
theorem d_M_thrown_1 : decode b_M_thrown 1 = .ok (.getfield 50, 3) := by decide +kernel
theorem d_M_thrown_4 : decode b_M_thrown 4 = .ok (.ireturn, 1) := by decide +kernel
theorem d_M_expression_0 : decode b_M_expression 0 = .ok (.aload_n 0, 1) := by decide +kernel
theorem d_M_expression_1 : decode b_M_expression 1 = .ok (.iconst 0, 1) := by decide +kernel
theorem d_M_expression_2 : decode b_M_expression 2 = .ok (.putfield 50, 3) := by decide +kernel
theorem d_M_expression_5 : decode b_M_expression 5 = .ok (.aload_n 0, 1) := by decide +kernel
theorem d_M_expression_6 : decode b_M_expression 6 = .ok (.iload_n 1, 1) := by decide +kernel
theorem d_M_expression_7 : decode b_M_expression 7 = .ok (.iload_n 2, 1) := by decide +kernel
theorem d_M_expression_8 : decode b_M_expression 8 = .ok (.iload_n 3, 1) := by decide +kernel
theorem d_M_expression_9 : decode b_M_expression 9 = .ok (.iload 4, 2) := by decide +kernel
theorem d_M_expression_11 : decode b_M_expression 11 = .ok (.invokevirtual 113, 3) := by decide +kernel
theorem d_M_expression_14 : decode b_M_expression 14 = .ok (.ifCond .ne 9, 3) := by decide +kernel
theorem d_M_expression_17 : decode b_M_expression 17 = .ok (.aload_n 0, 1) := by decide +kernel
theorem d_M_expression_18 : decode b_M_expression 18 = .ok (.iconst 1, 1) := by decide +kernel
theorem d_M_expression_19 : decode b_M_expression 19 = .ok (.invokevirtual 117, 3) := by decide +kernel
theorem d_M_expression_22 : decode b_M_expression 22 = .ok (.ireturn, 1) := by decide +kernel
theorem d_M_expression_23 : decode b_M_expression 23 = .ok (.aload_n 0, 1) := by decide +kernel
theorem d_M_expression_24 : decode b_M_expression 24 = .ok (.iload_n 1, 1) := by decide +kernel
theorem d_M_expression_25 : decode b_M_expression 25 = .ok (.iload_n 2, 1) := by decide +kernel
theorem d_M_expression_26 : decode b_M_expression 26 = .ok (.iload_n 3, 1) := by decide +kernel
theorem d_M_expression_27 : decode b_M_expression 27 = .ok (.iload 4, 2) := by decide +kernel
theorem d_M_expression_29 : decode b_M_expression 29 = .ok (.invokevirtual 120, 3) := by decide +kernel
theorem d_M_expression_32 : decode b_M_expression 32 = .ok (.istore 5, 2) := by decide +kernel
theorem d_M_expression_34 : decode b_M_expression 34 = .ok (.aload_n 0, 1) := by decide +kernel
theorem d_M_expression_35 : decode b_M_expression 35 = .ok (.getfield 53, 3) := by decide +kernel
theorem d_M_expression_38 : decode b_M_expression 38 = .ok (.bipush 60, 2) := by decide +kernel
theorem d_M_expression_40 : decode b_M_expression 40 = .ok (.if_icmp .eq 32, 3) := by decide +kernel
theorem d_M_expression_43 : decode b_M_expression 43 = .ok (.aload_n 0, 1) := by decide +kernel
theorem d_M_expression_44 : decode b_M_expression 44 = .ok (.getfield 28, 3) := by decide +kernel
theorem d_M_expression_47 : decode b_M_expression 47 = .ok (.iload 5, 2) := by decide +kernel
theorem d_M_expression_49 : decode b_M_expression 49 = .ok (.iadd, 1) := by decide +kernel
theorem d_M_expression_50 : decode b_M_expression 50 = .ok (.bipush 60, 2) := by decide +kernel
theorem d_M_expression_52 : decode b_M_expression 52 = .ok (.if_icmp .gt 20, 3) := by decide +kernel
theorem d_M_expression_55 : decode b_M_expression 55 = .ok (.iload_n 1, 1) := by decide +kernel
theorem d_M_expression_56 : decode b_M_expression 56 = .ok (.iconst 1, 1) := by decide +kernel
theorem d_M_expression_57 : decode b_M_expression 57 = .ok (.if_icmp .eq 21, 3) := by decide +kernel
theorem d_M_expression_60 : decode b_M_expression 60 = .ok (.aload_n 0, 1) := by decide +kernel
theorem d_M_expression_61 : decode b_M_expression 61 = .ok (.getfield 72, 3) := by decide +kernel
theorem d_M_expression_64 : decode b_M_expression 64 = .ok (.iload 5, 2) := by decide +kernel
theorem d_M_expression_66 : decode b_M_expression 66 = .ok (.iadd, 1) := by decide +kernel
theorem d_M_expression_67 : decode b_M_expression 67 = .ok (.bipush 80, 2) := by decide +kernel
theorem d_M_expression_69 : decode b_M_expression 69 = .ok (.if_icmp .le 9, 3) := by decide +kernel
theorem d_M_expression_72 : decode b_M_expression 72 = .ok (.aload_n 0, 1) := by decide +kernel
theorem d_M_expression_73 : decode b_M_expression 73 = .ok (.iconst 2, 1) := by decide +kernel
theorem d_M_expression_74 : decode b_M_expression 74 = .ok (.invokevirtual 117, 3) := by decide +kernel
theorem d_M_expression_77 : decode b_M_expression 77 = .ok (.ireturn, 1) := by decide +kernel
theorem d_M_expression_78 : decode b_M_expression 78 = .ok (.aload_n 0, 1) := by decide +kernel
theorem d_M_expression_79 : decode b_M_expression 79 = .ok (.iload_n 1, 1) := by decide +kernel
theorem d_M_expression_80 : decode b_M_expression 80 = .ok (.iload_n 2, 1) := by decide +kernel
theorem d_M_expression_81 : decode b_M_expression 81 = .ok (.iload_n 3, 1) := by decide +kernel
theorem d_M_expression_82 : decode b_M_expression 82 = .ok (.iload 4, 2) := by decide +kernel
theorem d_M_expression_84 : decode b_M_expression 84 = .ok (.invokevirtual 124, 3) := by decide +kernel
theorem d_M_expression_87 : decode b_M_expression 87 = .ok (.aload_n 0, 1) := by decide +kernel
theorem d_M_expression_88 : decode b_M_expression 88 = .ok (.getfield 13, 3) := by decide +kernel
theorem d_M_expression_91 : decode b_M_expression 91 = .ok (.aload_n 0, 1) := by decide +kernel
theorem d_M_expression_92 : decode b_M_expression 92 = .ok (.getfield 53, 3) := by decide +kernel
theorem d_M_expression_95 : decode b_M_expression 95 = .ok (.iload_n 1, 1) := by decide +kernel
theorem d_M_expression_96 : decode b_M_expression 96 = .ok (.iastore, 1) := by decide +kernel
theorem d_M_expression_97 : decode b_M_expression 97 = .ok (.iconst 0, 1) := by decide +kernel
theorem d_M_expression_98 : decode b_M_expression 98 = .ok (.istore 6, 2) := by decide +kernel
theorem d_M_expression_100 : decode b_M_expression 100 = .ok (.iload 6, 2) := by decide +kernel
theorem d_M_expression_102 : decode b_M_expression 102 = .ok (.bipush 60, 2) := by decide +kernel
theorem d_M_expression_104 : decode b_M_expression 104 = .ok (.if_icmp .ge 31, 3) := by decide +kernel
theorem d_M_expression_107 : decode b_M_expression 107 = .ok (.aload_n 0, 1) := by decide +kernel
theorem d_M_expression_108 : decode b_M_expression 108 = .ok (.getfield 7, 3) := by decide +kernel
theorem d_M_expression_111 : decode b_M_expression 111 = .ok (.bipush 60, 2) := by decide +kernel
theorem d_M_expression_113 : decode b_M_expression 113 = .ok (.aload_n 0, 1) := by decide +kernel
theorem d_M_expression_114 : decode b_M_expression 114 = .ok (.getfield 53, 3) := by decide +kernel
theorem d_M_expression_117 : decode b_M_expression 117 = .ok (.imul, 1) := by decide +kernel
theorem d_M_expression_118 : decode b_M_expression 118 = .ok (.iload 6, 2) := by decide +kernel
theorem d_M_expression_120 : decode b_M_expression 120 = .ok (.iadd, 1) := by decide +kernel
theorem d_M_expression_121 : decode b_M_expression 121 = .ok (.aload_n 0, 1) := by decide +kernel
theorem d_M_expression_122 : decode b_M_expression 122 = .ok (.getfield 35, 3) := by decide +kernel
theorem d_M_expression_125 : decode b_M_expression 125 = .ok (.iload 6, 2) := by decide +kernel
theorem d_M_expression_127 : decode b_M_expression 127 = .ok (.iaload, 1) := by decide +kernel
theorem d_M_expression_128 : decode b_M_expression 128 = .ok (.iastore, 1) := by decide +kernel
theorem d_M_expression_129 : decode b_M_expression 129 = .ok (.iinc 6 1, 3) := by decide +kernel
theorem d_M_expression_132 : decode b_M_expression 132 = .ok (.goto (-32), 3) := by decide +kernel
theorem d_M_expression_135 : decode b_M_expression 135 = .ok (.aload_n 0, 1) := by decide +kernel
theorem d_M_expression_136 : decode b_M_expression 136 = .ok (.dup, 1) := by decide +kernel
theorem d_M_expression_137 : decode b_M_expression 137 = .ok (.getfield 53, 3) := by decide +kernel
theorem d_M_expression_140 : decode b_M_expression 140 = .ok (.iconst 1, 1) := by decide +kernel
theorem d_M_expression_141 : decode b_M_expression 141 = .ok (.iadd, 1) := by decide +kernel
theorem d_M_expression_142 : decode b_M_expression 142 = .ok (.putfield 53, 3) := by decide +kernel
theorem d_M_expression_145 : decode b_M_expression 145 = .ok (.aload_n 0, 1) := by decide +kernel
theorem d_M_expression_146 : decode b_M_expression 146 = .ok (.getfield 53, 3) := by decide +kernel
theorem d_M_expression_149 : decode b_M_expression 149 = .ok (.iconst 1, 1) := by decide +kernel
theorem d_M_expression_150 : decode b_M_expression 150 = .ok (.isub, 1) := by decide +kernel
theorem d_M_expression_151 : decode b_M_expression 151 = .ok (.ireturn, 1) := by decide +kernel
theorem d_M_fits_0 : decode b_M_fits 0 = .ok (.iload_n 1, 1) := by decide +kernel
theorem d_M_fits_1 : decode b_M_fits 1 = .ok (.iconst 0, 1) := by decide +kernel
theorem d_M_fits_2 : decode b_M_fits 2 = .ok (.bipush 9, 2) := by decide +kernel
theorem d_M_fits_4 : decode b_M_fits 4 = .ok (.invokestatic 56, 3) := by decide +kernel
theorem d_M_fits_7 : decode b_M_fits 7 = .ok (.ifCond .ne 5, 3) := by decide +kernel
theorem d_M_fits_10 : decode b_M_fits 10 = .ok (.iconst 0, 1) := by decide +kernel
theorem d_M_fits_11 : decode b_M_fits 11 = .ok (.ireturn, 1) := by decide +kernel
theorem d_M_fits_12 : decode b_M_fits 12 = .ok (.iload_n 1, 1) := by decide +kernel
theorem d_M_fits_13 : decode b_M_fits 13 = .ok (.iconst 2, 1) := by decide +kernel
theorem d_M_fits_14 : decode b_M_fits 14 = .ok (.if_icmp .ge 5, 3) := by decide +kernel
theorem d_M_fits_17 : decode b_M_fits 17 = .ok (.iconst 1, 1) := by decide +kernel
theorem d_M_fits_18 : decode b_M_fits 18 = .ok (.ireturn, 1) := by decide +kernel
theorem d_M_fits_19 : decode b_M_fits 19 = .ok (.aload_n 0, 1) := by decide +kernel
theorem d_M_fits_20 : decode b_M_fits 20 = .ok (.iload_n 2, 1) := by decide +kernel
theorem d_M_fits_21 : decode b_M_fits 21 = .ok (.invokevirtual 86, 3) := by decide +kernel
theorem d_M_fits_24 : decode b_M_fits 24 = .ok (.ifCond .eq 32, 3) := by decide +kernel
theorem d_M_fits_27 : decode b_M_fits 27 = .ok (.iload_n 1, 1) := by decide +kernel
theorem d_M_fits_28 : decode b_M_fits 28 = .ok (.bipush 8, 2) := by decide +kernel
theorem d_M_fits_30 : decode b_M_fits 30 = .ok (.if_icmp .ge 11, 3) := by decide +kernel
theorem d_M_fits_33 : decode b_M_fits 33 = .ok (.aload_n 0, 1) := by decide +kernel
theorem d_M_fits_34 : decode b_M_fits 34 = .ok (.iload_n 3, 1) := by decide +kernel
theorem d_M_fits_35 : decode b_M_fits 35 = .ok (.invokevirtual 86, 3) := by decide +kernel
theorem d_M_fits_38 : decode b_M_fits 38 = .ok (.ifCond .eq 18, 3) := by decide +kernel
theorem d_M_fits_41 : decode b_M_fits 41 = .ok (.iload_n 1, 1) := by decide +kernel
theorem d_M_fits_42 : decode b_M_fits 42 = .ok (.bipush 7, 2) := by decide +kernel
theorem d_M_fits_44 : decode b_M_fits 44 = .ok (.if_icmp .ne 14, 3) := by decide +kernel
theorem d_M_fits_47 : decode b_M_fits 47 = .ok (.aload_n 0, 1) := by decide +kernel
theorem d_M_fits_48 : decode b_M_fits 48 = .ok (.iload 4, 2) := by decide +kernel
theorem d_M_fits_50 : decode b_M_fits 50 = .ok (.invokevirtual 86, 3) := by decide +kernel
theorem d_M_fits_53 : decode b_M_fits 53 = .ok (.ifCond .ne 5, 3) := by decide +kernel
theorem d_M_fits_56 : decode b_M_fits 56 = .ok (.iconst 0, 1) := by decide +kernel
theorem d_M_fits_57 : decode b_M_fits 57 = .ok (.ireturn, 1) := by decide +kernel
theorem d_M_fits_58 : decode b_M_fits 58 = .ok (.iload_n 1, 1) := by decide +kernel
theorem d_M_fits_59 : decode b_M_fits 59 = .ok (.bipush 9, 2) := by decide +kernel
theorem d_M_fits_61 : decode b_M_fits 61 = .ok (.if_icmp .ne 12, 3) := by decide +kernel
theorem d_M_fits_64 : decode b_M_fits 64 = .ok (.iload_n 3, 1) := by decide +kernel
theorem d_M_fits_65 : decode b_M_fits 65 = .ok (.iconst 1, 1) := by decide +kernel
theorem d_M_fits_66 : decode b_M_fits 66 = .ok (.iconst 5, 1) := by decide +kernel
theorem d_M_fits_67 : decode b_M_fits 67 = .ok (.invokestatic 56, 3) := by decide +kernel
theorem d_M_fits_70 : decode b_M_fits 70 = .ok (.ifCond .eq 7, 3) := by decide +kernel
theorem d_M_fits_73 : decode b_M_fits 73 = .ok (.iconst 1, 1) := by decide +kernel
theorem d_M_fits_74 : decode b_M_fits 74 = .ok (.goto 4, 3) := by decide +kernel
theorem d_M_fits_77 : decode b_M_fits 77 = .ok (.iconst 0, 1) := by decide +kernel
theorem d_M_fits_78 : decode b_M_fits 78 = .ok (.ireturn, 1) := by decide +kernel
theorem d_M_in_0 : decode b_M_in 0 = .ok (.iload_n 0, 1) := by decide +kernel
theorem d_M_in_1 : decode b_M_in 1 = .ok (.iload_n 1, 1) := by decide +kernel
theorem d_M_in_2 : decode b_M_in 2 = .ok (.if_icmp .lt 12, 3) := by decide +kernel
theorem d_M_in_5 : decode b_M_in 5 = .ok (.iload_n 0, 1) := by decide +kernel
theorem d_M_in_6 : decode b_M_in 6 = .ok (.iload_n 2, 1) := by decide +kernel
theorem d_M_in_7 : decode b_M_in 7 = .ok (.if_icmp .gt 7, 3) := by decide +kernel
theorem d_M_in_10 : decode b_M_in 10 = .ok (.iconst 1, 1) := by decide +kernel
theorem d_M_in_11 : decode b_M_in 11 = .ok (.goto 4, 3) := by decide +kernel
theorem d_M_in_14 : decode b_M_in 14 = .ok (.iconst 0, 1) := by decide +kernel
theorem d_M_in_15 : decode b_M_in 15 = .ok (.ireturn, 1) := by decide +kernel
theorem d_M_made_0 : decode b_M_made 0 = .ok (.iload_n 1, 1) := by decide +kernel
theorem d_M_made_1 : decode b_M_made 1 = .ok (.iconst 0, 1) := by decide +kernel
theorem d_M_made_2 : decode b_M_made 2 = .ok (.aload_n 0, 1) := by decide +kernel
theorem d_M_made_3 : decode b_M_made 3 = .ok (.getfield 53, 3) := by decide +kernel
theorem d_M_made_6 : decode b_M_made 6 = .ok (.iconst 1, 1) := by decide +kernel
theorem d_M_made_7 : decode b_M_made 7 = .ok (.isub, 1) := by decide +kernel
theorem d_M_made_8 : decode b_M_made 8 = .ok (.invokestatic 56, 3) := by decide +kernel
theorem d_M_made_11 : decode b_M_made 11 = .ok (.ireturn, 1) := by decide +kernel
theorem d_M_raise_0 : decode b_M_raise 0 = .ok (.aload_n 0, 1) := by decide +kernel
theorem d_M_raise_1 : decode b_M_raise 1 = .ok (.iload_n 1, 1) := by decide +kernel
theorem d_M_raise_2 : decode b_M_raise 2 = .ok (.putfield 50, 3) := by decide +kernel
theorem d_M_raise_5 : decode b_M_raise 5 = .ok (.iconst 0, 1) := by decide +kernel
theorem d_M_raise_6 : decode b_M_raise 6 = .ok (.ireturn, 1) := by decide +kernel
theorem d_M_needs_0 : decode b_M_needs 0 = .ok (.iload_n 1, 1) := by decide +kernel
theorem d_M_needs_1 : decode b_M_needs 1 = .ok (.tableswitch 110 1 9 #[51, 110, 110, 53, 75, 75, 77, 110, 94], 51) := by decide +kernel
theorem d_M_needs_52 : decode b_M_needs 52 = .ok (.iconst 1, 1) := by decide +kernel
theorem d_M_needs_53 : decode b_M_needs 53 = .ok (.ireturn, 1) := by decide +kernel
theorem d_M_needs_54 : decode b_M_needs 54 = .ok (.aload_n 0, 1) := by decide +kernel
theorem d_M_needs_55 : decode b_M_needs 55 = .ok (.iload_n 2, 1) := by decide +kernel
theorem d_M_needs_56 : decode b_M_needs 56 = .ok (.invokevirtual 94, 3) := by decide +kernel
theorem d_M_needs_59 : decode b_M_needs 59 = .ok (.ifCond .ne 11, 3) := by decide +kernel
theorem d_M_needs_62 : decode b_M_needs 62 = .ok (.aload_n 0, 1) := by decide +kernel
theorem d_M_needs_63 : decode b_M_needs 63 = .ok (.iload_n 3, 1) := by decide +kernel
theorem d_M_needs_64 : decode b_M_needs 64 = .ok (.invokevirtual 94, 3) := by decide +kernel
theorem d_M_needs_67 : decode b_M_needs 67 = .ok (.ifCond .eq 7, 3) := by decide +kernel
theorem d_M_needs_70 : decode b_M_needs 70 = .ok (.iconst 0, 1) := by decide +kernel
theorem d_M_needs_71 : decode b_M_needs 71 = .ok (.goto 4, 3) := by decide +kernel
theorem d_M_needs_74 : decode b_M_needs 74 = .ok (.iconst 1, 1) := by decide +kernel
theorem d_M_needs_75 : decode b_M_needs 75 = .ok (.ireturn, 1) := by decide +kernel
theorem d_M_needs_76 : decode b_M_needs 76 = .ok (.iconst 2, 1) := by decide +kernel
theorem d_M_needs_77 : decode b_M_needs 77 = .ok (.ireturn, 1) := by decide +kernel
theorem d_M_needs_78 : decode b_M_needs 78 = .ok (.aload_n 0, 1) := by decide +kernel
theorem d_M_needs_79 : decode b_M_needs 79 = .ok (.iload_n 2, 1) := by decide +kernel
theorem d_M_needs_80 : decode b_M_needs 80 = .ok (.iload_n 3, 1) := by decide +kernel
theorem d_M_needs_81 : decode b_M_needs 81 = .ok (.iload 4, 2) := by decide +kernel
theorem d_M_needs_83 : decode b_M_needs 83 = .ok (.invokevirtual 97, 3) := by decide +kernel
theorem d_M_needs_86 : decode b_M_needs 86 = .ok (.ifCond .eq 7, 3) := by decide +kernel
theorem d_M_needs_89 : decode b_M_needs 89 = .ok (.iconst 0, 1) := by decide +kernel
theorem d_M_needs_90 : decode b_M_needs 90 = .ok (.goto 4, 3) := by decide +kernel
theorem d_M_needs_93 : decode b_M_needs 93 = .ok (.iconst 1, 1) := by decide +kernel
theorem d_M_needs_94 : decode b_M_needs 94 = .ok (.ireturn, 1) := by decide +kernel
theorem d_M_needs_95 : decode b_M_needs 95 = .ok (.aload_n 0, 1) := by decide +kernel
theorem d_M_needs_96 : decode b_M_needs 96 = .ok (.iload_n 2, 1) := by decide +kernel
theorem d_M_needs_97 : decode b_M_needs 97 = .ok (.invokevirtual 94, 3) := by decide +kernel
theorem d_M_needs_100 : decode b_M_needs 100 = .ok (.ifCond .eq 7, 3) := by decide +kernel
theorem d_M_needs_103 : decode b_M_needs 103 = .ok (.iconst 0, 1) := by decide +kernel
theorem d_M_needs_104 : decode b_M_needs 104 = .ok (.goto 6, 3) := by decide +kernel
theorem d_M_needs_107 : decode b_M_needs 107 = .ok (.iload_n 3, 1) := by decide +kernel
theorem d_M_needs_108 : decode b_M_needs 108 = .ok (.iconst 1, 1) := by decide +kernel
theorem d_M_needs_109 : decode b_M_needs 109 = .ok (.isub, 1) := by decide +kernel
theorem d_M_needs_110 : decode b_M_needs 110 = .ok (.ireturn, 1) := by decide +kernel
theorem d_M_needs_111 : decode b_M_needs 111 = .ok (.iconst 0, 1) := by decide +kernel
theorem d_M_needs_112 : decode b_M_needs 112 = .ok (.ireturn, 1) := by decide +kernel
theorem d_M_isConstant_0 : decode b_M_isConstant 0 = .ok (.iconst 1, 1) := by decide +kernel
theorem d_M_isConstant_1 : decode b_M_isConstant 1 = .ok (.istore_n 2, 1) := by decide +kernel
theorem d_M_isConstant_2 : decode b_M_isConstant 2 = .ok (.iload_n 2, 1) := by decide +kernel
theorem d_M_isConstant_3 : decode b_M_isConstant 3 = .ok (.bipush 60, 2) := by decide +kernel
theorem d_M_isConstant_5 : decode b_M_isConstant 5 = .ok (.if_icmp .ge 25, 3) := by decide +kernel
theorem d_M_isConstant_8 : decode b_M_isConstant 8 = .ok (.aload_n 0, 1) := by decide +kernel
theorem d_M_isConstant_9 : decode b_M_isConstant 9 = .ok (.getfield 7, 3) := by decide +kernel
theorem d_M_isConstant_12 : decode b_M_isConstant 12 = .ok (.bipush 60, 2) := by decide +kernel
theorem d_M_isConstant_14 : decode b_M_isConstant 14 = .ok (.iload_n 1, 1) := by decide +kernel
theorem d_M_isConstant_15 : decode b_M_isConstant 15 = .ok (.imul, 1) := by decide +kernel
theorem d_M_isConstant_16 : decode b_M_isConstant 16 = .ok (.iload_n 2, 1) := by decide +kernel
end
section
theorem d_M_isConstant_17 : decode b_M_isConstant 17 = .ok (.iadd, 1) := by decide +kernel
theorem d_M_isConstant_18 : decode b_M_isConstant 18 = .ok (.iaload, 1) := by decide +kernel
theorem d_M_isConstant_19 : decode b_M_isConstant 19 = .ok (.ifCond .eq 5, 3) := by decide +kernel
theorem d_M_isConstant_22 : decode b_M_isConstant 22 = .ok (.iconst 0, 1) := by decide +kernel
theorem d_M_isConstant_23 : decode b_M_isConstant 23 = .ok (.ireturn, 1) := by decide +kernel
theorem d_M_isConstant_24 : decode b_M_isConstant 24 = .ok (.iinc 2 1, 3) := by decide +kernel
theorem d_M_isConstant_27 : decode b_M_isConstant 27 = .ok (.goto (-25), 3) := by decide +kernel
theorem d_M_isConstant_30 : decode b_M_isConstant 30 = .ok (.iconst 1, 1) := by decide +kernel
theorem d_M_isConstant_31 : decode b_M_isConstant 31 = .ok (.ireturn, 1) := by decide +kernel
theorem d_M_plainEither_0 : decode b_M_plainEither 0 = .ok (.aload_n 0, 1) := by decide +kernel
theorem d_M_plainEither_1 : decode b_M_plainEither 1 = .ok (.getfield 41, 3) := by decide +kernel
theorem d_M_plainEither_4 : decode b_M_plainEither 4 = .ok (.iconst 0, 1) := by decide +kernel
theorem d_M_plainEither_5 : decode b_M_plainEither 5 = .ok (.invokestatic 64, 3) := by decide +kernel
theorem d_M_plainEither_8 : decode b_M_plainEither 8 = .ok (.aload_n 0, 1) := by decide +kernel
theorem d_M_plainEither_9 : decode b_M_plainEither 9 = .ok (.aload_n 0, 1) := by decide +kernel
theorem d_M_plainEither_10 : decode b_M_plainEither 10 = .ok (.getfield 41, 3) := by decide +kernel
theorem d_M_plainEither_13 : decode b_M_plainEither 13 = .ok (.iload_n 1, 1) := by decide +kernel
theorem d_M_plainEither_14 : decode b_M_plainEither 14 = .ok (.iconst 1, 1) := by decide +kernel
theorem d_M_plainEither_15 : decode b_M_plainEither 15 = .ok (.invokevirtual 90, 3) := by decide +kernel
theorem d_M_plainEither_18 : decode b_M_plainEither 18 = .ok (.aload_n 0, 1) := by decide +kernel
theorem d_M_plainEither_19 : decode b_M_plainEither 19 = .ok (.aload_n 0, 1) := by decide +kernel
theorem d_M_plainEither_20 : decode b_M_plainEither 20 = .ok (.getfield 41, 3) := by decide +kernel
theorem d_M_plainEither_23 : decode b_M_plainEither 23 = .ok (.iload_n 2, 1) := by decide +kernel
theorem d_M_plainEither_24 : decode b_M_plainEither 24 = .ok (.bipush 96, 2) := by decide +kernel
theorem d_M_plainEither_26 : decode b_M_plainEither 26 = .ok (.invokevirtual 90, 3) := by decide +kernel
theorem d_M_plainEither_29 : decode b_M_plainEither 29 = .ok (.aload_n 0, 1) := by decide +kernel
theorem d_M_plainEither_30 : decode b_M_plainEither 30 = .ok (.iload_n 3, 1) := by decide +kernel
theorem d_M_plainEither_31 : decode b_M_plainEither 31 = .ok (.invokevirtual 94, 3) := by decide +kernel
theorem d_M_plainEither_34 : decode b_M_plainEither 34 = .ok (.ifCond .ne 13, 3) := by decide +kernel
theorem d_M_plainEither_37 : decode b_M_plainEither 37 = .ok (.aload_n 0, 1) := by decide +kernel
theorem d_M_plainEither_38 : decode b_M_plainEither 38 = .ok (.getfield 41, 3) := by decide +kernel
theorem d_M_plainEither_41 : decode b_M_plainEither 41 = .ok (.invokestatic 68, 3) := by decide +kernel
theorem d_M_plainEither_44 : decode b_M_plainEither 44 = .ok (.ifCond .eq 7, 3) := by decide +kernel
theorem d_M_plainEither_47 : decode b_M_plainEither 47 = .ok (.iconst 1, 1) := by decide +kernel
theorem d_M_plainEither_48 : decode b_M_plainEither 48 = .ok (.goto 4, 3) := by decide +kernel
theorem d_M_plainEither_51 : decode b_M_plainEither 51 = .ok (.iconst 0, 1) := by decide +kernel
theorem d_M_plainEither_52 : decode b_M_plainEither 52 = .ok (.ireturn, 1) := by decide +kernel
theorem d_M_number_0 : decode b_M_number 0 = .ok (.iconst 0, 1) := by decide +kernel
theorem d_M_number_1 : decode b_M_number 1 = .ok (.istore_n 2, 1) := by decide +kernel
theorem d_M_number_2 : decode b_M_number 2 = .ok (.iload_n 2, 1) := by decide +kernel
theorem d_M_number_3 : decode b_M_number 3 = .ok (.bipush 60, 2) := by decide +kernel
theorem d_M_number_5 : decode b_M_number 5 = .ok (.if_icmp .ge 13, 3) := by decide +kernel
theorem d_M_number_8 : decode b_M_number 8 = .ok (.aload_n 0, 1) := by decide +kernel
theorem d_M_number_9 : decode b_M_number 9 = .ok (.iload_n 2, 1) := by decide +kernel
theorem d_M_number_10 : decode b_M_number 10 = .ok (.iconst 0, 1) := by decide +kernel
theorem d_M_number_11 : decode b_M_number 11 = .ok (.iastore, 1) := by decide +kernel
theorem d_M_number_12 : decode b_M_number 12 = .ok (.iinc 2 1, 3) := by decide +kernel
theorem d_M_number_15 : decode b_M_number 15 = .ok (.goto (-13), 3) := by decide +kernel
theorem d_M_number_18 : decode b_M_number 18 = .ok (.aload_n 0, 1) := by decide +kernel
theorem d_M_number_19 : decode b_M_number 19 = .ok (.iconst 0, 1) := by decide +kernel
theorem d_M_number_20 : decode b_M_number 20 = .ok (.iload_n 1, 1) := by decide +kernel
theorem d_M_number_21 : decode b_M_number 21 = .ok (.invokestatic 60, 3) := by decide +kernel
theorem d_M_number_24 : decode b_M_number 24 = .ok (.iastore, 1) := by decide +kernel
theorem d_M_number_25 : decode b_M_number 25 = .ok (.return_, 1) := by decide +kernel
theorem d_M_rest_0 : decode b_M_rest 0 = .ok (.iload_n 0, 1) := by decide +kernel
theorem d_M_rest_1 : decode b_M_rest 1 = .ok (.bipush 97, 2) := by decide +kernel
theorem d_M_rest_3 : decode b_M_rest 3 = .ok (.irem, 1) := by decide +kernel
theorem d_M_rest_4 : decode b_M_rest 4 = .ok (.bipush 97, 2) := by decide +kernel
theorem d_M_rest_6 : decode b_M_rest 6 = .ok (.iadd, 1) := by decide +kernel
theorem d_M_rest_7 : decode b_M_rest 7 = .ok (.bipush 97, 2) := by decide +kernel
theorem d_M_rest_9 : decode b_M_rest 9 = .ok (.irem, 1) := by decide +kernel
theorem d_M_rest_10 : decode b_M_rest 10 = .ok (.ireturn, 1) := by decide +kernel
theorem d_M_add_0 : decode b_M_add 0 = .ok (.iconst 0, 1) := by decide +kernel
theorem d_M_add_1 : decode b_M_add 1 = .ok (.istore 4, 2) := by decide +kernel
theorem d_M_add_3 : decode b_M_add 3 = .ok (.iload 4, 2) := by decide +kernel
theorem d_M_add_5 : decode b_M_add 5 = .ok (.bipush 60, 2) := by decide +kernel
theorem d_M_add_7 : decode b_M_add 7 = .ok (.if_icmp .ge 35, 3) := by decide +kernel
theorem d_M_add_10 : decode b_M_add 10 = .ok (.aload_n 1, 1) := by decide +kernel
theorem d_M_add_11 : decode b_M_add 11 = .ok (.iload 4, 2) := by decide +kernel
theorem d_M_add_13 : decode b_M_add 13 = .ok (.aload_n 1, 1) := by decide +kernel
theorem d_M_add_14 : decode b_M_add 14 = .ok (.iload 4, 2) := by decide +kernel
theorem d_M_add_16 : decode b_M_add 16 = .ok (.iaload, 1) := by decide +kernel
theorem d_M_add_17 : decode b_M_add 17 = .ok (.iload_n 3, 1) := by decide +kernel
theorem d_M_add_18 : decode b_M_add 18 = .ok (.aload_n 0, 1) := by decide +kernel
theorem d_M_add_19 : decode b_M_add 19 = .ok (.getfield 7, 3) := by decide +kernel
theorem d_M_add_22 : decode b_M_add 22 = .ok (.bipush 60, 2) := by decide +kernel
theorem d_M_add_24 : decode b_M_add 24 = .ok (.iload_n 2, 1) := by decide +kernel
theorem d_M_add_25 : decode b_M_add 25 = .ok (.imul, 1) := by decide +kernel
theorem d_M_add_26 : decode b_M_add 26 = .ok (.iload 4, 2) := by decide +kernel
theorem d_M_add_28 : decode b_M_add 28 = .ok (.iadd, 1) := by decide +kernel
theorem d_M_add_29 : decode b_M_add 29 = .ok (.iaload, 1) := by decide +kernel
theorem d_M_add_30 : decode b_M_add 30 = .ok (.imul, 1) := by decide +kernel
theorem d_M_add_31 : decode b_M_add 31 = .ok (.iadd, 1) := by decide +kernel
theorem d_M_add_32 : decode b_M_add 32 = .ok (.invokestatic 60, 3) := by decide +kernel
theorem d_M_add_35 : decode b_M_add 35 = .ok (.iastore, 1) := by decide +kernel
theorem d_M_add_36 : decode b_M_add 36 = .ok (.iinc 4 1, 3) := by decide +kernel
theorem d_M_add_39 : decode b_M_add 39 = .ok (.goto (-36), 3) := by decide +kernel
theorem d_M_add_42 : decode b_M_add 42 = .ok (.return_, 1) := by decide +kernel
theorem d_M_constant_0 : decode b_M_constant 0 = .ok (.iconst 1, 1) := by decide +kernel
theorem d_M_constant_1 : decode b_M_constant 1 = .ok (.istore_n 1, 1) := by decide +kernel
theorem d_M_constant_2 : decode b_M_constant 2 = .ok (.iload_n 1, 1) := by decide +kernel
theorem d_M_constant_3 : decode b_M_constant 3 = .ok (.bipush 60, 2) := by decide +kernel
theorem d_M_constant_5 : decode b_M_constant 5 = .ok (.if_icmp .ge 17, 3) := by decide +kernel
theorem d_M_constant_8 : decode b_M_constant 8 = .ok (.aload_n 0, 1) := by decide +kernel
theorem d_M_constant_9 : decode b_M_constant 9 = .ok (.iload_n 1, 1) := by decide +kernel
theorem d_M_constant_10 : decode b_M_constant 10 = .ok (.iaload, 1) := by decide +kernel
theorem d_M_constant_11 : decode b_M_constant 11 = .ok (.ifCond .eq 5, 3) := by decide +kernel
theorem d_M_constant_14 : decode b_M_constant 14 = .ok (.iconst 0, 1) := by decide +kernel
theorem d_M_constant_15 : decode b_M_constant 15 = .ok (.ireturn, 1) := by decide +kernel
theorem d_M_constant_16 : decode b_M_constant 16 = .ok (.iinc 1 1, 3) := by decide +kernel
theorem d_M_constant_19 : decode b_M_constant 19 = .ok (.goto (-17), 3) := by decide +kernel
theorem d_M_constant_22 : decode b_M_constant 22 = .ok (.iconst 1, 1) := by decide +kernel
theorem d_M_constant_23 : decode b_M_constant 23 = .ok (.ireturn, 1) := by decide +kernel
theorem d_M_work_0 : decode b_M_work 0 = .ok (.iload_n 1, 1) := by decide +kernel
theorem d_M_work_1 : decode b_M_work 1 = .ok (.tableswitch 237 0 8 #[51, 62, 93, 93, 125, 150, 159, 168, 215], 51) := by decide +kernel
theorem d_M_work_52 : decode b_M_work 52 = .ok (.aload_n 0, 1) := by decide +kernel
theorem d_M_work_53 : decode b_M_work 53 = .ok (.getfield 35, 3) := by decide +kernel
theorem d_M_work_56 : decode b_M_work 56 = .ok (.iload_n 2, 1) := by decide +kernel
theorem d_M_work_57 : decode b_M_work 57 = .ok (.invokestatic 64, 3) := by decide +kernel
theorem d_M_work_60 : decode b_M_work 60 = .ok (.goto 215, 3) := by decide +kernel
theorem d_M_work_63 : decode b_M_work 63 = .ok (.aload_n 0, 1) := by decide +kernel
theorem d_M_work_64 : decode b_M_work 64 = .ok (.getfield 16, 3) := by decide +kernel
theorem d_M_work_67 : decode b_M_work 67 = .ok (.aload_n 0, 1) := by decide +kernel
theorem d_M_work_68 : decode b_M_work 68 = .ok (.getfield 53, 3) := by decide +kernel
theorem d_M_work_71 : decode b_M_work 71 = .ok (.aload_n 0, 1) := by decide +kernel
theorem d_M_work_72 : decode b_M_work 72 = .ok (.iconst 0, 1) := by decide +kernel
theorem d_M_work_73 : decode b_M_work 73 = .ok (.iconst 0, 1) := by decide +kernel
theorem d_M_work_74 : decode b_M_work 74 = .ok (.invokevirtual 75, 3) := by decide +kernel
theorem d_M_work_77 : decode b_M_work 77 = .ok (.iastore, 1) := by decide +kernel
theorem d_M_work_78 : decode b_M_work 78 = .ok (.aload_n 0, 1) := by decide +kernel
theorem d_M_work_79 : decode b_M_work 79 = .ok (.getfield 35, 3) := by decide +kernel
theorem d_M_work_82 : decode b_M_work 82 = .ok (.aload_n 0, 1) := by decide +kernel
theorem d_M_work_83 : decode b_M_work 83 = .ok (.getfield 28, 3) := by decide +kernel
theorem d_M_work_86 : decode b_M_work 86 = .ok (.iconst 1, 1) := by decide +kernel
theorem d_M_work_87 : decode b_M_work 87 = .ok (.isub, 1) := by decide +kernel
theorem d_M_work_88 : decode b_M_work 88 = .ok (.invokestatic 83, 3) := by decide +kernel
theorem d_M_work_91 : decode b_M_work 91 = .ok (.goto 184, 3) := by decide +kernel
theorem d_M_work_94 : decode b_M_work 94 = .ok (.aload_n 0, 1) := by decide +kernel
theorem d_M_work_95 : decode b_M_work 95 = .ok (.aload_n 0, 1) := by decide +kernel
theorem d_M_work_96 : decode b_M_work 96 = .ok (.getfield 35, 3) := by decide +kernel
theorem d_M_work_99 : decode b_M_work 99 = .ok (.iload_n 2, 1) := by decide +kernel
theorem d_M_work_100 : decode b_M_work 100 = .ok (.invokevirtual 100, 3) := by decide +kernel
theorem d_M_work_103 : decode b_M_work 103 = .ok (.aload_n 0, 1) := by decide +kernel
theorem d_M_work_104 : decode b_M_work 104 = .ok (.aload_n 0, 1) := by decide +kernel
theorem d_M_work_105 : decode b_M_work 105 = .ok (.getfield 35, 3) := by decide +kernel
theorem d_M_work_108 : decode b_M_work 108 = .ok (.iload_n 3, 1) := by decide +kernel
theorem d_M_work_109 : decode b_M_work 109 = .ok (.iload_n 1, 1) := by decide +kernel
theorem d_M_work_110 : decode b_M_work 110 = .ok (.iconst 2, 1) := by decide +kernel
theorem d_M_work_111 : decode b_M_work 111 = .ok (.if_icmp .ne 7, 3) := by decide +kernel
theorem d_M_work_114 : decode b_M_work 114 = .ok (.iconst 1, 1) := by decide +kernel
theorem d_M_work_115 : decode b_M_work 115 = .ok (.goto 5, 3) := by decide +kernel
theorem d_M_work_118 : decode b_M_work 118 = .ok (.bipush 96, 2) := by decide +kernel
theorem d_M_work_120 : decode b_M_work 120 = .ok (.invokevirtual 90, 3) := by decide +kernel
theorem d_M_work_123 : decode b_M_work 123 = .ok (.goto 152, 3) := by decide +kernel
theorem d_M_work_126 : decode b_M_work 126 = .ok (.aload_n 0, 1) := by decide +kernel
theorem d_M_work_127 : decode b_M_work 127 = .ok (.aload_n 0, 1) := by decide +kernel
theorem d_M_work_128 : decode b_M_work 128 = .ok (.getfield 35, 3) := by decide +kernel
theorem d_M_work_131 : decode b_M_work 131 = .ok (.iload_n 2, 1) := by decide +kernel
theorem d_M_work_132 : decode b_M_work 132 = .ok (.invokevirtual 100, 3) := by decide +kernel
theorem d_M_work_135 : decode b_M_work 135 = .ok (.aload_n 0, 1) := by decide +kernel
theorem d_M_work_136 : decode b_M_work 136 = .ok (.aload_n 0, 1) := by decide +kernel
theorem d_M_work_137 : decode b_M_work 137 = .ok (.getfield 38, 3) := by decide +kernel
theorem d_M_work_140 : decode b_M_work 140 = .ok (.iload_n 3, 1) := by decide +kernel
theorem d_M_work_141 : decode b_M_work 141 = .ok (.invokevirtual 100, 3) := by decide +kernel
theorem d_M_work_144 : decode b_M_work 144 = .ok (.aload_n 0, 1) := by decide +kernel
theorem d_M_work_145 : decode b_M_work 145 = .ok (.invokevirtual 103, 3) := by decide +kernel
theorem d_M_work_148 : decode b_M_work 148 = .ok (.goto 127, 3) := by decide +kernel
theorem d_M_work_151 : decode b_M_work 151 = .ok (.aload_n 0, 1) := by decide +kernel
theorem d_M_work_152 : decode b_M_work 152 = .ok (.iload_n 2, 1) := by decide +kernel
theorem d_M_work_153 : decode b_M_work 153 = .ok (.iload_n 3, 1) := by decide +kernel
theorem d_M_work_154 : decode b_M_work 154 = .ok (.invokevirtual 106, 3) := by decide +kernel
theorem d_M_work_157 : decode b_M_work 157 = .ok (.goto 118, 3) := by decide +kernel
theorem d_M_work_160 : decode b_M_work 160 = .ok (.aload_n 0, 1) := by decide +kernel
theorem d_M_work_161 : decode b_M_work 161 = .ok (.iload_n 2, 1) := by decide +kernel
theorem d_M_work_162 : decode b_M_work 162 = .ok (.iload_n 3, 1) := by decide +kernel
theorem d_M_work_163 : decode b_M_work 163 = .ok (.invokevirtual 110, 3) := by decide +kernel
theorem d_M_work_166 : decode b_M_work 166 = .ok (.goto 109, 3) := by decide +kernel
theorem d_M_work_169 : decode b_M_work 169 = .ok (.aload_n 0, 1) := by decide +kernel
theorem d_M_work_170 : decode b_M_work 170 = .ok (.aload_n 0, 1) := by decide +kernel
theorem d_M_work_171 : decode b_M_work 171 = .ok (.getfield 35, 3) := by decide +kernel
theorem d_M_work_174 : decode b_M_work 174 = .ok (.iload 4, 2) := by decide +kernel
theorem d_M_work_176 : decode b_M_work 176 = .ok (.invokevirtual 100, 3) := by decide +kernel
theorem d_M_work_179 : decode b_M_work 179 = .ok (.aload_n 0, 1) := by decide +kernel
theorem d_M_work_180 : decode b_M_work 180 = .ok (.aload_n 0, 1) := by decide +kernel
theorem d_M_work_181 : decode b_M_work 181 = .ok (.getfield 38, 3) := by decide +kernel
theorem d_M_work_184 : decode b_M_work 184 = .ok (.iload_n 2, 1) := by decide +kernel
theorem d_M_work_185 : decode b_M_work 185 = .ok (.invokevirtual 100, 3) := by decide +kernel
theorem d_M_work_188 : decode b_M_work 188 = .ok (.aload_n 0, 1) := by decide +kernel
theorem d_M_work_189 : decode b_M_work 189 = .ok (.aload_n 0, 1) := by decide +kernel
theorem d_M_work_190 : decode b_M_work 190 = .ok (.getfield 38, 3) := by decide +kernel
theorem d_M_work_193 : decode b_M_work 193 = .ok (.iload_n 3, 1) := by decide +kernel
theorem d_M_work_194 : decode b_M_work 194 = .ok (.bipush 96, 2) := by decide +kernel
theorem d_M_work_196 : decode b_M_work 196 = .ok (.invokevirtual 90, 3) := by decide +kernel
theorem d_M_work_199 : decode b_M_work 199 = .ok (.aload_n 0, 1) := by decide +kernel
theorem d_M_work_200 : decode b_M_work 200 = .ok (.invokevirtual 103, 3) := by decide +kernel
theorem d_M_work_203 : decode b_M_work 203 = .ok (.aload_n 0, 1) := by decide +kernel
theorem d_M_work_204 : decode b_M_work 204 = .ok (.aload_n 0, 1) := by decide +kernel
theorem d_M_work_205 : decode b_M_work 205 = .ok (.getfield 35, 3) := by decide +kernel
theorem d_M_work_208 : decode b_M_work 208 = .ok (.iload_n 3, 1) := by decide +kernel
theorem d_M_work_209 : decode b_M_work 209 = .ok (.iconst 1, 1) := by decide +kernel
theorem d_M_work_210 : decode b_M_work 210 = .ok (.invokevirtual 90, 3) := by decide +kernel
theorem d_M_work_213 : decode b_M_work 213 = .ok (.goto 62, 3) := by decide +kernel
theorem d_M_work_216 : decode b_M_work 216 = .ok (.aload_n 0, 1) := by decide +kernel
theorem d_M_work_217 : decode b_M_work 217 = .ok (.getfield 35, 3) := by decide +kernel
theorem d_M_work_220 : decode b_M_work 220 = .ok (.iconst 1, 1) := by decide +kernel
theorem d_M_work_221 : decode b_M_work 221 = .ok (.invokestatic 64, 3) := by decide +kernel
theorem d_M_work_224 : decode b_M_work 224 = .ok (.aload_n 0, 1) := by decide +kernel
theorem d_M_work_225 : decode b_M_work 225 = .ok (.aload_n 0, 1) := by decide +kernel
theorem d_M_work_226 : decode b_M_work 226 = .ok (.getfield 35, 3) := by decide +kernel
theorem d_M_work_229 : decode b_M_work 229 = .ok (.iload_n 2, 1) := by decide +kernel
theorem d_M_work_230 : decode b_M_work 230 = .ok (.bipush 96, 2) := by decide +kernel
theorem d_M_work_232 : decode b_M_work 232 = .ok (.invokevirtual 90, 3) := by decide +kernel
theorem d_M_work_235 : decode b_M_work 235 = .ok (.goto 40, 3) := by decide +kernel
theorem d_M_work_238 : decode b_M_work 238 = .ok (.aload_n 0, 1) := by decide +kernel
theorem d_M_work_239 : decode b_M_work 239 = .ok (.aload_n 0, 1) := by decide +kernel
theorem d_M_work_240 : decode b_M_work 240 = .ok (.getfield 35, 3) := by decide +kernel
theorem d_M_work_243 : decode b_M_work 243 = .ok (.iload_n 2, 1) := by decide +kernel
theorem d_M_work_244 : decode b_M_work 244 = .ok (.invokevirtual 100, 3) := by decide +kernel
theorem d_M_work_247 : decode b_M_work 247 = .ok (.iconst 1, 1) := by decide +kernel
theorem d_M_work_248 : decode b_M_work 248 = .ok (.istore 5, 2) := by decide +kernel
theorem d_M_work_250 : decode b_M_work 250 = .ok (.iload 5, 2) := by decide +kernel
theorem d_M_work_252 : decode b_M_work 252 = .ok (.iload_n 3, 1) := by decide +kernel
theorem d_M_work_253 : decode b_M_work 253 = .ok (.if_icmp .ge 22, 3) := by decide +kernel
theorem d_M_work_256 : decode b_M_work 256 = .ok (.aload_n 0, 1) := by decide +kernel
theorem d_M_work_257 : decode b_M_work 257 = .ok (.aload_n 0, 1) := by decide +kernel
theorem d_M_work_258 : decode b_M_work 258 = .ok (.getfield 38, 3) := by decide +kernel
theorem d_M_work_261 : decode b_M_work 261 = .ok (.iload_n 2, 1) := by decide +kernel
theorem d_M_work_262 : decode b_M_work 262 = .ok (.invokevirtual 100, 3) := by decide +kernel
theorem d_M_work_265 : decode b_M_work 265 = .ok (.aload_n 0, 1) := by decide +kernel
theorem d_M_work_266 : decode b_M_work 266 = .ok (.invokevirtual 103, 3) := by decide +kernel
theorem d_M_work_269 : decode b_M_work 269 = .ok (.iinc 5 1, 3) := by decide +kernel
theorem d_M_work_272 : decode b_M_work 272 = .ok (.goto (-22), 3) := by decide +kernel
theorem d_M_work_275 : decode b_M_work 275 = .ok (.return_, 1) := by decide +kernel
theorem d_M_variable_0 : decode b_M_variable 0 = .ok (.aload_n 0, 1) := by decide +kernel
theorem d_M_variable_1 : decode b_M_variable 1 = .ok (.getfield 19, 3) := by decide +kernel
theorem d_M_variable_4 : decode b_M_variable 4 = .ok (.aload_n 0, 1) := by decide +kernel
theorem d_M_variable_5 : decode b_M_variable 5 = .ok (.getfield 28, 3) := by decide +kernel
theorem d_M_variable_8 : decode b_M_variable 8 = .ok (.iload_n 1, 1) := by decide +kernel
theorem d_M_variable_9 : decode b_M_variable 9 = .ok (.iastore, 1) := by decide +kernel
theorem d_M_variable_10 : decode b_M_variable 10 = .ok (.aload_n 0, 1) := by decide +kernel
theorem d_M_variable_11 : decode b_M_variable 11 = .ok (.getfield 22, 3) := by decide +kernel
theorem d_M_variable_14 : decode b_M_variable 14 = .ok (.aload_n 0, 1) := by decide +kernel
theorem d_M_variable_15 : decode b_M_variable 15 = .ok (.getfield 28, 3) := by decide +kernel
theorem d_M_variable_18 : decode b_M_variable 18 = .ok (.iload_n 2, 1) := by decide +kernel
theorem d_M_variable_19 : decode b_M_variable 19 = .ok (.iastore, 1) := by decide +kernel
theorem d_M_variable_20 : decode b_M_variable 20 = .ok (.aload_n 0, 1) := by decide +kernel
theorem d_M_variable_21 : decode b_M_variable 21 = .ok (.getfield 25, 3) := by decide +kernel
theorem d_M_variable_24 : decode b_M_variable 24 = .ok (.aload_n 0, 1) := by decide +kernel
theorem d_M_variable_25 : decode b_M_variable 25 = .ok (.getfield 28, 3) := by decide +kernel
theorem d_M_variable_28 : decode b_M_variable 28 = .ok (.iconst 0, 1) := by decide +kernel
theorem d_M_variable_29 : decode b_M_variable 29 = .ok (.iastore, 1) := by decide +kernel
theorem d_M_variable_30 : decode b_M_variable 30 = .ok (.aload_n 0, 1) := by decide +kernel
theorem d_M_variable_31 : decode b_M_variable 31 = .ok (.dup, 1) := by decide +kernel
theorem d_M_variable_32 : decode b_M_variable 32 = .ok (.getfield 28, 3) := by decide +kernel
theorem d_M_variable_35 : decode b_M_variable 35 = .ok (.iconst 1, 1) := by decide +kernel
theorem d_M_variable_36 : decode b_M_variable 36 = .ok (.iadd, 1) := by decide +kernel
theorem d_M_variable_37 : decode b_M_variable 37 = .ok (.putfield 28, 3) := by decide +kernel
theorem d_M_variable_40 : decode b_M_variable 40 = .ok (.aload_n 0, 1) := by decide +kernel
theorem d_M_variable_41 : decode b_M_variable 41 = .ok (.getfield 28, 3) := by decide +kernel
theorem d_M_variable_44 : decode b_M_variable 44 = .ok (.iconst 1, 1) := by decide +kernel
theorem d_M_variable_45 : decode b_M_variable 45 = .ok (.isub, 1) := by decide +kernel
theorem d_M_variable_46 : decode b_M_variable 46 = .ok (.ireturn, 1) := by decide +kernel
theorem d_M_one_0 : decode b_M_one 0 = .ok (.aload_n 0, 1) := by decide +kernel
theorem d_M_one_1 : decode b_M_one 1 = .ok (.iconst 0, 1) := by decide +kernel
theorem d_M_one_2 : decode b_M_one 2 = .ok (.invokestatic 64, 3) := by decide +kernel
theorem d_M_one_5 : decode b_M_one 5 = .ok (.aload_n 0, 1) := by decide +kernel
theorem d_M_one_6 : decode b_M_one 6 = .ok (.iload_n 1, 1) := by decide +kernel
theorem d_M_one_7 : decode b_M_one 7 = .ok (.iconst 1, 1) := by decide +kernel
theorem d_M_one_8 : decode b_M_one 8 = .ok (.iastore, 1) := by decide +kernel
theorem d_M_one_9 : decode b_M_one 9 = .ok (.return_, 1) := by decide +kernel
theorem d_M_fetch_0 : decode b_M_fetch 0 = .ok (.iconst 0, 1) := by decide +kernel
theorem d_M_fetch_1 : decode b_M_fetch 1 = .ok (.istore_n 3, 1) := by decide +kernel
theorem d_M_fetch_2 : decode b_M_fetch 2 = .ok (.iload_n 3, 1) := by decide +kernel
theorem d_M_fetch_3 : decode b_M_fetch 3 = .ok (.bipush 60, 2) := by decide +kernel
theorem d_M_fetch_5 : decode b_M_fetch 5 = .ok (.if_icmp .ge 23, 3) := by decide +kernel
theorem d_M_fetch_8 : decode b_M_fetch 8 = .ok (.aload_n 1, 1) := by decide +kernel
theorem d_M_fetch_9 : decode b_M_fetch 9 = .ok (.iload_n 3, 1) := by decide +kernel
theorem d_M_fetch_10 : decode b_M_fetch 10 = .ok (.aload_n 0, 1) := by decide +kernel
theorem d_M_fetch_11 : decode b_M_fetch 11 = .ok (.getfield 7, 3) := by decide +kernel
theorem d_M_fetch_14 : decode b_M_fetch 14 = .ok (.bipush 60, 2) := by decide +kernel
theorem d_M_fetch_16 : decode b_M_fetch 16 = .ok (.iload_n 2, 1) := by decide +kernel
theorem d_M_fetch_17 : decode b_M_fetch 17 = .ok (.imul, 1) := by decide +kernel
theorem d_M_fetch_18 : decode b_M_fetch 18 = .ok (.iload_n 3, 1) := by decide +kernel
theorem d_M_fetch_19 : decode b_M_fetch 19 = .ok (.iadd, 1) := by decide +kernel
theorem d_M_fetch_20 : decode b_M_fetch 20 = .ok (.iaload, 1) := by decide +kernel
theorem d_M_fetch_21 : decode b_M_fetch 21 = .ok (.iastore, 1) := by decide +kernel
theorem d_M_fetch_22 : decode b_M_fetch 22 = .ok (.iinc 3 1, 3) := by decide +kernel
theorem d_M_fetch_25 : decode b_M_fetch 25 = .ok (.goto (-23), 3) := by decide +kernel
theorem d_M_fetch_28 : decode b_M_fetch 28 = .ok (.return_, 1) := by decide +kernel
theorem d_M_multiply_0 : decode b_M_multiply 0 = .ok (.aload_n 0, 1) := by decide +kernel
theorem d_M_multiply_1 : decode b_M_multiply 1 = .ok (.getfield 35, 3) := by decide +kernel
theorem d_M_multiply_4 : decode b_M_multiply 4 = .ok (.invokestatic 68, 3) := by decide +kernel
theorem d_M_multiply_7 : decode b_M_multiply 7 = .ok (.ifCond .ne 13, 3) := by decide +kernel
theorem d_M_multiply_10 : decode b_M_multiply 10 = .ok (.aload_n 0, 1) := by decide +kernel
theorem d_M_multiply_11 : decode b_M_multiply 11 = .ok (.getfield 38, 3) := by decide +kernel
theorem d_M_multiply_14 : decode b_M_multiply 14 = .ok (.invokestatic 68, 3) := by decide +kernel
theorem d_M_multiply_17 : decode b_M_multiply 17 = .ok (.ifCond .eq 76, 3) := by decide +kernel
theorem d_M_multiply_20 : decode b_M_multiply 20 = .ok (.aload_n 0, 1) := by decide +kernel
theorem d_M_multiply_21 : decode b_M_multiply 21 = .ok (.getfield 35, 3) := by decide +kernel
theorem d_M_multiply_24 : decode b_M_multiply 24 = .ok (.invokestatic 68, 3) := by decide +kernel
theorem d_M_multiply_27 : decode b_M_multiply 27 = .ok (.istore_n 1, 1) := by decide +kernel
theorem d_M_multiply_28 : decode b_M_multiply 28 = .ok (.iload_n 1, 1) := by decide +kernel
theorem d_M_multiply_29 : decode b_M_multiply 29 = .ok (.ifCond .eq 12, 3) := by decide +kernel
theorem d_M_multiply_32 : decode b_M_multiply 32 = .ok (.aload_n 0, 1) := by decide +kernel
theorem d_M_multiply_33 : decode b_M_multiply 33 = .ok (.getfield 35, 3) := by decide +kernel
theorem d_M_multiply_36 : decode b_M_multiply 36 = .ok (.iconst 0, 1) := by decide +kernel
theorem d_M_multiply_37 : decode b_M_multiply 37 = .ok (.iaload, 1) := by decide +kernel
theorem d_M_multiply_38 : decode b_M_multiply 38 = .ok (.goto 9, 3) := by decide +kernel
theorem d_M_multiply_41 : decode b_M_multiply 41 = .ok (.aload_n 0, 1) := by decide +kernel
theorem d_M_multiply_42 : decode b_M_multiply 42 = .ok (.getfield 38, 3) := by decide +kernel
theorem d_M_multiply_45 : decode b_M_multiply 45 = .ok (.iconst 0, 1) := by decide +kernel
theorem d_M_multiply_46 : decode b_M_multiply 46 = .ok (.iaload, 1) := by decide +kernel
theorem d_M_multiply_47 : decode b_M_multiply 47 = .ok (.istore_n 2, 1) := by decide +kernel
theorem d_M_multiply_48 : decode b_M_multiply 48 = .ok (.iconst 0, 1) := by decide +kernel
theorem d_M_multiply_49 : decode b_M_multiply 49 = .ok (.istore_n 3, 1) := by decide +kernel
theorem d_M_multiply_50 : decode b_M_multiply 50 = .ok (.iload_n 3, 1) := by decide +kernel
theorem d_M_multiply_51 : decode b_M_multiply 51 = .ok (.bipush 60, 2) := by decide +kernel
theorem d_M_multiply_53 : decode b_M_multiply 53 = .ok (.if_icmp .ge 39, 3) := by decide +kernel
theorem d_M_multiply_56 : decode b_M_multiply 56 = .ok (.aload_n 0, 1) := by decide +kernel
theorem d_M_multiply_57 : decode b_M_multiply 57 = .ok (.getfield 35, 3) := by decide +kernel
theorem d_M_multiply_60 : decode b_M_multiply 60 = .ok (.iload_n 3, 1) := by decide +kernel
theorem d_M_multiply_61 : decode b_M_multiply 61 = .ok (.iload_n 2, 1) := by decide +kernel
theorem d_M_multiply_62 : decode b_M_multiply 62 = .ok (.iload_n 1, 1) := by decide +kernel
theorem d_M_multiply_63 : decode b_M_multiply 63 = .ok (.ifCond .eq 12, 3) := by decide +kernel
theorem d_M_multiply_66 : decode b_M_multiply 66 = .ok (.aload_n 0, 1) := by decide +kernel
theorem d_M_multiply_67 : decode b_M_multiply 67 = .ok (.getfield 38, 3) := by decide +kernel
theorem d_M_multiply_70 : decode b_M_multiply 70 = .ok (.iload_n 3, 1) := by decide +kernel
theorem d_M_multiply_71 : decode b_M_multiply 71 = .ok (.iaload, 1) := by decide +kernel
theorem d_M_multiply_72 : decode b_M_multiply 72 = .ok (.goto 9, 3) := by decide +kernel
theorem d_M_multiply_75 : decode b_M_multiply 75 = .ok (.aload_n 0, 1) := by decide +kernel
theorem d_M_multiply_76 : decode b_M_multiply 76 = .ok (.getfield 35, 3) := by decide +kernel
theorem d_M_multiply_79 : decode b_M_multiply 79 = .ok (.iload_n 3, 1) := by decide +kernel
theorem d_M_multiply_80 : decode b_M_multiply 80 = .ok (.iaload, 1) := by decide +kernel
theorem d_M_multiply_81 : decode b_M_multiply 81 = .ok (.imul, 1) := by decide +kernel
theorem d_M_multiply_82 : decode b_M_multiply 82 = .ok (.bipush 97, 2) := by decide +kernel
theorem d_M_multiply_84 : decode b_M_multiply 84 = .ok (.irem, 1) := by decide +kernel
theorem d_M_multiply_85 : decode b_M_multiply 85 = .ok (.iastore, 1) := by decide +kernel
theorem d_M_multiply_86 : decode b_M_multiply 86 = .ok (.iinc 3 1, 3) := by decide +kernel
theorem d_M_multiply_89 : decode b_M_multiply 89 = .ok (.goto (-39), 3) := by decide +kernel
theorem d_M_multiply_92 : decode b_M_multiply 92 = .ok (.return_, 1) := by decide +kernel
theorem d_M_multiply_93 : decode b_M_multiply 93 = .ok (.aload_n 0, 1) := by decide +kernel
theorem d_M_multiply_94 : decode b_M_multiply 94 = .ok (.getfield 72, 3) := by decide +kernel
theorem d_M_multiply_97 : decode b_M_multiply 97 = .ok (.istore_n 1, 1) := by decide +kernel
theorem d_M_multiply_98 : decode b_M_multiply 98 = .ok (.aload_n 0, 1) := by decide +kernel
theorem d_M_multiply_99 : decode b_M_multiply 99 = .ok (.dup, 1) := by decide +kernel
theorem d_M_multiply_100 : decode b_M_multiply 100 = .ok (.getfield 72, 3) := by decide +kernel
theorem d_M_multiply_103 : decode b_M_multiply 103 = .ok (.iconst 1, 1) := by decide +kernel
theorem d_M_multiply_104 : decode b_M_multiply 104 = .ok (.iadd, 1) := by decide +kernel
theorem d_M_multiply_105 : decode b_M_multiply 105 = .ok (.putfield 72, 3) := by decide +kernel
theorem d_M_multiply_108 : decode b_M_multiply 108 = .ok (.aload_n 0, 1) := by decide +kernel
theorem d_M_multiply_109 : decode b_M_multiply 109 = .ok (.iconst 1, 1) := by decide +kernel
theorem d_M_multiply_110 : decode b_M_multiply 110 = .ok (.iload_n 1, 1) := by decide +kernel
theorem d_M_multiply_111 : decode b_M_multiply 111 = .ok (.invokevirtual 75, 3) := by decide +kernel
theorem d_M_multiply_114 : decode b_M_multiply 114 = .ok (.istore_n 2, 1) := by decide +kernel
theorem d_M_multiply_115 : decode b_M_multiply 115 = .ok (.aload_n 0, 1) := by decide +kernel
theorem d_M_multiply_116 : decode b_M_multiply 116 = .ok (.iload_n 1, 1) := by decide +kernel
theorem d_M_multiply_117 : decode b_M_multiply 117 = .ok (.iconst 0, 1) := by decide +kernel
theorem d_M_multiply_118 : decode b_M_multiply 118 = .ok (.aload_n 0, 1) := by decide +kernel
theorem d_M_multiply_119 : decode b_M_multiply 119 = .ok (.getfield 35, 3) := by decide +kernel
theorem d_M_multiply_122 : decode b_M_multiply 122 = .ok (.invokevirtual 79, 3) := by decide +kernel
theorem d_M_multiply_125 : decode b_M_multiply 125 = .ok (.aload_n 0, 1) := by decide +kernel
theorem d_M_multiply_126 : decode b_M_multiply 126 = .ok (.iload_n 1, 1) := by decide +kernel
theorem d_M_multiply_127 : decode b_M_multiply 127 = .ok (.iconst 1, 1) := by decide +kernel
theorem d_M_multiply_128 : decode b_M_multiply 128 = .ok (.aload_n 0, 1) := by decide +kernel
theorem d_M_multiply_129 : decode b_M_multiply 129 = .ok (.getfield 38, 3) := by decide +kernel
theorem d_M_multiply_132 : decode b_M_multiply 132 = .ok (.invokevirtual 79, 3) := by decide +kernel
theorem d_M_multiply_135 : decode b_M_multiply 135 = .ok (.aload_n 0, 1) := by decide +kernel
theorem d_M_multiply_136 : decode b_M_multiply 136 = .ok (.getfield 35, 3) := by decide +kernel
theorem d_M_multiply_139 : decode b_M_multiply 139 = .ok (.iload_n 2, 1) := by decide +kernel
theorem d_M_multiply_140 : decode b_M_multiply 140 = .ok (.invokestatic 83, 3) := by decide +kernel
theorem d_M_multiply_143 : decode b_M_multiply 143 = .ok (.aload_n 0, 1) := by decide +kernel
theorem d_M_multiply_144 : decode b_M_multiply 144 = .ok (.iload_n 1, 1) := by decide +kernel
theorem d_M_multiply_145 : decode b_M_multiply 145 = .ok (.iconst 2, 1) := by decide +kernel
theorem d_M_multiply_146 : decode b_M_multiply 146 = .ok (.aload_n 0, 1) := by decide +kernel
theorem d_M_multiply_147 : decode b_M_multiply 147 = .ok (.getfield 35, 3) := by decide +kernel
theorem d_M_multiply_150 : decode b_M_multiply 150 = .ok (.invokevirtual 79, 3) := by decide +kernel
theorem d_M_multiply_153 : decode b_M_multiply 153 = .ok (.return_, 1) := by decide +kernel
theorem d_M_keep_0 : decode b_M_keep 0 = .ok (.iconst 0, 1) := by decide +kernel
theorem d_M_keep_1 : decode b_M_keep 1 = .ok (.istore 4, 2) := by decide +kernel
theorem d_M_keep_3 : decode b_M_keep 3 = .ok (.iload 4, 2) := by decide +kernel
theorem d_M_keep_5 : decode b_M_keep 5 = .ok (.bipush 60, 2) := by decide +kernel
theorem d_M_keep_7 : decode b_M_keep 7 = .ok (.if_icmp .ge 31, 3) := by decide +kernel
theorem d_M_keep_10 : decode b_M_keep 10 = .ok (.aload_n 0, 1) := by decide +kernel
theorem d_M_keep_11 : decode b_M_keep 11 = .ok (.getfield 32, 3) := by decide +kernel
theorem d_M_keep_14 : decode b_M_keep 14 = .ok (.sipush 180, 3) := by decide +kernel
theorem d_M_keep_17 : decode b_M_keep 17 = .ok (.iload_n 1, 1) := by decide +kernel
theorem d_M_keep_18 : decode b_M_keep 18 = .ok (.imul, 1) := by decide +kernel
theorem d_M_keep_19 : decode b_M_keep 19 = .ok (.bipush 60, 2) := by decide +kernel
theorem d_M_keep_21 : decode b_M_keep 21 = .ok (.iload_n 2, 1) := by decide +kernel
theorem d_M_keep_22 : decode b_M_keep 22 = .ok (.imul, 1) := by decide +kernel
theorem d_M_keep_23 : decode b_M_keep 23 = .ok (.iadd, 1) := by decide +kernel
theorem d_M_keep_24 : decode b_M_keep 24 = .ok (.iload 4, 2) := by decide +kernel
theorem d_M_keep_26 : decode b_M_keep 26 = .ok (.iadd, 1) := by decide +kernel
theorem d_M_keep_27 : decode b_M_keep 27 = .ok (.aload_n 3, 1) := by decide +kernel
theorem d_M_keep_28 : decode b_M_keep 28 = .ok (.iload 4, 2) := by decide +kernel
theorem d_M_keep_30 : decode b_M_keep 30 = .ok (.iaload, 1) := by decide +kernel
theorem d_M_keep_31 : decode b_M_keep 31 = .ok (.iastore, 1) := by decide +kernel
theorem d_M_keep_32 : decode b_M_keep 32 = .ok (.iinc 4 1, 3) := by decide +kernel
theorem d_M_keep_35 : decode b_M_keep 35 = .ok (.goto (-32), 3) := by decide +kernel
theorem d_M_keep_38 : decode b_M_keep 38 = .ok (.return_, 1) := by decide +kernel
theorem d_M_share_0 : decode b_M_share 0 = .ok (.aload_n 0, 1) := by decide +kernel
theorem d_M_share_1 : decode b_M_share 1 = .ok (.getfield 72, 3) := by decide +kernel
theorem d_M_share_4 : decode b_M_share 4 = .ok (.istore_n 3, 1) := by decide +kernel
theorem d_M_share_5 : decode b_M_share 5 = .ok (.aload_n 0, 1) := by decide +kernel
theorem d_M_share_6 : decode b_M_share 6 = .ok (.dup, 1) := by decide +kernel
theorem d_M_share_7 : decode b_M_share 7 = .ok (.getfield 72, 3) := by decide +kernel
theorem d_M_share_10 : decode b_M_share 10 = .ok (.iconst 2, 1) := by decide +kernel
theorem d_M_share_11 : decode b_M_share 11 = .ok (.iadd, 1) := by decide +kernel
theorem d_M_share_12 : decode b_M_share 12 = .ok (.putfield 72, 3) := by decide +kernel
theorem d_M_share_15 : decode b_M_share 15 = .ok (.aload_n 0, 1) := by decide +kernel
theorem d_M_share_16 : decode b_M_share 16 = .ok (.iconst 2, 1) := by decide +kernel
theorem d_M_share_17 : decode b_M_share 17 = .ok (.iload_n 3, 1) := by decide +kernel
theorem d_M_share_18 : decode b_M_share 18 = .ok (.invokevirtual 75, 3) := by decide +kernel
theorem d_M_share_21 : decode b_M_share 21 = .ok (.istore 4, 2) := by decide +kernel
theorem d_M_share_23 : decode b_M_share 23 = .ok (.aload_n 0, 1) := by decide +kernel
theorem d_M_share_24 : decode b_M_share 24 = .ok (.iconst 1, 1) := by decide +kernel
theorem d_M_share_25 : decode b_M_share 25 = .ok (.iload_n 3, 1) := by decide +kernel
theorem d_M_share_26 : decode b_M_share 26 = .ok (.iconst 1, 1) := by decide +kernel
theorem d_M_share_27 : decode b_M_share 27 = .ok (.iadd, 1) := by decide +kernel
theorem d_M_share_28 : decode b_M_share 28 = .ok (.invokevirtual 75, 3) := by decide +kernel
theorem d_M_share_31 : decode b_M_share 31 = .ok (.istore 5, 2) := by decide +kernel
theorem d_M_share_33 : decode b_M_share 33 = .ok (.aload_n 0, 1) := by decide +kernel
theorem d_M_share_34 : decode b_M_share 34 = .ok (.aload_n 0, 1) := by decide +kernel
theorem d_M_share_35 : decode b_M_share 35 = .ok (.getfield 41, 3) := by decide +kernel
theorem d_M_share_38 : decode b_M_share 38 = .ok (.iload_n 2, 1) := by decide +kernel
theorem d_M_share_39 : decode b_M_share 39 = .ok (.invokevirtual 100, 3) := by decide +kernel
theorem d_M_share_42 : decode b_M_share 42 = .ok (.aload_n 0, 1) := by decide +kernel
theorem d_M_share_43 : decode b_M_share 43 = .ok (.iload_n 3, 1) := by decide +kernel
theorem d_M_share_44 : decode b_M_share 44 = .ok (.iconst 0, 1) := by decide +kernel
theorem d_M_share_45 : decode b_M_share 45 = .ok (.aload_n 0, 1) := by decide +kernel
theorem d_M_share_46 : decode b_M_share 46 = .ok (.getfield 41, 3) := by decide +kernel
theorem d_M_share_49 : decode b_M_share 49 = .ok (.invokevirtual 79, 3) := by decide +kernel
theorem d_M_share_52 : decode b_M_share 52 = .ok (.aload_n 0, 1) := by decide +kernel
theorem d_M_share_53 : decode b_M_share 53 = .ok (.aload_n 0, 1) := by decide +kernel
theorem d_M_share_54 : decode b_M_share 54 = .ok (.getfield 41, 3) := by decide +kernel
theorem d_M_share_57 : decode b_M_share 57 = .ok (.iload_n 1, 1) := by decide +kernel
theorem d_M_share_58 : decode b_M_share 58 = .ok (.invokevirtual 100, 3) := by decide +kernel
theorem d_M_share_61 : decode b_M_share 61 = .ok (.aload_n 0, 1) := by decide +kernel
theorem d_M_share_62 : decode b_M_share 62 = .ok (.iload_n 3, 1) := by decide +kernel
theorem d_M_share_63 : decode b_M_share 63 = .ok (.iconst 1, 1) := by decide +kernel
theorem d_M_share_64 : decode b_M_share 64 = .ok (.iadd, 1) := by decide +kernel
theorem d_M_share_65 : decode b_M_share 65 = .ok (.iconst 0, 1) := by decide +kernel
theorem d_M_share_66 : decode b_M_share 66 = .ok (.aload_n 0, 1) := by decide +kernel
theorem d_M_share_67 : decode b_M_share 67 = .ok (.getfield 41, 3) := by decide +kernel
theorem d_M_share_70 : decode b_M_share 70 = .ok (.invokevirtual 79, 3) := by decide +kernel
theorem d_M_share_73 : decode b_M_share 73 = .ok (.aload_n 0, 1) := by decide +kernel
theorem d_M_share_74 : decode b_M_share 74 = .ok (.getfield 41, 3) := by decide +kernel
theorem d_M_share_77 : decode b_M_share 77 = .ok (.iload 4, 2) := by decide +kernel
theorem d_M_share_79 : decode b_M_share 79 = .ok (.invokestatic 83, 3) := by decide +kernel
theorem d_M_share_82 : decode b_M_share 82 = .ok (.aload_n 0, 1) := by decide +kernel
theorem d_M_share_83 : decode b_M_share 83 = .ok (.iload_n 3, 1) := by decide +kernel
theorem d_M_share_84 : decode b_M_share 84 = .ok (.iconst 1, 1) := by decide +kernel
theorem d_M_share_85 : decode b_M_share 85 = .ok (.aload_n 0, 1) := by decide +kernel
theorem d_M_share_86 : decode b_M_share 86 = .ok (.getfield 41, 3) := by decide +kernel
theorem d_M_share_89 : decode b_M_share 89 = .ok (.invokevirtual 79, 3) := by decide +kernel
theorem d_M_share_92 : decode b_M_share 92 = .ok (.aload_n 0, 1) := by decide +kernel
theorem d_M_share_93 : decode b_M_share 93 = .ok (.iload_n 3, 1) := by decide +kernel
theorem d_M_share_94 : decode b_M_share 94 = .ok (.iconst 1, 1) := by decide +kernel
theorem d_M_share_95 : decode b_M_share 95 = .ok (.iadd, 1) := by decide +kernel
theorem d_M_share_96 : decode b_M_share 96 = .ok (.iconst 1, 1) := by decide +kernel
theorem d_M_share_97 : decode b_M_share 97 = .ok (.aload_n 0, 1) := by decide +kernel
theorem d_M_share_98 : decode b_M_share 98 = .ok (.getfield 41, 3) := by decide +kernel
theorem d_M_share_101 : decode b_M_share 101 = .ok (.invokevirtual 79, 3) := by decide +kernel
theorem d_M_share_104 : decode b_M_share 104 = .ok (.aload_n 0, 1) := by decide +kernel
theorem d_M_share_105 : decode b_M_share 105 = .ok (.getfield 41, 3) := by decide +kernel
theorem d_M_share_108 : decode b_M_share 108 = .ok (.iconst 1, 1) := by decide +kernel
theorem d_M_share_109 : decode b_M_share 109 = .ok (.invokestatic 64, 3) := by decide +kernel
theorem d_M_share_112 : decode b_M_share 112 = .ok (.aload_n 0, 1) := by decide +kernel
theorem d_M_share_113 : decode b_M_share 113 = .ok (.iload_n 3, 1) := by decide +kernel
theorem d_M_share_114 : decode b_M_share 114 = .ok (.iconst 2, 1) := by decide +kernel
end
section
theorem d_M_share_115 : decode b_M_share 115 = .ok (.aload_n 0, 1) := by decide +kernel
theorem d_M_share_116 : decode b_M_share 116 = .ok (.getfield 41, 3) := by decide +kernel
theorem d_M_share_119 : decode b_M_share 119 = .ok (.invokevirtual 79, 3) := by decide +kernel
theorem d_M_share_122 : decode b_M_share 122 = .ok (.aload_n 0, 1) := by decide +kernel
theorem d_M_share_123 : decode b_M_share 123 = .ok (.getfield 35, 3) := by decide +kernel
theorem d_M_share_126 : decode b_M_share 126 = .ok (.iload 5, 2) := by decide +kernel
theorem d_M_share_128 : decode b_M_share 128 = .ok (.invokestatic 83, 3) := by decide +kernel
theorem d_M_share_131 : decode b_M_share 131 = .ok (.aload_n 0, 1) := by decide +kernel
theorem d_M_share_132 : decode b_M_share 132 = .ok (.iload_n 3, 1) := by decide +kernel
theorem d_M_share_133 : decode b_M_share 133 = .ok (.iconst 1, 1) := by decide +kernel
theorem d_M_share_134 : decode b_M_share 134 = .ok (.iadd, 1) := by decide +kernel
theorem d_M_share_135 : decode b_M_share 135 = .ok (.iconst 2, 1) := by decide +kernel
theorem d_M_share_136 : decode b_M_share 136 = .ok (.aload_n 0, 1) := by decide +kernel
theorem d_M_share_137 : decode b_M_share 137 = .ok (.getfield 35, 3) := by decide +kernel
theorem d_M_share_140 : decode b_M_share 140 = .ok (.invokevirtual 79, 3) := by decide +kernel
theorem d_M_share_143 : decode b_M_share 143 = .ok (.return_, 1) := by decide +kernel
theorem d_M_same_0 : decode b_M_same 0 = .ok (.aload_n 0, 1) := by decide +kernel
theorem d_M_same_1 : decode b_M_same 1 = .ok (.getfield 72, 3) := by decide +kernel
theorem d_M_same_4 : decode b_M_same 4 = .ok (.istore_n 3, 1) := by decide +kernel
theorem d_M_same_5 : decode b_M_same 5 = .ok (.aload_n 0, 1) := by decide +kernel
theorem d_M_same_6 : decode b_M_same 6 = .ok (.dup, 1) := by decide +kernel
theorem d_M_same_7 : decode b_M_same 7 = .ok (.getfield 72, 3) := by decide +kernel
theorem d_M_same_10 : decode b_M_same 10 = .ok (.iconst 2, 1) := by decide +kernel
theorem d_M_same_11 : decode b_M_same 11 = .ok (.iadd, 1) := by decide +kernel
theorem d_M_same_12 : decode b_M_same 12 = .ok (.putfield 72, 3) := by decide +kernel
theorem d_M_same_15 : decode b_M_same 15 = .ok (.aload_n 0, 1) := by decide +kernel
theorem d_M_same_16 : decode b_M_same 16 = .ok (.iconst 3, 1) := by decide +kernel
theorem d_M_same_17 : decode b_M_same 17 = .ok (.iload_n 3, 1) := by decide +kernel
theorem d_M_same_18 : decode b_M_same 18 = .ok (.invokevirtual 75, 3) := by decide +kernel
theorem d_M_same_21 : decode b_M_same 21 = .ok (.istore 4, 2) := by decide +kernel
theorem d_M_same_23 : decode b_M_same 23 = .ok (.aload_n 0, 1) := by decide +kernel
theorem d_M_same_24 : decode b_M_same 24 = .ok (.iconst 4, 1) := by decide +kernel
theorem d_M_same_25 : decode b_M_same 25 = .ok (.iload_n 3, 1) := by decide +kernel
theorem d_M_same_26 : decode b_M_same 26 = .ok (.invokevirtual 75, 3) := by decide +kernel
theorem d_M_same_29 : decode b_M_same 29 = .ok (.istore 5, 2) := by decide +kernel
theorem d_M_same_31 : decode b_M_same 31 = .ok (.aload_n 0, 1) := by decide +kernel
theorem d_M_same_32 : decode b_M_same 32 = .ok (.aload_n 0, 1) := by decide +kernel
theorem d_M_same_33 : decode b_M_same 33 = .ok (.getfield 41, 3) := by decide +kernel
theorem d_M_same_36 : decode b_M_same 36 = .ok (.iload_n 1, 1) := by decide +kernel
theorem d_M_same_37 : decode b_M_same 37 = .ok (.invokevirtual 100, 3) := by decide +kernel
theorem d_M_same_40 : decode b_M_same 40 = .ok (.aload_n 0, 1) := by decide +kernel
theorem d_M_same_41 : decode b_M_same 41 = .ok (.aload_n 0, 1) := by decide +kernel
theorem d_M_same_42 : decode b_M_same 42 = .ok (.getfield 41, 3) := by decide +kernel
theorem d_M_same_45 : decode b_M_same 45 = .ok (.iload_n 2, 1) := by decide +kernel
theorem d_M_same_46 : decode b_M_same 46 = .ok (.bipush 96, 2) := by decide +kernel
theorem d_M_same_48 : decode b_M_same 48 = .ok (.invokevirtual 90, 3) := by decide +kernel
theorem d_M_same_51 : decode b_M_same 51 = .ok (.aload_n 0, 1) := by decide +kernel
theorem d_M_same_52 : decode b_M_same 52 = .ok (.iload_n 3, 1) := by decide +kernel
theorem d_M_same_53 : decode b_M_same 53 = .ok (.iconst 0, 1) := by decide +kernel
theorem d_M_same_54 : decode b_M_same 54 = .ok (.aload_n 0, 1) := by decide +kernel
theorem d_M_same_55 : decode b_M_same 55 = .ok (.getfield 41, 3) := by decide +kernel
theorem d_M_same_58 : decode b_M_same 58 = .ok (.invokevirtual 79, 3) := by decide +kernel
theorem d_M_same_61 : decode b_M_same 61 = .ok (.aload_n 0, 1) := by decide +kernel
theorem d_M_same_62 : decode b_M_same 62 = .ok (.iload_n 3, 1) := by decide +kernel
theorem d_M_same_63 : decode b_M_same 63 = .ok (.iconst 1, 1) := by decide +kernel
theorem d_M_same_64 : decode b_M_same 64 = .ok (.iadd, 1) := by decide +kernel
theorem d_M_same_65 : decode b_M_same 65 = .ok (.iconst 0, 1) := by decide +kernel
theorem d_M_same_66 : decode b_M_same 66 = .ok (.aload_n 0, 1) := by decide +kernel
theorem d_M_same_67 : decode b_M_same 67 = .ok (.getfield 41, 3) := by decide +kernel
theorem d_M_same_70 : decode b_M_same 70 = .ok (.invokevirtual 79, 3) := by decide +kernel
theorem d_M_same_73 : decode b_M_same 73 = .ok (.aload_n 0, 1) := by decide +kernel
theorem d_M_same_74 : decode b_M_same 74 = .ok (.getfield 41, 3) := by decide +kernel
theorem d_M_same_77 : decode b_M_same 77 = .ok (.iload 4, 2) := by decide +kernel
theorem d_M_same_79 : decode b_M_same 79 = .ok (.invokestatic 83, 3) := by decide +kernel
theorem d_M_same_82 : decode b_M_same 82 = .ok (.aload_n 0, 1) := by decide +kernel
theorem d_M_same_83 : decode b_M_same 83 = .ok (.iload_n 3, 1) := by decide +kernel
theorem d_M_same_84 : decode b_M_same 84 = .ok (.iconst 1, 1) := by decide +kernel
theorem d_M_same_85 : decode b_M_same 85 = .ok (.aload_n 0, 1) := by decide +kernel
theorem d_M_same_86 : decode b_M_same 86 = .ok (.getfield 41, 3) := by decide +kernel
theorem d_M_same_89 : decode b_M_same 89 = .ok (.invokevirtual 79, 3) := by decide +kernel
theorem d_M_same_92 : decode b_M_same 92 = .ok (.aload_n 0, 1) := by decide +kernel
theorem d_M_same_93 : decode b_M_same 93 = .ok (.getfield 35, 3) := by decide +kernel
theorem d_M_same_96 : decode b_M_same 96 = .ok (.iload 5, 2) := by decide +kernel
theorem d_M_same_98 : decode b_M_same 98 = .ok (.invokestatic 83, 3) := by decide +kernel
theorem d_M_same_101 : decode b_M_same 101 = .ok (.aload_n 0, 1) := by decide +kernel
theorem d_M_same_102 : decode b_M_same 102 = .ok (.iload_n 3, 1) := by decide +kernel
theorem d_M_same_103 : decode b_M_same 103 = .ok (.iconst 1, 1) := by decide +kernel
theorem d_M_same_104 : decode b_M_same 104 = .ok (.iadd, 1) := by decide +kernel
theorem d_M_same_105 : decode b_M_same 105 = .ok (.iconst 1, 1) := by decide +kernel
theorem d_M_same_106 : decode b_M_same 106 = .ok (.aload_n 0, 1) := by decide +kernel
theorem d_M_same_107 : decode b_M_same 107 = .ok (.getfield 35, 3) := by decide +kernel
theorem d_M_same_110 : decode b_M_same 110 = .ok (.invokevirtual 79, 3) := by decide +kernel
theorem d_M_same_113 : decode b_M_same 113 = .ok (.aload_n 0, 1) := by decide +kernel
theorem d_M_same_114 : decode b_M_same 114 = .ok (.getfield 41, 3) := by decide +kernel
theorem d_M_same_117 : decode b_M_same 117 = .ok (.iconst 1, 1) := by decide +kernel
theorem d_M_same_118 : decode b_M_same 118 = .ok (.invokestatic 64, 3) := by decide +kernel
theorem d_M_same_121 : decode b_M_same 121 = .ok (.aload_n 0, 1) := by decide +kernel
theorem d_M_same_122 : decode b_M_same 122 = .ok (.getfield 41, 3) := by decide +kernel
theorem d_M_same_125 : decode b_M_same 125 = .ok (.iload 5, 2) := by decide +kernel
theorem d_M_same_127 : decode b_M_same 127 = .ok (.bipush 96, 2) := by decide +kernel
theorem d_M_same_129 : decode b_M_same 129 = .ok (.iastore, 1) := by decide +kernel
theorem d_M_same_130 : decode b_M_same 130 = .ok (.aload_n 0, 1) := by decide +kernel
theorem d_M_same_131 : decode b_M_same 131 = .ok (.iload_n 3, 1) := by decide +kernel
theorem d_M_same_132 : decode b_M_same 132 = .ok (.iconst 2, 1) := by decide +kernel
theorem d_M_same_133 : decode b_M_same 133 = .ok (.aload_n 0, 1) := by decide +kernel
theorem d_M_same_134 : decode b_M_same 134 = .ok (.getfield 41, 3) := by decide +kernel
theorem d_M_same_137 : decode b_M_same 137 = .ok (.invokevirtual 79, 3) := by decide +kernel
theorem d_M_same_140 : decode b_M_same 140 = .ok (.aload_n 0, 1) := by decide +kernel
theorem d_M_same_141 : decode b_M_same 141 = .ok (.getfield 41, 3) := by decide +kernel
theorem d_M_same_144 : decode b_M_same 144 = .ok (.iconst 0, 1) := by decide +kernel
theorem d_M_same_145 : decode b_M_same 145 = .ok (.invokestatic 64, 3) := by decide +kernel
theorem d_M_same_148 : decode b_M_same 148 = .ok (.aload_n 0, 1) := by decide +kernel
theorem d_M_same_149 : decode b_M_same 149 = .ok (.iload_n 3, 1) := by decide +kernel
theorem d_M_same_150 : decode b_M_same 150 = .ok (.iconst 1, 1) := by decide +kernel
theorem d_M_same_151 : decode b_M_same 151 = .ok (.iadd, 1) := by decide +kernel
theorem d_M_same_152 : decode b_M_same 152 = .ok (.iconst 2, 1) := by decide +kernel
theorem d_M_same_153 : decode b_M_same 153 = .ok (.aload_n 0, 1) := by decide +kernel
theorem d_M_same_154 : decode b_M_same 154 = .ok (.getfield 41, 3) := by decide +kernel
theorem d_M_same_157 : decode b_M_same 157 = .ok (.invokevirtual 79, 3) := by decide +kernel
theorem d_M_same_160 : decode b_M_same 160 = .ok (.return_, 1) := by decide +kernel
theorem d_M_claim_0 : decode b_M_claim 0 = .ok (.aload_n 0, 1) := by decide +kernel
theorem d_M_claim_1 : decode b_M_claim 1 = .ok (.iconst 0, 1) := by decide +kernel
theorem d_M_claim_2 : decode b_M_claim 2 = .ok (.putfield 50, 3) := by decide +kernel
theorem d_M_claim_5 : decode b_M_claim 5 = .ok (.iload_n 1, 1) := by decide +kernel
theorem d_M_claim_6 : decode b_M_claim 6 = .ok (.iconst 0, 1) := by decide +kernel
theorem d_M_claim_7 : decode b_M_claim 7 = .ok (.iconst 1, 1) := by decide +kernel
theorem d_M_claim_8 : decode b_M_claim 8 = .ok (.invokestatic 56, 3) := by decide +kernel
theorem d_M_claim_11 : decode b_M_claim 11 = .ok (.ifCond .eq 23, 3) := by decide +kernel
theorem d_M_claim_14 : decode b_M_claim 14 = .ok (.aload_n 0, 1) := by decide +kernel
theorem d_M_claim_15 : decode b_M_claim 15 = .ok (.iload_n 2, 1) := by decide +kernel
theorem d_M_claim_16 : decode b_M_claim 16 = .ok (.invokevirtual 86, 3) := by decide +kernel
theorem d_M_claim_19 : decode b_M_claim 19 = .ok (.ifCond .eq 15, 3) := by decide +kernel
theorem d_M_claim_22 : decode b_M_claim 22 = .ok (.iload_n 1, 1) := by decide +kernel
theorem d_M_claim_23 : decode b_M_claim 23 = .ok (.ifCond .ne 17, 3) := by decide +kernel
theorem d_M_claim_26 : decode b_M_claim 26 = .ok (.aload_n 0, 1) := by decide +kernel
theorem d_M_claim_27 : decode b_M_claim 27 = .ok (.iload_n 3, 1) := by decide +kernel
theorem d_M_claim_28 : decode b_M_claim 28 = .ok (.invokevirtual 86, 3) := by decide +kernel
theorem d_M_claim_31 : decode b_M_claim 31 = .ok (.ifCond .ne 9, 3) := by decide +kernel
theorem d_M_claim_34 : decode b_M_claim 34 = .ok (.aload_n 0, 1) := by decide +kernel
theorem d_M_claim_35 : decode b_M_claim 35 = .ok (.iconst 1, 1) := by decide +kernel
theorem d_M_claim_36 : decode b_M_claim 36 = .ok (.invokevirtual 117, 3) := by decide +kernel
theorem d_M_claim_39 : decode b_M_claim 39 = .ok (.ireturn, 1) := by decide +kernel
theorem d_M_claim_40 : decode b_M_claim 40 = .ok (.aload_n 0, 1) := by decide +kernel
theorem d_M_claim_41 : decode b_M_claim 41 = .ok (.getfield 72, 3) := by decide +kernel
theorem d_M_claim_44 : decode b_M_claim 44 = .ok (.bipush 80, 2) := by decide +kernel
theorem d_M_claim_46 : decode b_M_claim 46 = .ok (.if_icmp .ne 9, 3) := by decide +kernel
theorem d_M_claim_49 : decode b_M_claim 49 = .ok (.aload_n 0, 1) := by decide +kernel
theorem d_M_claim_50 : decode b_M_claim 50 = .ok (.iconst 2, 1) := by decide +kernel
theorem d_M_claim_51 : decode b_M_claim 51 = .ok (.invokevirtual 117, 3) := by decide +kernel
theorem d_M_claim_54 : decode b_M_claim 54 = .ok (.ireturn, 1) := by decide +kernel
theorem d_M_claim_55 : decode b_M_claim 55 = .ok (.aload_n 0, 1) := by decide +kernel
theorem d_M_claim_56 : decode b_M_claim 56 = .ok (.aload_n 0, 1) := by decide +kernel
theorem d_M_claim_57 : decode b_M_claim 57 = .ok (.getfield 35, 3) := by decide +kernel
theorem d_M_claim_60 : decode b_M_claim 60 = .ok (.iload_n 2, 1) := by decide +kernel
theorem d_M_claim_61 : decode b_M_claim 61 = .ok (.invokevirtual 100, 3) := by decide +kernel
theorem d_M_claim_64 : decode b_M_claim 64 = .ok (.iload_n 1, 1) := by decide +kernel
theorem d_M_claim_65 : decode b_M_claim 65 = .ok (.ifCond .ne 14, 3) := by decide +kernel
theorem d_M_claim_68 : decode b_M_claim 68 = .ok (.aload_n 0, 1) := by decide +kernel
theorem d_M_claim_69 : decode b_M_claim 69 = .ok (.aload_n 0, 1) := by decide +kernel
theorem d_M_claim_70 : decode b_M_claim 70 = .ok (.getfield 35, 3) := by decide +kernel
theorem d_M_claim_73 : decode b_M_claim 73 = .ok (.iload_n 3, 1) := by decide +kernel
theorem d_M_claim_74 : decode b_M_claim 74 = .ok (.bipush 96, 2) := by decide +kernel
theorem d_M_claim_76 : decode b_M_claim 76 = .ok (.invokevirtual 90, 3) := by decide +kernel
theorem d_M_claim_79 : decode b_M_claim 79 = .ok (.aload_n 0, 1) := by decide +kernel
theorem d_M_claim_80 : decode b_M_claim 80 = .ok (.getfield 38, 3) := by decide +kernel
theorem d_M_claim_83 : decode b_M_claim 83 = .ok (.iconst 1, 1) := by decide +kernel
theorem d_M_claim_84 : decode b_M_claim 84 = .ok (.invokestatic 64, 3) := by decide +kernel
theorem d_M_claim_87 : decode b_M_claim 87 = .ok (.iload_n 1, 1) := by decide +kernel
theorem d_M_claim_88 : decode b_M_claim 88 = .ok (.iconst 1, 1) := by decide +kernel
theorem d_M_claim_89 : decode b_M_claim 89 = .ok (.if_icmp .ne 14, 3) := by decide +kernel
theorem d_M_claim_92 : decode b_M_claim 92 = .ok (.aload_n 0, 1) := by decide +kernel
theorem d_M_claim_93 : decode b_M_claim 93 = .ok (.aload_n 0, 1) := by decide +kernel
theorem d_M_claim_94 : decode b_M_claim 94 = .ok (.getfield 38, 3) := by decide +kernel
theorem d_M_claim_97 : decode b_M_claim 97 = .ok (.iload_n 2, 1) := by decide +kernel
theorem d_M_claim_98 : decode b_M_claim 98 = .ok (.bipush 96, 2) := by decide +kernel
theorem d_M_claim_100 : decode b_M_claim 100 = .ok (.invokevirtual 90, 3) := by decide +kernel
theorem d_M_claim_103 : decode b_M_claim 103 = .ok (.aload_n 0, 1) := by decide +kernel
theorem d_M_claim_104 : decode b_M_claim 104 = .ok (.getfield 41, 3) := by decide +kernel
theorem d_M_claim_107 : decode b_M_claim 107 = .ok (.iconst 0, 1) := by decide +kernel
theorem d_M_claim_108 : decode b_M_claim 108 = .ok (.invokestatic 64, 3) := by decide +kernel
theorem d_M_claim_111 : decode b_M_claim 111 = .ok (.aload_n 0, 1) := by decide +kernel
theorem d_M_claim_112 : decode b_M_claim 112 = .ok (.aload_n 0, 1) := by decide +kernel
theorem d_M_claim_113 : decode b_M_claim 113 = .ok (.getfield 72, 3) := by decide +kernel
theorem d_M_claim_116 : decode b_M_claim 116 = .ok (.iconst 0, 1) := by decide +kernel
theorem d_M_claim_117 : decode b_M_claim 117 = .ok (.aload_n 0, 1) := by decide +kernel
theorem d_M_claim_118 : decode b_M_claim 118 = .ok (.getfield 35, 3) := by decide +kernel
theorem d_M_claim_121 : decode b_M_claim 121 = .ok (.invokevirtual 79, 3) := by decide +kernel
theorem d_M_claim_124 : decode b_M_claim 124 = .ok (.aload_n 0, 1) := by decide +kernel
theorem d_M_claim_125 : decode b_M_claim 125 = .ok (.aload_n 0, 1) := by decide +kernel
theorem d_M_claim_126 : decode b_M_claim 126 = .ok (.getfield 72, 3) := by decide +kernel
theorem d_M_claim_129 : decode b_M_claim 129 = .ok (.iconst 1, 1) := by decide +kernel
theorem d_M_claim_130 : decode b_M_claim 130 = .ok (.aload_n 0, 1) := by decide +kernel
theorem d_M_claim_131 : decode b_M_claim 131 = .ok (.getfield 38, 3) := by decide +kernel
theorem d_M_claim_134 : decode b_M_claim 134 = .ok (.invokevirtual 79, 3) := by decide +kernel
theorem d_M_claim_137 : decode b_M_claim 137 = .ok (.aload_n 0, 1) := by decide +kernel
theorem d_M_claim_138 : decode b_M_claim 138 = .ok (.aload_n 0, 1) := by decide +kernel
theorem d_M_claim_139 : decode b_M_claim 139 = .ok (.getfield 72, 3) := by decide +kernel
theorem d_M_claim_142 : decode b_M_claim 142 = .ok (.iconst 2, 1) := by decide +kernel
theorem d_M_claim_143 : decode b_M_claim 143 = .ok (.aload_n 0, 1) := by decide +kernel
theorem d_M_claim_144 : decode b_M_claim 144 = .ok (.getfield 41, 3) := by decide +kernel
theorem d_M_claim_147 : decode b_M_claim 147 = .ok (.invokevirtual 79, 3) := by decide +kernel
theorem d_M_claim_150 : decode b_M_claim 150 = .ok (.aload_n 0, 1) := by decide +kernel
theorem d_M_claim_151 : decode b_M_claim 151 = .ok (.dup, 1) := by decide +kernel
theorem d_M_claim_152 : decode b_M_claim 152 = .ok (.getfield 72, 3) := by decide +kernel
theorem d_M_claim_155 : decode b_M_claim 155 = .ok (.iconst 1, 1) := by decide +kernel
theorem d_M_claim_156 : decode b_M_claim 156 = .ok (.iadd, 1) := by decide +kernel
theorem d_M_claim_157 : decode b_M_claim 157 = .ok (.putfield 72, 3) := by decide +kernel
theorem d_M_claim_160 : decode b_M_claim 160 = .ok (.aload_n 0, 1) := by decide +kernel
theorem d_M_claim_161 : decode b_M_claim 161 = .ok (.getfield 72, 3) := by decide +kernel
theorem d_M_claim_164 : decode b_M_claim 164 = .ok (.iconst 1, 1) := by decide +kernel
theorem d_M_claim_165 : decode b_M_claim 165 = .ok (.isub, 1) := by decide +kernel
theorem d_M_claim_166 : decode b_M_claim 166 = .ok (.ireturn, 1) := by decide +kernel
theorem d_M_give_0 : decode b_M_give 0 = .ok (.aload_n 0, 1) := by decide +kernel
theorem d_M_give_1 : decode b_M_give 1 = .ok (.iconst 0, 1) := by decide +kernel
theorem d_M_give_2 : decode b_M_give 2 = .ok (.putfield 50, 3) := by decide +kernel
theorem d_M_give_5 : decode b_M_give 5 = .ok (.aload_n 0, 1) := by decide +kernel
theorem d_M_give_6 : decode b_M_give 6 = .ok (.iload_n 1, 1) := by decide +kernel
theorem d_M_give_7 : decode b_M_give 7 = .ok (.invokevirtual 86, 3) := by decide +kernel
theorem d_M_give_10 : decode b_M_give 10 = .ok (.ifCond .ne 9, 3) := by decide +kernel
theorem d_M_give_13 : decode b_M_give 13 = .ok (.aload_n 0, 1) := by decide +kernel
theorem d_M_give_14 : decode b_M_give 14 = .ok (.iconst 1, 1) := by decide +kernel
theorem d_M_give_15 : decode b_M_give 15 = .ok (.invokevirtual 117, 3) := by decide +kernel
theorem d_M_give_18 : decode b_M_give 18 = .ok (.ireturn, 1) := by decide +kernel
theorem d_M_give_19 : decode b_M_give 19 = .ok (.aload_n 0, 1) := by decide +kernel
theorem d_M_give_20 : decode b_M_give 20 = .ok (.getfield 13, 3) := by decide +kernel
theorem d_M_give_23 : decode b_M_give 23 = .ok (.iload_n 1, 1) := by decide +kernel
theorem d_M_give_24 : decode b_M_give 24 = .ok (.iaload, 1) := by decide +kernel
theorem d_M_give_25 : decode b_M_give 25 = .ok (.iconst 1, 1) := by decide +kernel
theorem d_M_give_26 : decode b_M_give 26 = .ok (.if_icmp .eq 9, 3) := by decide +kernel
theorem d_M_give_29 : decode b_M_give 29 = .ok (.aload_n 0, 1) := by decide +kernel
theorem d_M_give_30 : decode b_M_give 30 = .ok (.iconst 2, 1) := by decide +kernel
theorem d_M_give_31 : decode b_M_give 31 = .ok (.invokevirtual 117, 3) := by decide +kernel
theorem d_M_give_34 : decode b_M_give 34 = .ok (.ireturn, 1) := by decide +kernel
theorem d_M_give_35 : decode b_M_give 35 = .ok (.aload_n 0, 1) := by decide +kernel
theorem d_M_give_36 : decode b_M_give 36 = .ok (.getfield 25, 3) := by decide +kernel
theorem d_M_give_39 : decode b_M_give 39 = .ok (.aload_n 0, 1) := by decide +kernel
theorem d_M_give_40 : decode b_M_give 40 = .ok (.getfield 16, 3) := by decide +kernel
theorem d_M_give_43 : decode b_M_give 43 = .ok (.iload_n 1, 1) := by decide +kernel
theorem d_M_give_44 : decode b_M_give 44 = .ok (.iaload, 1) := by decide +kernel
theorem d_M_give_45 : decode b_M_give 45 = .ok (.iaload, 1) := by decide +kernel
theorem d_M_give_46 : decode b_M_give 46 = .ok (.istore_n 3, 1) := by decide +kernel
theorem d_M_give_47 : decode b_M_give 47 = .ok (.aload_n 0, 1) := by decide +kernel
theorem d_M_give_48 : decode b_M_give 48 = .ok (.getfield 25, 3) := by decide +kernel
theorem d_M_give_51 : decode b_M_give 51 = .ok (.aload_n 0, 1) := by decide +kernel
theorem d_M_give_52 : decode b_M_give 52 = .ok (.getfield 16, 3) := by decide +kernel
theorem d_M_give_55 : decode b_M_give 55 = .ok (.iload_n 1, 1) := by decide +kernel
theorem d_M_give_56 : decode b_M_give 56 = .ok (.iaload, 1) := by decide +kernel
theorem d_M_give_57 : decode b_M_give 57 = .ok (.iload_n 2, 1) := by decide +kernel
theorem d_M_give_58 : decode b_M_give 58 = .ok (.invokestatic 60, 3) := by decide +kernel
theorem d_M_give_61 : decode b_M_give 61 = .ok (.iastore, 1) := by decide +kernel
theorem d_M_give_62 : decode b_M_give 62 = .ok (.iload_n 3, 1) := by decide +kernel
theorem d_M_give_63 : decode b_M_give 63 = .ok (.ireturn, 1) := by decide +kernel
theorem d_M_solve_0 : decode b_M_solve 0 = .ok (.aload_n 0, 1) := by decide +kernel
theorem d_M_solve_1 : decode b_M_solve 1 = .ok (.iconst 0, 1) := by decide +kernel
theorem d_M_solve_2 : decode b_M_solve 2 = .ok (.putfield 50, 3) := by decide +kernel
theorem d_M_solve_5 : decode b_M_solve 5 = .ok (.iconst 0, 1) := by decide +kernel
theorem d_M_solve_6 : decode b_M_solve 6 = .ok (.istore_n 1, 1) := by decide +kernel
theorem d_M_solve_7 : decode b_M_solve 7 = .ok (.iload_n 1, 1) := by decide +kernel
theorem d_M_solve_8 : decode b_M_solve 8 = .ok (.bipush 60, 2) := by decide +kernel
theorem d_M_solve_10 : decode b_M_solve 10 = .ok (.if_icmp .ge 16, 3) := by decide +kernel
theorem d_M_solve_13 : decode b_M_solve 13 = .ok (.aload_n 0, 1) := by decide +kernel
theorem d_M_solve_14 : decode b_M_solve 14 = .ok (.getfield 44, 3) := by decide +kernel
theorem d_M_solve_17 : decode b_M_solve 17 = .ok (.iload_n 1, 1) := by decide +kernel
theorem d_M_solve_18 : decode b_M_solve 18 = .ok (.iconst 0, 1) := by decide +kernel
theorem d_M_solve_19 : decode b_M_solve 19 = .ok (.iastore, 1) := by decide +kernel
theorem d_M_solve_20 : decode b_M_solve 20 = .ok (.iinc 1 1, 3) := by decide +kernel
theorem d_M_solve_23 : decode b_M_solve 23 = .ok (.goto (-16), 3) := by decide +kernel
theorem d_M_solve_26 : decode b_M_solve 26 = .ok (.aload_n 0, 1) := by decide +kernel
theorem d_M_solve_27 : decode b_M_solve 27 = .ok (.getfield 44, 3) := by decide +kernel
theorem d_M_solve_30 : decode b_M_solve 30 = .ok (.iconst 0, 1) := by decide +kernel
theorem d_M_solve_31 : decode b_M_solve 31 = .ok (.iconst 1, 1) := by decide +kernel
theorem d_M_solve_32 : decode b_M_solve 32 = .ok (.iastore, 1) := by decide +kernel
theorem d_M_solve_33 : decode b_M_solve 33 = .ok (.iconst 1, 1) := by decide +kernel
theorem d_M_solve_34 : decode b_M_solve 34 = .ok (.istore_n 1, 1) := by decide +kernel
theorem d_M_solve_35 : decode b_M_solve 35 = .ok (.iload_n 1, 1) := by decide +kernel
theorem d_M_solve_36 : decode b_M_solve 36 = .ok (.aload_n 0, 1) := by decide +kernel
theorem d_M_solve_37 : decode b_M_solve 37 = .ok (.getfield 28, 3) := by decide +kernel
theorem d_M_solve_40 : decode b_M_solve 40 = .ok (.if_icmp .ge 170, 3) := by decide +kernel
theorem d_M_solve_43 : decode b_M_solve 43 = .ok (.aload_n 0, 1) := by decide +kernel
theorem d_M_solve_44 : decode b_M_solve 44 = .ok (.getfield 19, 3) := by decide +kernel
theorem d_M_solve_47 : decode b_M_solve 47 = .ok (.iload_n 1, 1) := by decide +kernel
theorem d_M_solve_48 : decode b_M_solve 48 = .ok (.iaload, 1) := by decide +kernel
theorem d_M_solve_49 : decode b_M_solve 49 = .ok (.ifCond .ne 7, 3) := by decide +kernel
theorem d_M_solve_52 : decode b_M_solve 52 = .ok (.iconst 0, 1) := by decide +kernel
theorem d_M_solve_53 : decode b_M_solve 53 = .ok (.goto 18, 3) := by decide +kernel
theorem d_M_solve_56 : decode b_M_solve 56 = .ok (.aload_n 0, 1) := by decide +kernel
theorem d_M_solve_57 : decode b_M_solve 57 = .ok (.aload_n 0, 1) := by decide +kernel
theorem d_M_solve_58 : decode b_M_solve 58 = .ok (.getfield 22, 3) := by decide +kernel
theorem d_M_solve_61 : decode b_M_solve 61 = .ok (.iload_n 1, 1) := by decide +kernel
theorem d_M_solve_62 : decode b_M_solve 62 = .ok (.iaload, 1) := by decide +kernel
theorem d_M_solve_63 : decode b_M_solve 63 = .ok (.iconst 0, 1) := by decide +kernel
theorem d_M_solve_64 : decode b_M_solve 64 = .ok (.aload_n 0, 1) := by decide +kernel
theorem d_M_solve_65 : decode b_M_solve 65 = .ok (.getfield 44, 3) := by decide +kernel
theorem d_M_solve_68 : decode b_M_solve 68 = .ok (.invokevirtual 128, 3) := by decide +kernel
theorem d_M_solve_71 : decode b_M_solve 71 = .ok (.istore_n 2, 1) := by decide +kernel
theorem d_M_solve_72 : decode b_M_solve 72 = .ok (.aload_n 0, 1) := by decide +kernel
theorem d_M_solve_73 : decode b_M_solve 73 = .ok (.getfield 19, 3) := by decide +kernel
theorem d_M_solve_76 : decode b_M_solve 76 = .ok (.iload_n 1, 1) := by decide +kernel
theorem d_M_solve_77 : decode b_M_solve 77 = .ok (.iaload, 1) := by decide +kernel
theorem d_M_solve_78 : decode b_M_solve 78 = .ok (.iconst 2, 1) := by decide +kernel
theorem d_M_solve_79 : decode b_M_solve 79 = .ok (.if_icmp .ne 13, 3) := by decide +kernel
theorem d_M_solve_82 : decode b_M_solve 82 = .ok (.iload_n 2, 1) := by decide +kernel
theorem d_M_solve_83 : decode b_M_solve 83 = .ok (.ifCond .ne 9, 3) := by decide +kernel
theorem d_M_solve_86 : decode b_M_solve 86 = .ok (.aload_n 0, 1) := by decide +kernel
theorem d_M_solve_87 : decode b_M_solve 87 = .ok (.iconst 1, 1) := by decide +kernel
theorem d_M_solve_88 : decode b_M_solve 88 = .ok (.invokevirtual 117, 3) := by decide +kernel
theorem d_M_solve_91 : decode b_M_solve 91 = .ok (.ireturn, 1) := by decide +kernel
theorem d_M_solve_92 : decode b_M_solve 92 = .ok (.aload_n 0, 1) := by decide +kernel
theorem d_M_solve_93 : decode b_M_solve 93 = .ok (.getfield 19, 3) := by decide +kernel
theorem d_M_solve_96 : decode b_M_solve 96 = .ok (.iload_n 1, 1) := by decide +kernel
theorem d_M_solve_97 : decode b_M_solve 97 = .ok (.iaload, 1) := by decide +kernel
theorem d_M_solve_98 : decode b_M_solve 98 = .ok (.ifCond .ne 15, 3) := by decide +kernel
theorem d_M_solve_101 : decode b_M_solve 101 = .ok (.aload_n 0, 1) := by decide +kernel
theorem d_M_solve_102 : decode b_M_solve 102 = .ok (.getfield 44, 3) := by decide +kernel
theorem d_M_solve_105 : decode b_M_solve 105 = .ok (.iload_n 1, 1) := by decide +kernel
theorem d_M_solve_106 : decode b_M_solve 106 = .ok (.aload_n 0, 1) := by decide +kernel
theorem d_M_solve_107 : decode b_M_solve 107 = .ok (.getfield 25, 3) := by decide +kernel
theorem d_M_solve_110 : decode b_M_solve 110 = .ok (.iload_n 1, 1) := by decide +kernel
theorem d_M_solve_111 : decode b_M_solve 111 = .ok (.iaload, 1) := by decide +kernel
theorem d_M_solve_112 : decode b_M_solve 112 = .ok (.iastore, 1) := by decide +kernel
theorem d_M_solve_113 : decode b_M_solve 113 = .ok (.aload_n 0, 1) := by decide +kernel
theorem d_M_solve_114 : decode b_M_solve 114 = .ok (.getfield 19, 3) := by decide +kernel
theorem d_M_solve_117 : decode b_M_solve 117 = .ok (.iload_n 1, 1) := by decide +kernel
theorem d_M_solve_118 : decode b_M_solve 118 = .ok (.iaload, 1) := by decide +kernel
theorem d_M_solve_119 : decode b_M_solve 119 = .ok (.iconst 1, 1) := by decide +kernel
theorem d_M_solve_120 : decode b_M_solve 120 = .ok (.if_icmp .ne 29, 3) := by decide +kernel
theorem d_M_solve_123 : decode b_M_solve 123 = .ok (.aload_n 0, 1) := by decide +kernel
theorem d_M_solve_124 : decode b_M_solve 124 = .ok (.getfield 44, 3) := by decide +kernel
theorem d_M_solve_127 : decode b_M_solve 127 = .ok (.iload_n 1, 1) := by decide +kernel
theorem d_M_solve_128 : decode b_M_solve 128 = .ok (.iload_n 2, 1) := by decide +kernel
theorem d_M_solve_129 : decode b_M_solve 129 = .ok (.aload_n 0, 1) := by decide +kernel
theorem d_M_solve_130 : decode b_M_solve 130 = .ok (.aload_n 0, 1) := by decide +kernel
theorem d_M_solve_131 : decode b_M_solve 131 = .ok (.getfield 22, 3) := by decide +kernel
theorem d_M_solve_134 : decode b_M_solve 134 = .ok (.iload_n 1, 1) := by decide +kernel
theorem d_M_solve_135 : decode b_M_solve 135 = .ok (.iaload, 1) := by decide +kernel
theorem d_M_solve_136 : decode b_M_solve 136 = .ok (.iconst 1, 1) := by decide +kernel
theorem d_M_solve_137 : decode b_M_solve 137 = .ok (.aload_n 0, 1) := by decide +kernel
theorem d_M_solve_138 : decode b_M_solve 138 = .ok (.getfield 44, 3) := by decide +kernel
theorem d_M_solve_141 : decode b_M_solve 141 = .ok (.invokevirtual 128, 3) := by decide +kernel
theorem d_M_solve_144 : decode b_M_solve 144 = .ok (.imul, 1) := by decide +kernel
theorem d_M_solve_145 : decode b_M_solve 145 = .ok (.bipush 97, 2) := by decide +kernel
theorem d_M_solve_147 : decode b_M_solve 147 = .ok (.irem, 1) := by decide +kernel
theorem d_M_solve_148 : decode b_M_solve 148 = .ok (.iastore, 1) := by decide +kernel
theorem d_M_solve_149 : decode b_M_solve 149 = .ok (.aload_n 0, 1) := by decide +kernel
theorem d_M_solve_150 : decode b_M_solve 150 = .ok (.getfield 19, 3) := by decide +kernel
theorem d_M_solve_153 : decode b_M_solve 153 = .ok (.iload_n 1, 1) := by decide +kernel
theorem d_M_solve_154 : decode b_M_solve 154 = .ok (.iaload, 1) := by decide +kernel
theorem d_M_solve_155 : decode b_M_solve 155 = .ok (.iconst 2, 1) := by decide +kernel
theorem d_M_solve_156 : decode b_M_solve 156 = .ok (.if_icmp .eq 13, 3) := by decide +kernel
theorem d_M_solve_159 : decode b_M_solve 159 = .ok (.aload_n 0, 1) := by decide +kernel
theorem d_M_solve_160 : decode b_M_solve 160 = .ok (.getfield 19, 3) := by decide +kernel
theorem d_M_solve_163 : decode b_M_solve 163 = .ok (.iload_n 1, 1) := by decide +kernel
theorem d_M_solve_164 : decode b_M_solve 164 = .ok (.iaload, 1) := by decide +kernel
theorem d_M_solve_165 : decode b_M_solve 165 = .ok (.iconst 3, 1) := by decide +kernel
theorem d_M_solve_166 : decode b_M_solve 166 = .ok (.if_icmp .ne 13, 3) := by decide +kernel
theorem d_M_solve_169 : decode b_M_solve 169 = .ok (.aload_n 0, 1) := by decide +kernel
theorem d_M_solve_170 : decode b_M_solve 170 = .ok (.getfield 44, 3) := by decide +kernel
theorem d_M_solve_173 : decode b_M_solve 173 = .ok (.iload_n 1, 1) := by decide +kernel
theorem d_M_solve_174 : decode b_M_solve 174 = .ok (.iload_n 2, 1) := by decide +kernel
theorem d_M_solve_175 : decode b_M_solve 175 = .ok (.invokestatic 132, 3) := by decide +kernel
theorem d_M_solve_178 : decode b_M_solve 178 = .ok (.iastore, 1) := by decide +kernel
theorem d_M_solve_179 : decode b_M_solve 179 = .ok (.aload_n 0, 1) := by decide +kernel
theorem d_M_solve_180 : decode b_M_solve 180 = .ok (.getfield 19, 3) := by decide +kernel
theorem d_M_solve_183 : decode b_M_solve 183 = .ok (.iload_n 1, 1) := by decide +kernel
theorem d_M_solve_184 : decode b_M_solve 184 = .ok (.iaload, 1) := by decide +kernel
theorem d_M_solve_185 : decode b_M_solve 185 = .ok (.iconst 4, 1) := by decide +kernel
theorem d_M_solve_186 : decode b_M_solve 186 = .ok (.if_icmp .ne 18, 3) := by decide +kernel
theorem d_M_solve_189 : decode b_M_solve 189 = .ok (.aload_n 0, 1) := by decide +kernel
theorem d_M_solve_190 : decode b_M_solve 190 = .ok (.getfield 44, 3) := by decide +kernel
theorem d_M_solve_193 : decode b_M_solve 193 = .ok (.iload_n 1, 1) := by decide +kernel
theorem d_M_solve_194 : decode b_M_solve 194 = .ok (.iload_n 2, 1) := by decide +kernel
theorem d_M_solve_195 : decode b_M_solve 195 = .ok (.ifCond .ne 7, 3) := by decide +kernel
theorem d_M_solve_198 : decode b_M_solve 198 = .ok (.iconst 1, 1) := by decide +kernel
theorem d_M_solve_199 : decode b_M_solve 199 = .ok (.goto 4, 3) := by decide +kernel
theorem d_M_solve_202 : decode b_M_solve 202 = .ok (.iconst 0, 1) := by decide +kernel
theorem d_M_solve_203 : decode b_M_solve 203 = .ok (.iastore, 1) := by decide +kernel
theorem d_M_solve_204 : decode b_M_solve 204 = .ok (.iinc 1 1, 3) := by decide +kernel
theorem d_M_solve_207 : decode b_M_solve 207 = .ok (.goto (-172), 3) := by decide +kernel
theorem d_M_solve_210 : decode b_M_solve 210 = .ok (.iconst 0, 1) := by decide +kernel
theorem d_M_solve_211 : decode b_M_solve 211 = .ok (.istore_n 1, 1) := by decide +kernel
theorem d_M_solve_212 : decode b_M_solve 212 = .ok (.iload_n 1, 1) := by decide +kernel
theorem d_M_solve_213 : decode b_M_solve 213 = .ok (.bipush 60, 2) := by decide +kernel
theorem d_M_solve_215 : decode b_M_solve 215 = .ok (.if_icmp .ge 21, 3) := by decide +kernel
theorem d_M_solve_218 : decode b_M_solve 218 = .ok (.aload_n 0, 1) := by decide +kernel
theorem d_M_solve_219 : decode b_M_solve 219 = .ok (.getfield 47, 3) := by decide +kernel
theorem d_M_solve_222 : decode b_M_solve 222 = .ok (.iload_n 1, 1) := by decide +kernel
theorem d_M_solve_223 : decode b_M_solve 223 = .ok (.aload_n 0, 1) := by decide +kernel
theorem d_M_solve_224 : decode b_M_solve 224 = .ok (.getfield 44, 3) := by decide +kernel
theorem d_M_solve_227 : decode b_M_solve 227 = .ok (.iload_n 1, 1) := by decide +kernel
theorem d_M_solve_228 : decode b_M_solve 228 = .ok (.iaload, 1) := by decide +kernel
theorem d_M_solve_229 : decode b_M_solve 229 = .ok (.iastore, 1) := by decide +kernel
theorem d_M_solve_230 : decode b_M_solve 230 = .ok (.iinc 1 1, 3) := by decide +kernel
theorem d_M_solve_233 : decode b_M_solve 233 = .ok (.goto (-21), 3) := by decide +kernel
theorem d_M_solve_236 : decode b_M_solve 236 = .ok (.aload_n 0, 1) := by decide +kernel
theorem d_M_solve_237 : decode b_M_solve 237 = .ok (.iconst 1, 1) := by decide +kernel
theorem d_M_solve_238 : decode b_M_solve 238 = .ok (.putfield 135, 3) := by decide +kernel
theorem d_M_solve_241 : decode b_M_solve 241 = .ok (.aload_n 0, 1) := by decide +kernel
theorem d_M_solve_242 : decode b_M_solve 242 = .ok (.aload_n 0, 1) := by decide +kernel
theorem d_M_solve_243 : decode b_M_solve 243 = .ok (.getfield 28, 3) := by decide +kernel
theorem d_M_solve_246 : decode b_M_solve 246 = .ok (.putfield 139, 3) := by decide +kernel
theorem d_M_solve_249 : decode b_M_solve 249 = .ok (.aload_n 0, 1) := by decide +kernel
theorem d_M_solve_250 : decode b_M_solve 250 = .ok (.aload_n 0, 1) := by decide +kernel
theorem d_M_solve_251 : decode b_M_solve 251 = .ok (.getfield 72, 3) := by decide +kernel
theorem d_M_solve_254 : decode b_M_solve 254 = .ok (.putfield 142, 3) := by decide +kernel
theorem d_M_solve_257 : decode b_M_solve 257 = .ok (.aload_n 0, 1) := by decide +kernel
theorem d_M_solve_258 : decode b_M_solve 258 = .ok (.invokevirtual 145, 3) := by decide +kernel
theorem d_M_solve_261 : decode b_M_solve 261 = .ok (.ireturn, 1) := by decide +kernel
theorem d_M_valueOf_0 : decode b_M_valueOf 0 = .ok (.iconst 0, 1) := by decide +kernel
theorem d_M_valueOf_1 : decode b_M_valueOf 1 = .ok (.istore 4, 2) := by decide +kernel
theorem d_M_valueOf_3 : decode b_M_valueOf 3 = .ok (.iconst 0, 1) := by decide +kernel
theorem d_M_valueOf_4 : decode b_M_valueOf 4 = .ok (.istore 5, 2) := by decide +kernel
theorem d_M_valueOf_6 : decode b_M_valueOf 6 = .ok (.iload 5, 2) := by decide +kernel
theorem d_M_valueOf_8 : decode b_M_valueOf 8 = .ok (.bipush 60, 2) := by decide +kernel
theorem d_M_valueOf_10 : decode b_M_valueOf 10 = .ok (.if_icmp .ge 37, 3) := by decide +kernel
theorem d_M_valueOf_13 : decode b_M_valueOf 13 = .ok (.iload 4, 2) := by decide +kernel
theorem d_M_valueOf_15 : decode b_M_valueOf 15 = .ok (.aload_n 0, 1) := by decide +kernel
theorem d_M_valueOf_16 : decode b_M_valueOf 16 = .ok (.getfield 32, 3) := by decide +kernel
theorem d_M_valueOf_19 : decode b_M_valueOf 19 = .ok (.sipush 180, 3) := by decide +kernel
theorem d_M_valueOf_22 : decode b_M_valueOf 22 = .ok (.iload_n 1, 1) := by decide +kernel
theorem d_M_valueOf_23 : decode b_M_valueOf 23 = .ok (.imul, 1) := by decide +kernel
theorem d_M_valueOf_24 : decode b_M_valueOf 24 = .ok (.bipush 60, 2) := by decide +kernel
theorem d_M_valueOf_26 : decode b_M_valueOf 26 = .ok (.iload_n 2, 1) := by decide +kernel
theorem d_M_valueOf_27 : decode b_M_valueOf 27 = .ok (.imul, 1) := by decide +kernel
theorem d_M_valueOf_28 : decode b_M_valueOf 28 = .ok (.iadd, 1) := by decide +kernel
theorem d_M_valueOf_29 : decode b_M_valueOf 29 = .ok (.iload 5, 2) := by decide +kernel
theorem d_M_valueOf_31 : decode b_M_valueOf 31 = .ok (.iadd, 1) := by decide +kernel
theorem d_M_valueOf_32 : decode b_M_valueOf 32 = .ok (.iaload, 1) := by decide +kernel
theorem d_M_valueOf_33 : decode b_M_valueOf 33 = .ok (.aload_n 3, 1) := by decide +kernel
theorem d_M_valueOf_34 : decode b_M_valueOf 34 = .ok (.iload 5, 2) := by decide +kernel
theorem d_M_valueOf_36 : decode b_M_valueOf 36 = .ok (.iaload, 1) := by decide +kernel
theorem d_M_valueOf_37 : decode b_M_valueOf 37 = .ok (.imul, 1) := by decide +kernel
theorem d_M_valueOf_38 : decode b_M_valueOf 38 = .ok (.iadd, 1) := by decide +kernel
theorem d_M_valueOf_39 : decode b_M_valueOf 39 = .ok (.istore 4, 2) := by decide +kernel
theorem d_M_valueOf_41 : decode b_M_valueOf 41 = .ok (.iinc 5 1, 3) := by decide +kernel
theorem d_M_valueOf_44 : decode b_M_valueOf 44 = .ok (.goto (-38), 3) := by decide +kernel
theorem d_M_valueOf_47 : decode b_M_valueOf 47 = .ok (.iload 4, 2) := by decide +kernel
theorem d_M_valueOf_49 : decode b_M_valueOf 49 = .ok (.bipush 97, 2) := by decide +kernel
theorem d_M_valueOf_51 : decode b_M_valueOf 51 = .ok (.irem, 1) := by decide +kernel
theorem d_M_valueOf_52 : decode b_M_valueOf 52 = .ok (.ireturn, 1) := by decide +kernel
theorem d_M_inverse_0 : decode b_M_inverse 0 = .ok (.iconst 1, 1) := by decide +kernel
theorem d_M_inverse_1 : decode b_M_inverse 1 = .ok (.istore_n 1, 1) := by decide +kernel
theorem d_M_inverse_2 : decode b_M_inverse 2 = .ok (.iload_n 1, 1) := by decide +kernel
theorem d_M_inverse_3 : decode b_M_inverse 3 = .ok (.bipush 97, 2) := by decide +kernel
theorem d_M_inverse_5 : decode b_M_inverse 5 = .ok (.if_icmp .ge 21, 3) := by decide +kernel
theorem d_M_inverse_8 : decode b_M_inverse 8 = .ok (.iload_n 1, 1) := by decide +kernel
theorem d_M_inverse_9 : decode b_M_inverse 9 = .ok (.iload_n 0, 1) := by decide +kernel
theorem d_M_inverse_10 : decode b_M_inverse 10 = .ok (.imul, 1) := by decide +kernel
theorem d_M_inverse_11 : decode b_M_inverse 11 = .ok (.bipush 97, 2) := by decide +kernel
theorem d_M_inverse_13 : decode b_M_inverse 13 = .ok (.irem, 1) := by decide +kernel
theorem d_M_inverse_14 : decode b_M_inverse 14 = .ok (.iconst 1, 1) := by decide +kernel
theorem d_M_inverse_15 : decode b_M_inverse 15 = .ok (.if_icmp .ne 5, 3) := by decide +kernel
theorem d_M_inverse_18 : decode b_M_inverse 18 = .ok (.iload_n 1, 1) := by decide +kernel
theorem d_M_inverse_19 : decode b_M_inverse 19 = .ok (.ireturn, 1) := by decide +kernel
theorem d_M_inverse_20 : decode b_M_inverse 20 = .ok (.iinc 1 1, 3) := by decide +kernel
theorem d_M_inverse_23 : decode b_M_inverse 23 = .ok (.goto (-21), 3) := by decide +kernel
theorem d_M_inverse_26 : decode b_M_inverse 26 = .ok (.iconst 0, 1) := by decide +kernel
theorem d_M_inverse_27 : decode b_M_inverse 27 = .ok (.ireturn, 1) := by decide +kernel
theorem d_M_bad_0 : decode b_M_bad 0 = .ok (.iconst 0, 1) := by decide +kernel
theorem d_M_bad_1 : decode b_M_bad 1 = .ok (.istore_n 1, 1) := by decide +kernel
theorem d_M_bad_2 : decode b_M_bad 2 = .ok (.iconst 0, 1) := by decide +kernel
theorem d_M_bad_3 : decode b_M_bad 3 = .ok (.istore_n 2, 1) := by decide +kernel
theorem d_M_bad_4 : decode b_M_bad 4 = .ok (.iload_n 2, 1) := by decide +kernel
theorem d_M_bad_5 : decode b_M_bad 5 = .ok (.aload_n 0, 1) := by decide +kernel
theorem d_M_bad_6 : decode b_M_bad 6 = .ok (.getfield 142, 3) := by decide +kernel
theorem d_M_bad_9 : decode b_M_bad 9 = .ok (.if_icmp .ge 24, 3) := by decide +kernel
theorem d_M_bad_12 : decode b_M_bad 12 = .ok (.aload_n 0, 1) := by decide +kernel
theorem d_M_bad_13 : decode b_M_bad 13 = .ok (.iload_n 2, 1) := by decide +kernel
theorem d_M_bad_14 : decode b_M_bad 14 = .ok (.aload_n 0, 1) := by decide +kernel
theorem d_M_bad_15 : decode b_M_bad 15 = .ok (.getfield 47, 3) := by decide +kernel
theorem d_M_bad_18 : decode b_M_bad 18 = .ok (.invokevirtual 149, 3) := by decide +kernel
end
section
theorem d_M_bad_21 : decode b_M_bad 21 = .ok (.ifCond .ne 6, 3) := by decide +kernel
theorem d_M_bad_24 : decode b_M_bad 24 = .ok (.iinc 1 1, 3) := by decide +kernel
theorem d_M_bad_27 : decode b_M_bad 27 = .ok (.iinc 2 1, 3) := by decide +kernel
theorem d_M_bad_30 : decode b_M_bad 30 = .ok (.goto (-26), 3) := by decide +kernel
theorem d_M_bad_33 : decode b_M_bad 33 = .ok (.iload_n 1, 1) := by decide +kernel
theorem d_M_bad_34 : decode b_M_bad 34 = .ok (.ireturn, 1) := by decide +kernel
theorem d_M_holds_0 : decode b_M_holds 0 = .ok (.aload_n 0, 1) := by decide +kernel
theorem d_M_holds_1 : decode b_M_holds 1 = .ok (.iload_n 1, 1) := by decide +kernel
theorem d_M_holds_2 : decode b_M_holds 2 = .ok (.iconst 0, 1) := by decide +kernel
theorem d_M_holds_3 : decode b_M_holds 3 = .ok (.aload_n 2, 1) := by decide +kernel
theorem d_M_holds_4 : decode b_M_holds 4 = .ok (.invokevirtual 128, 3) := by decide +kernel
theorem d_M_holds_7 : decode b_M_holds 7 = .ok (.aload_n 0, 1) := by decide +kernel
theorem d_M_holds_8 : decode b_M_holds 8 = .ok (.iload_n 1, 1) := by decide +kernel
theorem d_M_holds_9 : decode b_M_holds 9 = .ok (.iconst 1, 1) := by decide +kernel
theorem d_M_holds_10 : decode b_M_holds 10 = .ok (.aload_n 2, 1) := by decide +kernel
theorem d_M_holds_11 : decode b_M_holds 11 = .ok (.invokevirtual 128, 3) := by decide +kernel
theorem d_M_holds_14 : decode b_M_holds 14 = .ok (.imul, 1) := by decide +kernel
theorem d_M_holds_15 : decode b_M_holds 15 = .ok (.bipush 97, 2) := by decide +kernel
theorem d_M_holds_17 : decode b_M_holds 17 = .ok (.irem, 1) := by decide +kernel
theorem d_M_holds_18 : decode b_M_holds 18 = .ok (.aload_n 0, 1) := by decide +kernel
theorem d_M_holds_19 : decode b_M_holds 19 = .ok (.iload_n 1, 1) := by decide +kernel
theorem d_M_holds_20 : decode b_M_holds 20 = .ok (.iconst 2, 1) := by decide +kernel
theorem d_M_holds_21 : decode b_M_holds 21 = .ok (.aload_n 2, 1) := by decide +kernel
theorem d_M_holds_22 : decode b_M_holds 22 = .ok (.invokevirtual 128, 3) := by decide +kernel
theorem d_M_holds_25 : decode b_M_holds 25 = .ok (.if_icmp .ne 7, 3) := by decide +kernel
theorem d_M_holds_28 : decode b_M_holds 28 = .ok (.iconst 1, 1) := by decide +kernel
theorem d_M_holds_29 : decode b_M_holds 29 = .ok (.goto 4, 3) := by decide +kernel
theorem d_M_holds_32 : decode b_M_holds 32 = .ok (.iconst 0, 1) := by decide +kernel
theorem d_M_holds_33 : decode b_M_holds 33 = .ok (.ireturn, 1) := by decide +kernel
theorem d_M_value_0 : decode b_M_value 0 = .ok (.aload_n 0, 1) := by decide +kernel
theorem d_M_value_1 : decode b_M_value 1 = .ok (.iconst 0, 1) := by decide +kernel
theorem d_M_value_2 : decode b_M_value 2 = .ok (.putfield 50, 3) := by decide +kernel
theorem d_M_value_5 : decode b_M_value 5 = .ok (.aload_n 0, 1) := by decide +kernel
theorem d_M_value_6 : decode b_M_value 6 = .ok (.iload_n 1, 1) := by decide +kernel
theorem d_M_value_7 : decode b_M_value 7 = .ok (.invokevirtual 86, 3) := by decide +kernel
theorem d_M_value_10 : decode b_M_value 10 = .ok (.ifCond .ne 9, 3) := by decide +kernel
theorem d_M_value_13 : decode b_M_value 13 = .ok (.aload_n 0, 1) := by decide +kernel
theorem d_M_value_14 : decode b_M_value 14 = .ok (.iconst 1, 1) := by decide +kernel
theorem d_M_value_15 : decode b_M_value 15 = .ok (.invokevirtual 117, 3) := by decide +kernel
theorem d_M_value_18 : decode b_M_value 18 = .ok (.ireturn, 1) := by decide +kernel
theorem d_M_value_19 : decode b_M_value 19 = .ok (.aload_n 0, 1) := by decide +kernel
theorem d_M_value_20 : decode b_M_value 20 = .ok (.getfield 135, 3) := by decide +kernel
theorem d_M_value_23 : decode b_M_value 23 = .ok (.ifCond .ne 9, 3) := by decide +kernel
theorem d_M_value_26 : decode b_M_value 26 = .ok (.aload_n 0, 1) := by decide +kernel
theorem d_M_value_27 : decode b_M_value 27 = .ok (.iconst 2, 1) := by decide +kernel
theorem d_M_value_28 : decode b_M_value 28 = .ok (.invokevirtual 117, 3) := by decide +kernel
theorem d_M_value_31 : decode b_M_value 31 = .ok (.ireturn, 1) := by decide +kernel
theorem d_M_value_32 : decode b_M_value 32 = .ok (.iconst 0, 1) := by decide +kernel
theorem d_M_value_33 : decode b_M_value 33 = .ok (.istore_n 2, 1) := by decide +kernel
theorem d_M_value_34 : decode b_M_value 34 = .ok (.iconst 0, 1) := by decide +kernel
theorem d_M_value_35 : decode b_M_value 35 = .ok (.istore_n 3, 1) := by decide +kernel
theorem d_M_value_36 : decode b_M_value 36 = .ok (.iload_n 3, 1) := by decide +kernel
theorem d_M_value_37 : decode b_M_value 37 = .ok (.bipush 60, 2) := by decide +kernel
theorem d_M_value_39 : decode b_M_value 39 = .ok (.if_icmp .ge 58, 3) := by decide +kernel
theorem d_M_value_42 : decode b_M_value 42 = .ok (.iload_n 3, 1) := by decide +kernel
theorem d_M_value_43 : decode b_M_value 43 = .ok (.aload_n 0, 1) := by decide +kernel
theorem d_M_value_44 : decode b_M_value 44 = .ok (.getfield 139, 3) := by decide +kernel
theorem d_M_value_47 : decode b_M_value 47 = .ok (.if_icmp .lt 23, 3) := by decide +kernel
theorem d_M_value_50 : decode b_M_value 50 = .ok (.aload_n 0, 1) := by decide +kernel
theorem d_M_value_51 : decode b_M_value 51 = .ok (.getfield 7, 3) := by decide +kernel
theorem d_M_value_54 : decode b_M_value 54 = .ok (.bipush 60, 2) := by decide +kernel
theorem d_M_value_56 : decode b_M_value 56 = .ok (.iload_n 1, 1) := by decide +kernel
theorem d_M_value_57 : decode b_M_value 57 = .ok (.imul, 1) := by decide +kernel
theorem d_M_value_58 : decode b_M_value 58 = .ok (.iload_n 3, 1) := by decide +kernel
theorem d_M_value_59 : decode b_M_value 59 = .ok (.iadd, 1) := by decide +kernel
theorem d_M_value_60 : decode b_M_value 60 = .ok (.iaload, 1) := by decide +kernel
theorem d_M_value_61 : decode b_M_value 61 = .ok (.ifCond .eq 9, 3) := by decide +kernel
theorem d_M_value_64 : decode b_M_value 64 = .ok (.aload_n 0, 1) := by decide +kernel
theorem d_M_value_65 : decode b_M_value 65 = .ok (.iconst 2, 1) := by decide +kernel
theorem d_M_value_66 : decode b_M_value 66 = .ok (.invokevirtual 117, 3) := by decide +kernel
theorem d_M_value_69 : decode b_M_value 69 = .ok (.ireturn, 1) := by decide +kernel
theorem d_M_value_70 : decode b_M_value 70 = .ok (.iload_n 2, 1) := by decide +kernel
theorem d_M_value_71 : decode b_M_value 71 = .ok (.aload_n 0, 1) := by decide +kernel
theorem d_M_value_72 : decode b_M_value 72 = .ok (.getfield 7, 3) := by decide +kernel
theorem d_M_value_75 : decode b_M_value 75 = .ok (.bipush 60, 2) := by decide +kernel
theorem d_M_value_77 : decode b_M_value 77 = .ok (.iload_n 1, 1) := by decide +kernel
theorem d_M_value_78 : decode b_M_value 78 = .ok (.imul, 1) := by decide +kernel
theorem d_M_value_79 : decode b_M_value 79 = .ok (.iload_n 3, 1) := by decide +kernel
theorem d_M_value_80 : decode b_M_value 80 = .ok (.iadd, 1) := by decide +kernel
theorem d_M_value_81 : decode b_M_value 81 = .ok (.iaload, 1) := by decide +kernel
theorem d_M_value_82 : decode b_M_value 82 = .ok (.aload_n 0, 1) := by decide +kernel
theorem d_M_value_83 : decode b_M_value 83 = .ok (.getfield 47, 3) := by decide +kernel
theorem d_M_value_86 : decode b_M_value 86 = .ok (.iload_n 3, 1) := by decide +kernel
theorem d_M_value_87 : decode b_M_value 87 = .ok (.iaload, 1) := by decide +kernel
theorem d_M_value_88 : decode b_M_value 88 = .ok (.imul, 1) := by decide +kernel
theorem d_M_value_89 : decode b_M_value 89 = .ok (.iadd, 1) := by decide +kernel
theorem d_M_value_90 : decode b_M_value 90 = .ok (.istore_n 2, 1) := by decide +kernel
theorem d_M_value_91 : decode b_M_value 91 = .ok (.iinc 3 1, 3) := by decide +kernel
theorem d_M_value_94 : decode b_M_value 94 = .ok (.goto (-58), 3) := by decide +kernel
theorem d_M_value_97 : decode b_M_value 97 = .ok (.iload_n 2, 1) := by decide +kernel
theorem d_M_value_98 : decode b_M_value 98 = .ok (.bipush 97, 2) := by decide +kernel
theorem d_M_value_100 : decode b_M_value 100 = .ok (.irem, 1) := by decide +kernel
theorem d_M_value_101 : decode b_M_value 101 = .ok (.ireturn, 1) := by decide +kernel
theorem d_M_tamper_0 : decode b_M_tamper 0 = .ok (.aload_n 0, 1) := by decide +kernel
theorem d_M_tamper_1 : decode b_M_tamper 1 = .ok (.iconst 0, 1) := by decide +kernel
theorem d_M_tamper_2 : decode b_M_tamper 2 = .ok (.putfield 50, 3) := by decide +kernel
theorem d_M_tamper_5 : decode b_M_tamper 5 = .ok (.aload_n 0, 1) := by decide +kernel
theorem d_M_tamper_6 : decode b_M_tamper 6 = .ok (.getfield 135, 3) := by decide +kernel
theorem d_M_tamper_9 : decode b_M_tamper 9 = .ok (.ifCond .ne 9, 3) := by decide +kernel
theorem d_M_tamper_12 : decode b_M_tamper 12 = .ok (.aload_n 0, 1) := by decide +kernel
theorem d_M_tamper_13 : decode b_M_tamper 13 = .ok (.iconst 1, 1) := by decide +kernel
theorem d_M_tamper_14 : decode b_M_tamper 14 = .ok (.invokevirtual 117, 3) := by decide +kernel
theorem d_M_tamper_17 : decode b_M_tamper 17 = .ok (.ireturn, 1) := by decide +kernel
theorem d_M_tamper_18 : decode b_M_tamper 18 = .ok (.iload_n 1, 1) := by decide +kernel
theorem d_M_tamper_19 : decode b_M_tamper 19 = .ok (.iconst 1, 1) := by decide +kernel
theorem d_M_tamper_20 : decode b_M_tamper 20 = .ok (.aload_n 0, 1) := by decide +kernel
theorem d_M_tamper_21 : decode b_M_tamper 21 = .ok (.getfield 139, 3) := by decide +kernel
theorem d_M_tamper_24 : decode b_M_tamper 24 = .ok (.iconst 1, 1) := by decide +kernel
theorem d_M_tamper_25 : decode b_M_tamper 25 = .ok (.isub, 1) := by decide +kernel
theorem d_M_tamper_26 : decode b_M_tamper 26 = .ok (.invokestatic 56, 3) := by decide +kernel
theorem d_M_tamper_29 : decode b_M_tamper 29 = .ok (.ifCond .ne 9, 3) := by decide +kernel
theorem d_M_tamper_32 : decode b_M_tamper 32 = .ok (.aload_n 0, 1) := by decide +kernel
theorem d_M_tamper_33 : decode b_M_tamper 33 = .ok (.iconst 2, 1) := by decide +kernel
theorem d_M_tamper_34 : decode b_M_tamper 34 = .ok (.invokevirtual 117, 3) := by decide +kernel
theorem d_M_tamper_37 : decode b_M_tamper 37 = .ok (.ireturn, 1) := by decide +kernel
theorem d_M_tamper_38 : decode b_M_tamper 38 = .ok (.aload_n 0, 1) := by decide +kernel
theorem d_M_tamper_39 : decode b_M_tamper 39 = .ok (.getfield 47, 3) := by decide +kernel
theorem d_M_tamper_42 : decode b_M_tamper 42 = .ok (.iload_n 1, 1) := by decide +kernel
theorem d_M_tamper_43 : decode b_M_tamper 43 = .ok (.iaload, 1) := by decide +kernel
theorem d_M_tamper_44 : decode b_M_tamper 44 = .ok (.istore_n 3, 1) := by decide +kernel
theorem d_M_tamper_45 : decode b_M_tamper 45 = .ok (.aload_n 0, 1) := by decide +kernel
theorem d_M_tamper_46 : decode b_M_tamper 46 = .ok (.getfield 47, 3) := by decide +kernel
theorem d_M_tamper_49 : decode b_M_tamper 49 = .ok (.iload_n 1, 1) := by decide +kernel
theorem d_M_tamper_50 : decode b_M_tamper 50 = .ok (.iload_n 2, 1) := by decide +kernel
theorem d_M_tamper_51 : decode b_M_tamper 51 = .ok (.invokestatic 60, 3) := by decide +kernel
theorem d_M_tamper_54 : decode b_M_tamper 54 = .ok (.iastore, 1) := by decide +kernel
theorem d_M_tamper_55 : decode b_M_tamper 55 = .ok (.iload_n 3, 1) := by decide +kernel
theorem d_M_tamper_56 : decode b_M_tamper 56 = .ok (.ireturn, 1) := by decide +kernel
theorem d_M_broken_0 : decode b_M_broken 0 = .ok (.aload_n 0, 1) := by decide +kernel
theorem d_M_broken_1 : decode b_M_broken 1 = .ok (.iconst 0, 1) := by decide +kernel
theorem d_M_broken_2 : decode b_M_broken 2 = .ok (.putfield 50, 3) := by decide +kernel
theorem d_M_broken_5 : decode b_M_broken 5 = .ok (.aload_n 0, 1) := by decide +kernel
theorem d_M_broken_6 : decode b_M_broken 6 = .ok (.getfield 135, 3) := by decide +kernel
theorem d_M_broken_9 : decode b_M_broken 9 = .ok (.ifCond .eq 10, 3) := by decide +kernel
theorem d_M_broken_12 : decode b_M_broken 12 = .ok (.aload_n 0, 1) := by decide +kernel
theorem d_M_broken_13 : decode b_M_broken 13 = .ok (.invokevirtual 145, 3) := by decide +kernel
theorem d_M_broken_16 : decode b_M_broken 16 = .ok (.goto 8, 3) := by decide +kernel
theorem d_M_broken_19 : decode b_M_broken 19 = .ok (.aload_n 0, 1) := by decide +kernel
theorem d_M_broken_20 : decode b_M_broken 20 = .ok (.iconst 1, 1) := by decide +kernel
theorem d_M_broken_21 : decode b_M_broken 21 = .ok (.invokevirtual 117, 3) := by decide +kernel
theorem d_M_broken_24 : decode b_M_broken 24 = .ok (.ireturn, 1) := by decide +kernel
theorem d_M_first_0 : decode b_M_first 0 = .ok (.aload_n 0, 1) := by decide +kernel
theorem d_M_first_1 : decode b_M_first 1 = .ok (.iconst 0, 1) := by decide +kernel
theorem d_M_first_2 : decode b_M_first 2 = .ok (.putfield 50, 3) := by decide +kernel
theorem d_M_first_5 : decode b_M_first 5 = .ok (.aload_n 0, 1) := by decide +kernel
theorem d_M_first_6 : decode b_M_first 6 = .ok (.getfield 135, 3) := by decide +kernel
theorem d_M_first_9 : decode b_M_first 9 = .ok (.ifCond .ne 9, 3) := by decide +kernel
theorem d_M_first_12 : decode b_M_first 12 = .ok (.aload_n 0, 1) := by decide +kernel
theorem d_M_first_13 : decode b_M_first 13 = .ok (.iconst 1, 1) := by decide +kernel
theorem d_M_first_14 : decode b_M_first 14 = .ok (.invokevirtual 117, 3) := by decide +kernel
theorem d_M_first_17 : decode b_M_first 17 = .ok (.ireturn, 1) := by decide +kernel
theorem d_M_first_18 : decode b_M_first 18 = .ok (.iconst 0, 1) := by decide +kernel
theorem d_M_first_19 : decode b_M_first 19 = .ok (.istore_n 1, 1) := by decide +kernel
theorem d_M_first_20 : decode b_M_first 20 = .ok (.iload_n 1, 1) := by decide +kernel
theorem d_M_first_21 : decode b_M_first 21 = .ok (.aload_n 0, 1) := by decide +kernel
theorem d_M_first_22 : decode b_M_first 22 = .ok (.getfield 142, 3) := by decide +kernel
theorem d_M_first_25 : decode b_M_first 25 = .ok (.if_icmp .ge 23, 3) := by decide +kernel
theorem d_M_first_28 : decode b_M_first 28 = .ok (.aload_n 0, 1) := by decide +kernel
theorem d_M_first_29 : decode b_M_first 29 = .ok (.iload_n 1, 1) := by decide +kernel
theorem d_M_first_30 : decode b_M_first 30 = .ok (.aload_n 0, 1) := by decide +kernel
theorem d_M_first_31 : decode b_M_first 31 = .ok (.getfield 47, 3) := by decide +kernel
theorem d_M_first_34 : decode b_M_first 34 = .ok (.invokevirtual 149, 3) := by decide +kernel
theorem d_M_first_37 : decode b_M_first 37 = .ok (.ifCond .ne 5, 3) := by decide +kernel
theorem d_M_first_40 : decode b_M_first 40 = .ok (.iload_n 1, 1) := by decide +kernel
theorem d_M_first_41 : decode b_M_first 41 = .ok (.ireturn, 1) := by decide +kernel
theorem d_M_first_42 : decode b_M_first 42 = .ok (.iinc 1 1, 3) := by decide +kernel
theorem d_M_first_45 : decode b_M_first 45 = .ok (.goto (-25), 3) := by decide +kernel
theorem d_M_first_48 : decode b_M_first 48 = .ok (.aload_n 0, 1) := by decide +kernel
theorem d_M_first_49 : decode b_M_first 49 = .ok (.iconst 2, 1) := by decide +kernel
theorem d_M_first_50 : decode b_M_first 50 = .ok (.invokevirtual 117, 3) := by decide +kernel
theorem d_M_first_53 : decode b_M_first 53 = .ok (.ireturn, 1) := by decide +kernel
theorem d_M_coefficient_0 : decode b_M_coefficient 0 = .ok (.aload_n 0, 1) := by decide +kernel
theorem d_M_coefficient_1 : decode b_M_coefficient 1 = .ok (.iconst 0, 1) := by decide +kernel
theorem d_M_coefficient_2 : decode b_M_coefficient 2 = .ok (.putfield 50, 3) := by decide +kernel
theorem d_M_coefficient_5 : decode b_M_coefficient 5 = .ok (.iload_n 1, 1) := by decide +kernel
theorem d_M_coefficient_6 : decode b_M_coefficient 6 = .ok (.iconst 0, 1) := by decide +kernel
theorem d_M_coefficient_7 : decode b_M_coefficient 7 = .ok (.aload_n 0, 1) := by decide +kernel
theorem d_M_coefficient_8 : decode b_M_coefficient 8 = .ok (.getfield 72, 3) := by decide +kernel
theorem d_M_coefficient_11 : decode b_M_coefficient 11 = .ok (.iconst 1, 1) := by decide +kernel
theorem d_M_coefficient_12 : decode b_M_coefficient 12 = .ok (.isub, 1) := by decide +kernel
theorem d_M_coefficient_13 : decode b_M_coefficient 13 = .ok (.invokestatic 56, 3) := by decide +kernel
theorem d_M_coefficient_16 : decode b_M_coefficient 16 = .ok (.ifCond .ne 9, 3) := by decide +kernel
theorem d_M_coefficient_19 : decode b_M_coefficient 19 = .ok (.aload_n 0, 1) := by decide +kernel
theorem d_M_coefficient_20 : decode b_M_coefficient 20 = .ok (.iconst 1, 1) := by decide +kernel
theorem d_M_coefficient_21 : decode b_M_coefficient 21 = .ok (.invokevirtual 117, 3) := by decide +kernel
theorem d_M_coefficient_24 : decode b_M_coefficient 24 = .ok (.ireturn, 1) := by decide +kernel
theorem d_M_coefficient_25 : decode b_M_coefficient 25 = .ok (.iload_n 2, 1) := by decide +kernel
theorem d_M_coefficient_26 : decode b_M_coefficient 26 = .ok (.iconst 0, 1) := by decide +kernel
theorem d_M_coefficient_27 : decode b_M_coefficient 27 = .ok (.iconst 2, 1) := by decide +kernel
theorem d_M_coefficient_28 : decode b_M_coefficient 28 = .ok (.invokestatic 56, 3) := by decide +kernel
theorem d_M_coefficient_31 : decode b_M_coefficient 31 = .ok (.ifCond .eq 33, 3) := by decide +kernel
theorem d_M_coefficient_34 : decode b_M_coefficient 34 = .ok (.iload_n 3, 1) := by decide +kernel
theorem d_M_coefficient_35 : decode b_M_coefficient 35 = .ok (.iconst 0, 1) := by decide +kernel
theorem d_M_coefficient_36 : decode b_M_coefficient 36 = .ok (.bipush 59, 2) := by decide +kernel
theorem d_M_coefficient_38 : decode b_M_coefficient 38 = .ok (.invokestatic 56, 3) := by decide +kernel
theorem d_M_coefficient_41 : decode b_M_coefficient 41 = .ok (.ifCond .eq 23, 3) := by decide +kernel
theorem d_M_coefficient_44 : decode b_M_coefficient 44 = .ok (.aload_n 0, 1) := by decide +kernel
theorem d_M_coefficient_45 : decode b_M_coefficient 45 = .ok (.getfield 32, 3) := by decide +kernel
theorem d_M_coefficient_48 : decode b_M_coefficient 48 = .ok (.sipush 180, 3) := by decide +kernel
theorem d_M_coefficient_51 : decode b_M_coefficient 51 = .ok (.iload_n 1, 1) := by decide +kernel
theorem d_M_coefficient_52 : decode b_M_coefficient 52 = .ok (.imul, 1) := by decide +kernel
theorem d_M_coefficient_53 : decode b_M_coefficient 53 = .ok (.bipush 60, 2) := by decide +kernel
theorem d_M_coefficient_55 : decode b_M_coefficient 55 = .ok (.iload_n 2, 1) := by decide +kernel
theorem d_M_coefficient_56 : decode b_M_coefficient 56 = .ok (.imul, 1) := by decide +kernel
theorem d_M_coefficient_57 : decode b_M_coefficient 57 = .ok (.iadd, 1) := by decide +kernel
theorem d_M_coefficient_58 : decode b_M_coefficient 58 = .ok (.iload_n 3, 1) := by decide +kernel
theorem d_M_coefficient_59 : decode b_M_coefficient 59 = .ok (.iadd, 1) := by decide +kernel
theorem d_M_coefficient_60 : decode b_M_coefficient 60 = .ok (.iaload, 1) := by decide +kernel
theorem d_M_coefficient_61 : decode b_M_coefficient 61 = .ok (.goto 8, 3) := by decide +kernel
theorem d_M_coefficient_64 : decode b_M_coefficient 64 = .ok (.aload_n 0, 1) := by decide +kernel
theorem d_M_coefficient_65 : decode b_M_coefficient 65 = .ok (.iconst 2, 1) := by decide +kernel
theorem d_M_coefficient_66 : decode b_M_coefficient 66 = .ok (.invokevirtual 117, 3) := by decide +kernel
theorem d_M_coefficient_69 : decode b_M_coefficient 69 = .ok (.ireturn, 1) := by decide +kernel
theorem d_M_terms_0 : decode b_M_terms 0 = .ok (.aload_n 0, 1) := by decide +kernel
theorem d_M_terms_1 : decode b_M_terms 1 = .ok (.iconst 0, 1) := by decide +kernel
theorem d_M_terms_2 : decode b_M_terms 2 = .ok (.putfield 50, 3) := by decide +kernel
theorem d_M_terms_5 : decode b_M_terms 5 = .ok (.aload_n 0, 1) := by decide +kernel
theorem d_M_terms_6 : decode b_M_terms 6 = .ok (.iload_n 1, 1) := by decide +kernel
theorem d_M_terms_7 : decode b_M_terms 7 = .ok (.invokevirtual 86, 3) := by decide +kernel
theorem d_M_terms_10 : decode b_M_terms 10 = .ok (.ifCond .ne 9, 3) := by decide +kernel
theorem d_M_terms_13 : decode b_M_terms 13 = .ok (.aload_n 0, 1) := by decide +kernel
theorem d_M_terms_14 : decode b_M_terms 14 = .ok (.iconst 1, 1) := by decide +kernel
theorem d_M_terms_15 : decode b_M_terms 15 = .ok (.invokevirtual 117, 3) := by decide +kernel
theorem d_M_terms_18 : decode b_M_terms 18 = .ok (.ireturn, 1) := by decide +kernel
theorem d_M_terms_19 : decode b_M_terms 19 = .ok (.iconst 0, 1) := by decide +kernel
theorem d_M_terms_20 : decode b_M_terms 20 = .ok (.istore_n 2, 1) := by decide +kernel
theorem d_M_terms_21 : decode b_M_terms 21 = .ok (.iconst 0, 1) := by decide +kernel
theorem d_M_terms_22 : decode b_M_terms 22 = .ok (.istore_n 3, 1) := by decide +kernel
theorem d_M_terms_23 : decode b_M_terms 23 = .ok (.iload_n 3, 1) := by decide +kernel
theorem d_M_terms_24 : decode b_M_terms 24 = .ok (.bipush 60, 2) := by decide +kernel
theorem d_M_terms_26 : decode b_M_terms 26 = .ok (.if_icmp .ge 26, 3) := by decide +kernel
theorem d_M_terms_29 : decode b_M_terms 29 = .ok (.aload_n 0, 1) := by decide +kernel
theorem d_M_terms_30 : decode b_M_terms 30 = .ok (.getfield 7, 3) := by decide +kernel
theorem d_M_terms_33 : decode b_M_terms 33 = .ok (.bipush 60, 2) := by decide +kernel
theorem d_M_terms_35 : decode b_M_terms 35 = .ok (.iload_n 1, 1) := by decide +kernel
theorem d_M_terms_36 : decode b_M_terms 36 = .ok (.imul, 1) := by decide +kernel
theorem d_M_terms_37 : decode b_M_terms 37 = .ok (.iload_n 3, 1) := by decide +kernel
theorem d_M_terms_38 : decode b_M_terms 38 = .ok (.iadd, 1) := by decide +kernel
theorem d_M_terms_39 : decode b_M_terms 39 = .ok (.iaload, 1) := by decide +kernel
theorem d_M_terms_40 : decode b_M_terms 40 = .ok (.ifCond .eq 6, 3) := by decide +kernel
theorem d_M_terms_43 : decode b_M_terms 43 = .ok (.iinc 2 1, 3) := by decide +kernel
theorem d_M_terms_46 : decode b_M_terms 46 = .ok (.iinc 3 1, 3) := by decide +kernel
theorem d_M_terms_49 : decode b_M_terms 49 = .ok (.goto (-26), 3) := by decide +kernel
theorem d_M_terms_52 : decode b_M_terms 52 = .ok (.iload_n 2, 1) := by decide +kernel
theorem d_M_terms_53 : decode b_M_terms 53 = .ok (.ireturn, 1) := by decide +kernel
theorem d_M_uses_0 : decode b_M_uses 0 = .ok (.aload_n 0, 1) := by decide +kernel
theorem d_M_uses_1 : decode b_M_uses 1 = .ok (.iconst 0, 1) := by decide +kernel
theorem d_M_uses_2 : decode b_M_uses 2 = .ok (.putfield 50, 3) := by decide +kernel
theorem d_M_uses_5 : decode b_M_uses 5 = .ok (.iload_n 1, 1) := by decide +kernel
theorem d_M_uses_6 : decode b_M_uses 6 = .ok (.iconst 0, 1) := by decide +kernel
theorem d_M_uses_7 : decode b_M_uses 7 = .ok (.bipush 59, 2) := by decide +kernel
theorem d_M_uses_9 : decode b_M_uses 9 = .ok (.invokestatic 56, 3) := by decide +kernel
theorem d_M_uses_12 : decode b_M_uses 12 = .ok (.ifCond .ne 9, 3) := by decide +kernel
theorem d_M_uses_15 : decode b_M_uses 15 = .ok (.aload_n 0, 1) := by decide +kernel
theorem d_M_uses_16 : decode b_M_uses 16 = .ok (.iconst 1, 1) := by decide +kernel
theorem d_M_uses_17 : decode b_M_uses 17 = .ok (.invokevirtual 117, 3) := by decide +kernel
theorem d_M_uses_20 : decode b_M_uses 20 = .ok (.ireturn, 1) := by decide +kernel
theorem d_M_uses_21 : decode b_M_uses 21 = .ok (.iconst 0, 1) := by decide +kernel
theorem d_M_uses_22 : decode b_M_uses 22 = .ok (.istore_n 2, 1) := by decide +kernel
theorem d_M_uses_23 : decode b_M_uses 23 = .ok (.iconst 0, 1) := by decide +kernel
theorem d_M_uses_24 : decode b_M_uses 24 = .ok (.istore_n 3, 1) := by decide +kernel
theorem d_M_uses_25 : decode b_M_uses 25 = .ok (.iload_n 3, 1) := by decide +kernel
theorem d_M_uses_26 : decode b_M_uses 26 = .ok (.aload_n 0, 1) := by decide +kernel
theorem d_M_uses_27 : decode b_M_uses 27 = .ok (.getfield 72, 3) := by decide +kernel
theorem d_M_uses_30 : decode b_M_uses 30 = .ok (.if_icmp .ge 57, 3) := by decide +kernel
theorem d_M_uses_33 : decode b_M_uses 33 = .ok (.sipush 180, 3) := by decide +kernel
theorem d_M_uses_36 : decode b_M_uses 36 = .ok (.iload_n 3, 1) := by decide +kernel
theorem d_M_uses_37 : decode b_M_uses 37 = .ok (.imul, 1) := by decide +kernel
theorem d_M_uses_38 : decode b_M_uses 38 = .ok (.iload_n 1, 1) := by decide +kernel
theorem d_M_uses_39 : decode b_M_uses 39 = .ok (.iadd, 1) := by decide +kernel
theorem d_M_uses_40 : decode b_M_uses 40 = .ok (.istore 4, 2) := by decide +kernel
theorem d_M_uses_42 : decode b_M_uses 42 = .ok (.aload_n 0, 1) := by decide +kernel
theorem d_M_uses_43 : decode b_M_uses 43 = .ok (.getfield 32, 3) := by decide +kernel
theorem d_M_uses_46 : decode b_M_uses 46 = .ok (.iload 4, 2) := by decide +kernel
theorem d_M_uses_48 : decode b_M_uses 48 = .ok (.iaload, 1) := by decide +kernel
theorem d_M_uses_49 : decode b_M_uses 49 = .ok (.ifCond .ne 29, 3) := by decide +kernel
theorem d_M_uses_52 : decode b_M_uses 52 = .ok (.aload_n 0, 1) := by decide +kernel
theorem d_M_uses_53 : decode b_M_uses 53 = .ok (.getfield 32, 3) := by decide +kernel
theorem d_M_uses_56 : decode b_M_uses 56 = .ok (.iload 4, 2) := by decide +kernel
theorem d_M_uses_58 : decode b_M_uses 58 = .ok (.bipush 60, 2) := by decide +kernel
theorem d_M_uses_60 : decode b_M_uses 60 = .ok (.iadd, 1) := by decide +kernel
theorem d_M_uses_61 : decode b_M_uses 61 = .ok (.iaload, 1) := by decide +kernel
theorem d_M_uses_62 : decode b_M_uses 62 = .ok (.ifCond .ne 16, 3) := by decide +kernel
theorem d_M_uses_65 : decode b_M_uses 65 = .ok (.aload_n 0, 1) := by decide +kernel
theorem d_M_uses_66 : decode b_M_uses 66 = .ok (.getfield 32, 3) := by decide +kernel
theorem d_M_uses_69 : decode b_M_uses 69 = .ok (.iload 4, 2) := by decide +kernel
theorem d_M_uses_71 : decode b_M_uses 71 = .ok (.bipush 120, 2) := by decide +kernel
theorem d_M_uses_73 : decode b_M_uses 73 = .ok (.iadd, 1) := by decide +kernel
theorem d_M_uses_74 : decode b_M_uses 74 = .ok (.iaload, 1) := by decide +kernel
theorem d_M_uses_75 : decode b_M_uses 75 = .ok (.ifCond .eq 6, 3) := by decide +kernel
theorem d_M_uses_78 : decode b_M_uses 78 = .ok (.iinc 2 1, 3) := by decide +kernel
theorem d_M_uses_81 : decode b_M_uses 81 = .ok (.iinc 3 1, 3) := by decide +kernel
theorem d_M_uses_84 : decode b_M_uses 84 = .ok (.goto (-59), 3) := by decide +kernel
theorem d_M_uses_87 : decode b_M_uses 87 = .ok (.iload_n 2, 1) := by decide +kernel
theorem d_M_uses_88 : decode b_M_uses 88 = .ok (.ireturn, 1) := by decide +kernel
theorem d_M_count_0 : decode b_M_count 0 = .ok (.aload_n 0, 1) := by decide +kernel
theorem d_M_count_1 : decode b_M_count 1 = .ok (.iconst 0, 1) := by decide +kernel
theorem d_M_count_2 : decode b_M_count 2 = .ok (.putfield 50, 3) := by decide +kernel
theorem d_M_count_5 : decode b_M_count 5 = .ok (.iconst 0, 1) := by decide +kernel
theorem d_M_count_6 : decode b_M_count 6 = .ok (.istore_n 2, 1) := by decide +kernel
theorem d_M_count_7 : decode b_M_count 7 = .ok (.iload_n 1, 1) := by decide +kernel
theorem d_M_count_8 : decode b_M_count 8 = .ok (.tableswitch 115 0 5 #[40, 45, 50, 55, 86, 99], 40) := by decide +kernel
theorem d_M_count_48 : decode b_M_count 48 = .ok (.aload_n 0, 1) := by decide +kernel
theorem d_M_count_49 : decode b_M_count 49 = .ok (.getfield 53, 3) := by decide +kernel
theorem d_M_count_52 : decode b_M_count 52 = .ok (.ireturn, 1) := by decide +kernel
theorem d_M_count_53 : decode b_M_count 53 = .ok (.aload_n 0, 1) := by decide +kernel
theorem d_M_count_54 : decode b_M_count 54 = .ok (.getfield 28, 3) := by decide +kernel
theorem d_M_count_57 : decode b_M_count 57 = .ok (.ireturn, 1) := by decide +kernel
theorem d_M_count_58 : decode b_M_count 58 = .ok (.aload_n 0, 1) := by decide +kernel
theorem d_M_count_59 : decode b_M_count 59 = .ok (.getfield 72, 3) := by decide +kernel
theorem d_M_count_62 : decode b_M_count 62 = .ok (.ireturn, 1) := by decide +kernel
theorem d_M_count_63 : decode b_M_count 63 = .ok (.iconst 0, 1) := by decide +kernel
theorem d_M_count_64 : decode b_M_count 64 = .ok (.istore_n 3, 1) := by decide +kernel
theorem d_M_count_65 : decode b_M_count 65 = .ok (.iload_n 3, 1) := by decide +kernel
theorem d_M_count_66 : decode b_M_count 66 = .ok (.aload_n 0, 1) := by decide +kernel
theorem d_M_count_67 : decode b_M_count 67 = .ok (.getfield 53, 3) := by decide +kernel
theorem d_M_count_70 : decode b_M_count 70 = .ok (.if_icmp .ge 22, 3) := by decide +kernel
theorem d_M_count_73 : decode b_M_count 73 = .ok (.aload_n 0, 1) := by decide +kernel
theorem d_M_count_74 : decode b_M_count 74 = .ok (.getfield 13, 3) := by decide +kernel
theorem d_M_count_77 : decode b_M_count 77 = .ok (.iload_n 3, 1) := by decide +kernel
theorem d_M_count_78 : decode b_M_count 78 = .ok (.iaload, 1) := by decide +kernel
theorem d_M_count_79 : decode b_M_count 79 = .ok (.iconst 1, 1) := by decide +kernel
theorem d_M_count_80 : decode b_M_count 80 = .ok (.if_icmp .ne 6, 3) := by decide +kernel
theorem d_M_count_83 : decode b_M_count 83 = .ok (.iinc 2 1, 3) := by decide +kernel
theorem d_M_count_86 : decode b_M_count 86 = .ok (.iinc 3 1, 3) := by decide +kernel
theorem d_M_count_89 : decode b_M_count 89 = .ok (.goto (-24), 3) := by decide +kernel
theorem d_M_count_92 : decode b_M_count 92 = .ok (.iload_n 2, 1) := by decide +kernel
theorem d_M_count_93 : decode b_M_count 93 = .ok (.ireturn, 1) := by decide +kernel
theorem d_M_count_94 : decode b_M_count 94 = .ok (.aload_n 0, 1) := by decide +kernel
theorem d_M_count_95 : decode b_M_count 95 = .ok (.getfield 135, 3) := by decide +kernel
theorem d_M_count_98 : decode b_M_count 98 = .ok (.ifCond .eq 7, 3) := by decide +kernel
theorem d_M_count_101 : decode b_M_count 101 = .ok (.iconst 1, 1) := by decide +kernel
theorem d_M_count_102 : decode b_M_count 102 = .ok (.goto 4, 3) := by decide +kernel
theorem d_M_count_105 : decode b_M_count 105 = .ok (.iconst 0, 1) := by decide +kernel
theorem d_M_count_106 : decode b_M_count 106 = .ok (.ireturn, 1) := by decide +kernel
theorem d_M_count_107 : decode b_M_count 107 = .ok (.aload_n 0, 1) := by decide +kernel
theorem d_M_count_108 : decode b_M_count 108 = .ok (.getfield 135, 3) := by decide +kernel
theorem d_M_count_111 : decode b_M_count 111 = .ok (.ifCond .eq 10, 3) := by decide +kernel
theorem d_M_count_114 : decode b_M_count 114 = .ok (.aload_n 0, 1) := by decide +kernel
theorem d_M_count_115 : decode b_M_count 115 = .ok (.getfield 139, 3) := by decide +kernel
theorem d_M_count_118 : decode b_M_count 118 = .ok (.goto 4, 3) := by decide +kernel
theorem d_M_count_121 : decode b_M_count 121 = .ok (.iconst 0, 1) := by decide +kernel
theorem d_M_count_122 : decode b_M_count 122 = .ok (.ireturn, 1) := by decide +kernel
theorem d_M_count_123 : decode b_M_count 123 = .ok (.aload_n 0, 1) := by decide +kernel
theorem d_M_count_124 : decode b_M_count 124 = .ok (.iconst 1, 1) := by decide +kernel
theorem d_M_count_125 : decode b_M_count 125 = .ok (.invokevirtual 117, 3) := by decide +kernel
theorem d_M_count_128 : decode b_M_count 128 = .ok (.ireturn, 1) := by decide +kernel
theorem d_L_law_0 : decode b_L_law 0 = .ok (.new 8, 3) := by decide +kernel
theorem d_L_law_3 : decode b_L_law 3 = .ok (.dup, 1) := by decide +kernel
theorem d_L_law_4 : decode b_L_law 4 = .ok (.invokespecial 60, 3) := by decide +kernel
theorem d_L_law_7 : decode b_L_law 7 = .ok (.astore_n 1, 1) := by decide +kernel
theorem d_L_law_8 : decode b_L_law 8 = .ok (.new 61, 3) := by decide +kernel
theorem d_L_law_11 : decode b_L_law 11 = .ok (.dup, 1) := by decide +kernel
theorem d_L_law_12 : decode b_L_law 12 = .ok (.invokespecial 63, 3) := by decide +kernel
theorem d_L_law_15 : decode b_L_law 15 = .ok (.astore_n 2, 1) := by decide +kernel
theorem d_L_law_16 : decode b_L_law 16 = .ok (.iconst 1, 1) := by decide +kernel
theorem d_L_law_17 : decode b_L_law 17 = .ok (.newarray .long, 2) := by decide +kernel
theorem d_L_law_19 : decode b_L_law 19 = .ok (.astore_n 3, 1) := by decide +kernel
theorem d_L_law_20 : decode b_L_law 20 = .ok (.iconst 0, 1) := by decide +kernel
theorem d_L_law_21 : decode b_L_law 21 = .ok (.istore 4, 2) := by decide +kernel
theorem d_L_law_23 : decode b_L_law 23 = .ok (.iload 4, 2) := by decide +kernel
theorem d_L_law_25 : decode b_L_law 25 = .ok (.aload_n 0, 1) := by decide +kernel
theorem d_L_law_26 : decode b_L_law 26 = .ok (.arraylength, 1) := by decide +kernel
theorem d_L_law_27 : decode b_L_law 27 = .ok (.iconst 5, 1) := by decide +kernel
theorem d_L_law_28 : decode b_L_law 28 = .ok (.isub, 1) := by decide +kernel
theorem d_L_law_29 : decode b_L_law 29 = .ok (.if_icmp .gt 821, 3) := by decide +kernel
theorem d_L_law_32 : decode b_L_law 32 = .ok (.aload_n 0, 1) := by decide +kernel
theorem d_L_law_33 : decode b_L_law 33 = .ok (.iload 4, 2) := by decide +kernel
theorem d_L_law_35 : decode b_L_law 35 = .ok (.iaload, 1) := by decide +kernel
theorem d_L_law_36 : decode b_L_law 36 = .ok (.bipush 15, 2) := by decide +kernel
theorem d_L_law_38 : decode b_L_law 38 = .ok (.iand, 1) := by decide +kernel
theorem d_L_law_39 : decode b_L_law 39 = .ok (.tableswitch 805 0 11 #[61, 153, 233, 301, 345, 401, 469, 513, 557, 637, 693, 749], 61) := by decide +kernel
theorem d_L_law_100 : decode b_L_law 100 = .ok (.aload_n 1, 1) := by decide +kernel
theorem d_L_law_101 : decode b_L_law 101 = .ok (.aload_n 0, 1) := by decide +kernel
theorem d_L_law_102 : decode b_L_law 102 = .ok (.iload 4, 2) := by decide +kernel
theorem d_L_law_104 : decode b_L_law 104 = .ok (.iconst 1, 1) := by decide +kernel
theorem d_L_law_105 : decode b_L_law 105 = .ok (.iadd, 1) := by decide +kernel
theorem d_L_law_106 : decode b_L_law 106 = .ok (.iaload, 1) := by decide +kernel
theorem d_L_law_107 : decode b_L_law 107 = .ok (.aload_n 0, 1) := by decide +kernel
theorem d_L_law_108 : decode b_L_law 108 = .ok (.iload 4, 2) := by decide +kernel
theorem d_L_law_110 : decode b_L_law 110 = .ok (.iconst 2, 1) := by decide +kernel
theorem d_L_law_111 : decode b_L_law 111 = .ok (.iadd, 1) := by decide +kernel
theorem d_L_law_112 : decode b_L_law 112 = .ok (.iaload, 1) := by decide +kernel
theorem d_L_law_113 : decode b_L_law 113 = .ok (.aload_n 0, 1) := by decide +kernel
theorem d_L_law_114 : decode b_L_law 114 = .ok (.iload 4, 2) := by decide +kernel
theorem d_L_law_116 : decode b_L_law 116 = .ok (.iconst 3, 1) := by decide +kernel
theorem d_L_law_117 : decode b_L_law 117 = .ok (.iadd, 1) := by decide +kernel
theorem d_L_law_118 : decode b_L_law 118 = .ok (.iaload, 1) := by decide +kernel
theorem d_L_law_119 : decode b_L_law 119 = .ok (.aload_n 0, 1) := by decide +kernel
theorem d_L_law_120 : decode b_L_law 120 = .ok (.iload 4, 2) := by decide +kernel
theorem d_L_law_122 : decode b_L_law 122 = .ok (.iconst 4, 1) := by decide +kernel
theorem d_L_law_123 : decode b_L_law 123 = .ok (.iadd, 1) := by decide +kernel
theorem d_L_law_124 : decode b_L_law 124 = .ok (.iaload, 1) := by decide +kernel
theorem d_L_law_125 : decode b_L_law 125 = .ok (.aload_n 3, 1) := by decide +kernel
theorem d_L_law_126 : decode b_L_law 126 = .ok (.invokestatic 64, 3) := by decide +kernel
theorem d_L_law_129 : decode b_L_law 129 = .ok (.istore 5, 2) := by decide +kernel
theorem d_L_law_131 : decode b_L_law 131 = .ok (.aload_n 2, 1) := by decide +kernel
theorem d_L_law_132 : decode b_L_law 132 = .ok (.aload_n 0, 1) := by decide +kernel
theorem d_L_law_133 : decode b_L_law 133 = .ok (.iload 4, 2) := by decide +kernel
theorem d_L_law_135 : decode b_L_law 135 = .ok (.iconst 1, 1) := by decide +kernel
theorem d_L_law_136 : decode b_L_law 136 = .ok (.iadd, 1) := by decide +kernel
theorem d_L_law_137 : decode b_L_law 137 = .ok (.iaload, 1) := by decide +kernel
theorem d_L_law_138 : decode b_L_law 138 = .ok (.aload_n 0, 1) := by decide +kernel
theorem d_L_law_139 : decode b_L_law 139 = .ok (.iload 4, 2) := by decide +kernel
theorem d_L_law_141 : decode b_L_law 141 = .ok (.iconst 2, 1) := by decide +kernel
theorem d_L_law_142 : decode b_L_law 142 = .ok (.iadd, 1) := by decide +kernel
theorem d_L_law_143 : decode b_L_law 143 = .ok (.iaload, 1) := by decide +kernel
theorem d_L_law_144 : decode b_L_law 144 = .ok (.aload_n 0, 1) := by decide +kernel
theorem d_L_law_145 : decode b_L_law 145 = .ok (.iload 4, 2) := by decide +kernel
theorem d_L_law_147 : decode b_L_law 147 = .ok (.iconst 3, 1) := by decide +kernel
theorem d_L_law_148 : decode b_L_law 148 = .ok (.iadd, 1) := by decide +kernel
theorem d_L_law_149 : decode b_L_law 149 = .ok (.iaload, 1) := by decide +kernel
theorem d_L_law_150 : decode b_L_law 150 = .ok (.aload_n 0, 1) := by decide +kernel
theorem d_L_law_151 : decode b_L_law 151 = .ok (.iload 4, 2) := by decide +kernel
theorem d_L_law_153 : decode b_L_law 153 = .ok (.iconst 4, 1) := by decide +kernel
theorem d_L_law_154 : decode b_L_law 154 = .ok (.iadd, 1) := by decide +kernel
theorem d_L_law_155 : decode b_L_law 155 = .ok (.iaload, 1) := by decide +kernel
theorem d_L_law_156 : decode b_L_law 156 = .ok (.invokevirtual 69, 3) := by decide +kernel
theorem d_L_law_159 : decode b_L_law 159 = .ok (.istore 6, 2) := by decide +kernel
theorem d_L_law_161 : decode b_L_law 161 = .ok (.aload_n 2, 1) := by decide +kernel
theorem d_L_law_162 : decode b_L_law 162 = .ok (.invokevirtual 70, 3) := by decide +kernel
theorem d_L_law_165 : decode b_L_law 165 = .ok (.iload 5, 2) := by decide +kernel
theorem d_L_law_167 : decode b_L_law 167 = .ok (.if_icmp .eq 5, 3) := by decide +kernel
theorem d_L_law_170 : decode b_L_law 170 = .ok (.iconst 0, 1) := by decide +kernel
theorem d_L_law_171 : decode b_L_law 171 = .ok (.ireturn, 1) := by decide +kernel
theorem d_L_law_172 : decode b_L_law 172 = .ok (.iload 5, 2) := by decide +kernel
theorem d_L_law_174 : decode b_L_law 174 = .ok (.ifCond .ne 15, 3) := by decide +kernel
theorem d_L_law_177 : decode b_L_law 177 = .ok (.aload_n 3, 1) := by decide +kernel
theorem d_L_law_178 : decode b_L_law 178 = .ok (.iconst 0, 1) := by decide +kernel
theorem d_L_law_179 : decode b_L_law 179 = .ok (.laload, 1) := by decide +kernel
theorem d_L_law_180 : decode b_L_law 180 = .ok (.iload 6, 2) := by decide +kernel
theorem d_L_law_182 : decode b_L_law 182 = .ok (.i2l, 1) := by decide +kernel
theorem d_L_law_183 : decode b_L_law 183 = .ok (.lcmp, 1) := by decide +kernel
theorem d_L_law_184 : decode b_L_law 184 = .ok (.ifCond .eq 5, 3) := by decide +kernel
theorem d_L_law_187 : decode b_L_law 187 = .ok (.iconst 0, 1) := by decide +kernel
theorem d_L_law_188 : decode b_L_law 188 = .ok (.ireturn, 1) := by decide +kernel
theorem d_L_law_189 : decode b_L_law 189 = .ok (.goto 655, 3) := by decide +kernel
theorem d_L_law_192 : decode b_L_law 192 = .ok (.aload_n 1, 1) := by decide +kernel
theorem d_L_law_193 : decode b_L_law 193 = .ok (.aload_n 0, 1) := by decide +kernel
theorem d_L_law_194 : decode b_L_law 194 = .ok (.iload 4, 2) := by decide +kernel
theorem d_L_law_196 : decode b_L_law 196 = .ok (.iconst 1, 1) := by decide +kernel
theorem d_L_law_197 : decode b_L_law 197 = .ok (.iadd, 1) := by decide +kernel
theorem d_L_law_198 : decode b_L_law 198 = .ok (.iaload, 1) := by decide +kernel
theorem d_L_law_199 : decode b_L_law 199 = .ok (.aload_n 0, 1) := by decide +kernel
theorem d_L_law_200 : decode b_L_law 200 = .ok (.iload 4, 2) := by decide +kernel
theorem d_L_law_202 : decode b_L_law 202 = .ok (.iconst 2, 1) := by decide +kernel
theorem d_L_law_203 : decode b_L_law 203 = .ok (.iadd, 1) := by decide +kernel
theorem d_L_law_204 : decode b_L_law 204 = .ok (.iaload, 1) := by decide +kernel
theorem d_L_law_205 : decode b_L_law 205 = .ok (.aload_n 0, 1) := by decide +kernel
theorem d_L_law_206 : decode b_L_law 206 = .ok (.iload 4, 2) := by decide +kernel
theorem d_L_law_208 : decode b_L_law 208 = .ok (.iconst 3, 1) := by decide +kernel
theorem d_L_law_209 : decode b_L_law 209 = .ok (.iadd, 1) := by decide +kernel
theorem d_L_law_210 : decode b_L_law 210 = .ok (.iaload, 1) := by decide +kernel
theorem d_L_law_211 : decode b_L_law 211 = .ok (.aload_n 3, 1) := by decide +kernel
theorem d_L_law_212 : decode b_L_law 212 = .ok (.invokestatic 73, 3) := by decide +kernel
theorem d_L_law_215 : decode b_L_law 215 = .ok (.istore 5, 2) := by decide +kernel
theorem d_L_law_217 : decode b_L_law 217 = .ok (.aload_n 2, 1) := by decide +kernel
theorem d_L_law_218 : decode b_L_law 218 = .ok (.aload_n 0, 1) := by decide +kernel
theorem d_L_law_219 : decode b_L_law 219 = .ok (.iload 4, 2) := by decide +kernel
theorem d_L_law_221 : decode b_L_law 221 = .ok (.iconst 1, 1) := by decide +kernel
end
section
theorem d_L_law_222 : decode b_L_law 222 = .ok (.iadd, 1) := by decide +kernel
theorem d_L_law_223 : decode b_L_law 223 = .ok (.iaload, 1) := by decide +kernel
theorem d_L_law_224 : decode b_L_law 224 = .ok (.aload_n 0, 1) := by decide +kernel
theorem d_L_law_225 : decode b_L_law 225 = .ok (.iload 4, 2) := by decide +kernel
theorem d_L_law_227 : decode b_L_law 227 = .ok (.iconst 2, 1) := by decide +kernel
theorem d_L_law_228 : decode b_L_law 228 = .ok (.iadd, 1) := by decide +kernel
theorem d_L_law_229 : decode b_L_law 229 = .ok (.iaload, 1) := by decide +kernel
theorem d_L_law_230 : decode b_L_law 230 = .ok (.aload_n 0, 1) := by decide +kernel
theorem d_L_law_231 : decode b_L_law 231 = .ok (.iload 4, 2) := by decide +kernel
theorem d_L_law_233 : decode b_L_law 233 = .ok (.iconst 3, 1) := by decide +kernel
theorem d_L_law_234 : decode b_L_law 234 = .ok (.iadd, 1) := by decide +kernel
theorem d_L_law_235 : decode b_L_law 235 = .ok (.iaload, 1) := by decide +kernel
theorem d_L_law_236 : decode b_L_law 236 = .ok (.invokevirtual 76, 3) := by decide +kernel
theorem d_L_law_239 : decode b_L_law 239 = .ok (.istore 6, 2) := by decide +kernel
theorem d_L_law_241 : decode b_L_law 241 = .ok (.aload_n 2, 1) := by decide +kernel
theorem d_L_law_242 : decode b_L_law 242 = .ok (.invokevirtual 70, 3) := by decide +kernel
theorem d_L_law_245 : decode b_L_law 245 = .ok (.iload 5, 2) := by decide +kernel
theorem d_L_law_247 : decode b_L_law 247 = .ok (.if_icmp .eq 5, 3) := by decide +kernel
theorem d_L_law_250 : decode b_L_law 250 = .ok (.iconst 0, 1) := by decide +kernel
theorem d_L_law_251 : decode b_L_law 251 = .ok (.ireturn, 1) := by decide +kernel
theorem d_L_law_252 : decode b_L_law 252 = .ok (.iload 5, 2) := by decide +kernel
theorem d_L_law_254 : decode b_L_law 254 = .ok (.ifCond .ne 15, 3) := by decide +kernel
theorem d_L_law_257 : decode b_L_law 257 = .ok (.aload_n 3, 1) := by decide +kernel
theorem d_L_law_258 : decode b_L_law 258 = .ok (.iconst 0, 1) := by decide +kernel
theorem d_L_law_259 : decode b_L_law 259 = .ok (.laload, 1) := by decide +kernel
theorem d_L_law_260 : decode b_L_law 260 = .ok (.iload 6, 2) := by decide +kernel
theorem d_L_law_262 : decode b_L_law 262 = .ok (.i2l, 1) := by decide +kernel
theorem d_L_law_263 : decode b_L_law 263 = .ok (.lcmp, 1) := by decide +kernel
theorem d_L_law_264 : decode b_L_law 264 = .ok (.ifCond .eq 5, 3) := by decide +kernel
theorem d_L_law_267 : decode b_L_law 267 = .ok (.iconst 0, 1) := by decide +kernel
theorem d_L_law_268 : decode b_L_law 268 = .ok (.ireturn, 1) := by decide +kernel
theorem d_L_law_269 : decode b_L_law 269 = .ok (.goto 575, 3) := by decide +kernel
theorem d_L_law_272 : decode b_L_law 272 = .ok (.aload_n 1, 1) := by decide +kernel
theorem d_L_law_273 : decode b_L_law 273 = .ok (.aload_n 0, 1) := by decide +kernel
theorem d_L_law_274 : decode b_L_law 274 = .ok (.iload 4, 2) := by decide +kernel
theorem d_L_law_276 : decode b_L_law 276 = .ok (.iconst 1, 1) := by decide +kernel
theorem d_L_law_277 : decode b_L_law 277 = .ok (.iadd, 1) := by decide +kernel
theorem d_L_law_278 : decode b_L_law 278 = .ok (.iaload, 1) := by decide +kernel
theorem d_L_law_279 : decode b_L_law 279 = .ok (.aload_n 0, 1) := by decide +kernel
theorem d_L_law_280 : decode b_L_law 280 = .ok (.iload 4, 2) := by decide +kernel
theorem d_L_law_282 : decode b_L_law 282 = .ok (.iconst 2, 1) := by decide +kernel
theorem d_L_law_283 : decode b_L_law 283 = .ok (.iadd, 1) := by decide +kernel
theorem d_L_law_284 : decode b_L_law 284 = .ok (.iaload, 1) := by decide +kernel
theorem d_L_law_285 : decode b_L_law 285 = .ok (.aload_n 3, 1) := by decide +kernel
theorem d_L_law_286 : decode b_L_law 286 = .ok (.invokestatic 77, 3) := by decide +kernel
theorem d_L_law_289 : decode b_L_law 289 = .ok (.istore 5, 2) := by decide +kernel
theorem d_L_law_291 : decode b_L_law 291 = .ok (.aload_n 2, 1) := by decide +kernel
theorem d_L_law_292 : decode b_L_law 292 = .ok (.aload_n 0, 1) := by decide +kernel
theorem d_L_law_293 : decode b_L_law 293 = .ok (.iload 4, 2) := by decide +kernel
theorem d_L_law_295 : decode b_L_law 295 = .ok (.iconst 1, 1) := by decide +kernel
theorem d_L_law_296 : decode b_L_law 296 = .ok (.iadd, 1) := by decide +kernel
theorem d_L_law_297 : decode b_L_law 297 = .ok (.iaload, 1) := by decide +kernel
theorem d_L_law_298 : decode b_L_law 298 = .ok (.aload_n 0, 1) := by decide +kernel
theorem d_L_law_299 : decode b_L_law 299 = .ok (.iload 4, 2) := by decide +kernel
theorem d_L_law_301 : decode b_L_law 301 = .ok (.iconst 2, 1) := by decide +kernel
theorem d_L_law_302 : decode b_L_law 302 = .ok (.iadd, 1) := by decide +kernel
theorem d_L_law_303 : decode b_L_law 303 = .ok (.iaload, 1) := by decide +kernel
theorem d_L_law_304 : decode b_L_law 304 = .ok (.invokevirtual 80, 3) := by decide +kernel
theorem d_L_law_307 : decode b_L_law 307 = .ok (.istore 6, 2) := by decide +kernel
theorem d_L_law_309 : decode b_L_law 309 = .ok (.aload_n 2, 1) := by decide +kernel
theorem d_L_law_310 : decode b_L_law 310 = .ok (.invokevirtual 70, 3) := by decide +kernel
theorem d_L_law_313 : decode b_L_law 313 = .ok (.iload 5, 2) := by decide +kernel
theorem d_L_law_315 : decode b_L_law 315 = .ok (.if_icmp .eq 5, 3) := by decide +kernel
theorem d_L_law_318 : decode b_L_law 318 = .ok (.iconst 0, 1) := by decide +kernel
theorem d_L_law_319 : decode b_L_law 319 = .ok (.ireturn, 1) := by decide +kernel
theorem d_L_law_320 : decode b_L_law 320 = .ok (.iload 5, 2) := by decide +kernel
theorem d_L_law_322 : decode b_L_law 322 = .ok (.ifCond .ne 15, 3) := by decide +kernel
theorem d_L_law_325 : decode b_L_law 325 = .ok (.aload_n 3, 1) := by decide +kernel
theorem d_L_law_326 : decode b_L_law 326 = .ok (.iconst 0, 1) := by decide +kernel
theorem d_L_law_327 : decode b_L_law 327 = .ok (.laload, 1) := by decide +kernel
theorem d_L_law_328 : decode b_L_law 328 = .ok (.iload 6, 2) := by decide +kernel
theorem d_L_law_330 : decode b_L_law 330 = .ok (.i2l, 1) := by decide +kernel
theorem d_L_law_331 : decode b_L_law 331 = .ok (.lcmp, 1) := by decide +kernel
theorem d_L_law_332 : decode b_L_law 332 = .ok (.ifCond .eq 5, 3) := by decide +kernel
theorem d_L_law_335 : decode b_L_law 335 = .ok (.iconst 0, 1) := by decide +kernel
theorem d_L_law_336 : decode b_L_law 336 = .ok (.ireturn, 1) := by decide +kernel
theorem d_L_law_337 : decode b_L_law 337 = .ok (.goto 507, 3) := by decide +kernel
theorem d_L_law_340 : decode b_L_law 340 = .ok (.aload_n 1, 1) := by decide +kernel
theorem d_L_law_341 : decode b_L_law 341 = .ok (.aload_n 3, 1) := by decide +kernel
theorem d_L_law_342 : decode b_L_law 342 = .ok (.invokestatic 81, 3) := by decide +kernel
theorem d_L_law_345 : decode b_L_law 345 = .ok (.istore 5, 2) := by decide +kernel
theorem d_L_law_347 : decode b_L_law 347 = .ok (.aload_n 2, 1) := by decide +kernel
theorem d_L_law_348 : decode b_L_law 348 = .ok (.invokevirtual 84, 3) := by decide +kernel
theorem d_L_law_351 : decode b_L_law 351 = .ok (.istore 6, 2) := by decide +kernel
theorem d_L_law_353 : decode b_L_law 353 = .ok (.aload_n 2, 1) := by decide +kernel
theorem d_L_law_354 : decode b_L_law 354 = .ok (.invokevirtual 70, 3) := by decide +kernel
theorem d_L_law_357 : decode b_L_law 357 = .ok (.iload 5, 2) := by decide +kernel
theorem d_L_law_359 : decode b_L_law 359 = .ok (.if_icmp .eq 5, 3) := by decide +kernel
theorem d_L_law_362 : decode b_L_law 362 = .ok (.iconst 0, 1) := by decide +kernel
theorem d_L_law_363 : decode b_L_law 363 = .ok (.ireturn, 1) := by decide +kernel
theorem d_L_law_364 : decode b_L_law 364 = .ok (.iload 5, 2) := by decide +kernel
theorem d_L_law_366 : decode b_L_law 366 = .ok (.ifCond .ne 15, 3) := by decide +kernel
theorem d_L_law_369 : decode b_L_law 369 = .ok (.aload_n 3, 1) := by decide +kernel
theorem d_L_law_370 : decode b_L_law 370 = .ok (.iconst 0, 1) := by decide +kernel
theorem d_L_law_371 : decode b_L_law 371 = .ok (.laload, 1) := by decide +kernel
theorem d_L_law_372 : decode b_L_law 372 = .ok (.iload 6, 2) := by decide +kernel
theorem d_L_law_374 : decode b_L_law 374 = .ok (.i2l, 1) := by decide +kernel
theorem d_L_law_375 : decode b_L_law 375 = .ok (.lcmp, 1) := by decide +kernel
theorem d_L_law_376 : decode b_L_law 376 = .ok (.ifCond .eq 5, 3) := by decide +kernel
theorem d_L_law_379 : decode b_L_law 379 = .ok (.iconst 0, 1) := by decide +kernel
theorem d_L_law_380 : decode b_L_law 380 = .ok (.ireturn, 1) := by decide +kernel
theorem d_L_law_381 : decode b_L_law 381 = .ok (.goto 463, 3) := by decide +kernel
theorem d_L_law_384 : decode b_L_law 384 = .ok (.aload_n 1, 1) := by decide +kernel
theorem d_L_law_385 : decode b_L_law 385 = .ok (.aload_n 0, 1) := by decide +kernel
theorem d_L_law_386 : decode b_L_law 386 = .ok (.iload 4, 2) := by decide +kernel
theorem d_L_law_388 : decode b_L_law 388 = .ok (.iconst 1, 1) := by decide +kernel
theorem d_L_law_389 : decode b_L_law 389 = .ok (.iadd, 1) := by decide +kernel
theorem d_L_law_390 : decode b_L_law 390 = .ok (.iaload, 1) := by decide +kernel
theorem d_L_law_391 : decode b_L_law 391 = .ok (.aload_n 3, 1) := by decide +kernel
theorem d_L_law_392 : decode b_L_law 392 = .ok (.invokestatic 85, 3) := by decide +kernel
theorem d_L_law_395 : decode b_L_law 395 = .ok (.istore 5, 2) := by decide +kernel
theorem d_L_law_397 : decode b_L_law 397 = .ok (.aload_n 2, 1) := by decide +kernel
theorem d_L_law_398 : decode b_L_law 398 = .ok (.aload_n 0, 1) := by decide +kernel
theorem d_L_law_399 : decode b_L_law 399 = .ok (.iload 4, 2) := by decide +kernel
theorem d_L_law_401 : decode b_L_law 401 = .ok (.iconst 1, 1) := by decide +kernel
theorem d_L_law_402 : decode b_L_law 402 = .ok (.iadd, 1) := by decide +kernel
theorem d_L_law_403 : decode b_L_law 403 = .ok (.iaload, 1) := by decide +kernel
theorem d_L_law_404 : decode b_L_law 404 = .ok (.invokevirtual 88, 3) := by decide +kernel
theorem d_L_law_407 : decode b_L_law 407 = .ok (.istore 6, 2) := by decide +kernel
theorem d_L_law_409 : decode b_L_law 409 = .ok (.aload_n 2, 1) := by decide +kernel
theorem d_L_law_410 : decode b_L_law 410 = .ok (.invokevirtual 70, 3) := by decide +kernel
theorem d_L_law_413 : decode b_L_law 413 = .ok (.iload 5, 2) := by decide +kernel
theorem d_L_law_415 : decode b_L_law 415 = .ok (.if_icmp .eq 5, 3) := by decide +kernel
theorem d_L_law_418 : decode b_L_law 418 = .ok (.iconst 0, 1) := by decide +kernel
theorem d_L_law_419 : decode b_L_law 419 = .ok (.ireturn, 1) := by decide +kernel
theorem d_L_law_420 : decode b_L_law 420 = .ok (.iload 5, 2) := by decide +kernel
theorem d_L_law_422 : decode b_L_law 422 = .ok (.ifCond .ne 15, 3) := by decide +kernel
theorem d_L_law_425 : decode b_L_law 425 = .ok (.aload_n 3, 1) := by decide +kernel
theorem d_L_law_426 : decode b_L_law 426 = .ok (.iconst 0, 1) := by decide +kernel
theorem d_L_law_427 : decode b_L_law 427 = .ok (.laload, 1) := by decide +kernel
theorem d_L_law_428 : decode b_L_law 428 = .ok (.iload 6, 2) := by decide +kernel
theorem d_L_law_430 : decode b_L_law 430 = .ok (.i2l, 1) := by decide +kernel
theorem d_L_law_431 : decode b_L_law 431 = .ok (.lcmp, 1) := by decide +kernel
theorem d_L_law_432 : decode b_L_law 432 = .ok (.ifCond .eq 5, 3) := by decide +kernel
theorem d_L_law_435 : decode b_L_law 435 = .ok (.iconst 0, 1) := by decide +kernel
theorem d_L_law_436 : decode b_L_law 436 = .ok (.ireturn, 1) := by decide +kernel
theorem d_L_law_437 : decode b_L_law 437 = .ok (.goto 407, 3) := by decide +kernel
theorem d_L_law_440 : decode b_L_law 440 = .ok (.aload_n 1, 1) := by decide +kernel
theorem d_L_law_441 : decode b_L_law 441 = .ok (.aload_n 0, 1) := by decide +kernel
theorem d_L_law_442 : decode b_L_law 442 = .ok (.iload 4, 2) := by decide +kernel
theorem d_L_law_444 : decode b_L_law 444 = .ok (.iconst 1, 1) := by decide +kernel
theorem d_L_law_445 : decode b_L_law 445 = .ok (.iadd, 1) := by decide +kernel
theorem d_L_law_446 : decode b_L_law 446 = .ok (.iaload, 1) := by decide +kernel
theorem d_L_law_447 : decode b_L_law 447 = .ok (.aload_n 0, 1) := by decide +kernel
theorem d_L_law_448 : decode b_L_law 448 = .ok (.iload 4, 2) := by decide +kernel
theorem d_L_law_450 : decode b_L_law 450 = .ok (.iconst 2, 1) := by decide +kernel
theorem d_L_law_451 : decode b_L_law 451 = .ok (.iadd, 1) := by decide +kernel
theorem d_L_law_452 : decode b_L_law 452 = .ok (.iaload, 1) := by decide +kernel
theorem d_L_law_453 : decode b_L_law 453 = .ok (.aload_n 3, 1) := by decide +kernel
theorem d_L_law_454 : decode b_L_law 454 = .ok (.invokestatic 89, 3) := by decide +kernel
theorem d_L_law_457 : decode b_L_law 457 = .ok (.istore 5, 2) := by decide +kernel
theorem d_L_law_459 : decode b_L_law 459 = .ok (.aload_n 2, 1) := by decide +kernel
theorem d_L_law_460 : decode b_L_law 460 = .ok (.aload_n 0, 1) := by decide +kernel
theorem d_L_law_461 : decode b_L_law 461 = .ok (.iload 4, 2) := by decide +kernel
theorem d_L_law_463 : decode b_L_law 463 = .ok (.iconst 1, 1) := by decide +kernel
theorem d_L_law_464 : decode b_L_law 464 = .ok (.iadd, 1) := by decide +kernel
theorem d_L_law_465 : decode b_L_law 465 = .ok (.iaload, 1) := by decide +kernel
theorem d_L_law_466 : decode b_L_law 466 = .ok (.aload_n 0, 1) := by decide +kernel
theorem d_L_law_467 : decode b_L_law 467 = .ok (.iload 4, 2) := by decide +kernel
theorem d_L_law_469 : decode b_L_law 469 = .ok (.iconst 2, 1) := by decide +kernel
theorem d_L_law_470 : decode b_L_law 470 = .ok (.iadd, 1) := by decide +kernel
theorem d_L_law_471 : decode b_L_law 471 = .ok (.iaload, 1) := by decide +kernel
theorem d_L_law_472 : decode b_L_law 472 = .ok (.invokevirtual 91, 3) := by decide +kernel
theorem d_L_law_475 : decode b_L_law 475 = .ok (.istore 6, 2) := by decide +kernel
theorem d_L_law_477 : decode b_L_law 477 = .ok (.aload_n 2, 1) := by decide +kernel
theorem d_L_law_478 : decode b_L_law 478 = .ok (.invokevirtual 70, 3) := by decide +kernel
theorem d_L_law_481 : decode b_L_law 481 = .ok (.iload 5, 2) := by decide +kernel
theorem d_L_law_483 : decode b_L_law 483 = .ok (.if_icmp .eq 5, 3) := by decide +kernel
theorem d_L_law_486 : decode b_L_law 486 = .ok (.iconst 0, 1) := by decide +kernel
theorem d_L_law_487 : decode b_L_law 487 = .ok (.ireturn, 1) := by decide +kernel
theorem d_L_law_488 : decode b_L_law 488 = .ok (.iload 5, 2) := by decide +kernel
theorem d_L_law_490 : decode b_L_law 490 = .ok (.ifCond .ne 15, 3) := by decide +kernel
theorem d_L_law_493 : decode b_L_law 493 = .ok (.aload_n 3, 1) := by decide +kernel
theorem d_L_law_494 : decode b_L_law 494 = .ok (.iconst 0, 1) := by decide +kernel
theorem d_L_law_495 : decode b_L_law 495 = .ok (.laload, 1) := by decide +kernel
theorem d_L_law_496 : decode b_L_law 496 = .ok (.iload 6, 2) := by decide +kernel
theorem d_L_law_498 : decode b_L_law 498 = .ok (.i2l, 1) := by decide +kernel
theorem d_L_law_499 : decode b_L_law 499 = .ok (.lcmp, 1) := by decide +kernel
theorem d_L_law_500 : decode b_L_law 500 = .ok (.ifCond .eq 5, 3) := by decide +kernel
theorem d_L_law_503 : decode b_L_law 503 = .ok (.iconst 0, 1) := by decide +kernel
theorem d_L_law_504 : decode b_L_law 504 = .ok (.ireturn, 1) := by decide +kernel
theorem d_L_law_505 : decode b_L_law 505 = .ok (.goto 339, 3) := by decide +kernel
theorem d_L_law_508 : decode b_L_law 508 = .ok (.aload_n 1, 1) := by decide +kernel
theorem d_L_law_509 : decode b_L_law 509 = .ok (.aload_n 3, 1) := by decide +kernel
theorem d_L_law_510 : decode b_L_law 510 = .ok (.invokestatic 92, 3) := by decide +kernel
theorem d_L_law_513 : decode b_L_law 513 = .ok (.istore 5, 2) := by decide +kernel
theorem d_L_law_515 : decode b_L_law 515 = .ok (.aload_n 2, 1) := by decide +kernel
theorem d_L_law_516 : decode b_L_law 516 = .ok (.invokevirtual 94, 3) := by decide +kernel
theorem d_L_law_519 : decode b_L_law 519 = .ok (.istore 6, 2) := by decide +kernel
theorem d_L_law_521 : decode b_L_law 521 = .ok (.aload_n 2, 1) := by decide +kernel
theorem d_L_law_522 : decode b_L_law 522 = .ok (.invokevirtual 70, 3) := by decide +kernel
theorem d_L_law_525 : decode b_L_law 525 = .ok (.iload 5, 2) := by decide +kernel
theorem d_L_law_527 : decode b_L_law 527 = .ok (.if_icmp .eq 5, 3) := by decide +kernel
theorem d_L_law_530 : decode b_L_law 530 = .ok (.iconst 0, 1) := by decide +kernel
theorem d_L_law_531 : decode b_L_law 531 = .ok (.ireturn, 1) := by decide +kernel
theorem d_L_law_532 : decode b_L_law 532 = .ok (.iload 5, 2) := by decide +kernel
theorem d_L_law_534 : decode b_L_law 534 = .ok (.ifCond .ne 15, 3) := by decide +kernel
theorem d_L_law_537 : decode b_L_law 537 = .ok (.aload_n 3, 1) := by decide +kernel
theorem d_L_law_538 : decode b_L_law 538 = .ok (.iconst 0, 1) := by decide +kernel
theorem d_L_law_539 : decode b_L_law 539 = .ok (.laload, 1) := by decide +kernel
theorem d_L_law_540 : decode b_L_law 540 = .ok (.iload 6, 2) := by decide +kernel
theorem d_L_law_542 : decode b_L_law 542 = .ok (.i2l, 1) := by decide +kernel
theorem d_L_law_543 : decode b_L_law 543 = .ok (.lcmp, 1) := by decide +kernel
theorem d_L_law_544 : decode b_L_law 544 = .ok (.ifCond .eq 5, 3) := by decide +kernel
theorem d_L_law_547 : decode b_L_law 547 = .ok (.iconst 0, 1) := by decide +kernel
theorem d_L_law_548 : decode b_L_law 548 = .ok (.ireturn, 1) := by decide +kernel
theorem d_L_law_549 : decode b_L_law 549 = .ok (.goto 295, 3) := by decide +kernel
theorem d_L_law_552 : decode b_L_law 552 = .ok (.aload_n 1, 1) := by decide +kernel
theorem d_L_law_553 : decode b_L_law 553 = .ok (.aload_n 3, 1) := by decide +kernel
theorem d_L_law_554 : decode b_L_law 554 = .ok (.invokestatic 95, 3) := by decide +kernel
theorem d_L_law_557 : decode b_L_law 557 = .ok (.istore 5, 2) := by decide +kernel
theorem d_L_law_559 : decode b_L_law 559 = .ok (.aload_n 2, 1) := by decide +kernel
theorem d_L_law_560 : decode b_L_law 560 = .ok (.invokevirtual 97, 3) := by decide +kernel
theorem d_L_law_563 : decode b_L_law 563 = .ok (.istore 6, 2) := by decide +kernel
theorem d_L_law_565 : decode b_L_law 565 = .ok (.aload_n 2, 1) := by decide +kernel
theorem d_L_law_566 : decode b_L_law 566 = .ok (.invokevirtual 70, 3) := by decide +kernel
theorem d_L_law_569 : decode b_L_law 569 = .ok (.iload 5, 2) := by decide +kernel
theorem d_L_law_571 : decode b_L_law 571 = .ok (.if_icmp .eq 5, 3) := by decide +kernel
theorem d_L_law_574 : decode b_L_law 574 = .ok (.iconst 0, 1) := by decide +kernel
theorem d_L_law_575 : decode b_L_law 575 = .ok (.ireturn, 1) := by decide +kernel
theorem d_L_law_576 : decode b_L_law 576 = .ok (.iload 5, 2) := by decide +kernel
theorem d_L_law_578 : decode b_L_law 578 = .ok (.ifCond .ne 15, 3) := by decide +kernel
theorem d_L_law_581 : decode b_L_law 581 = .ok (.aload_n 3, 1) := by decide +kernel
theorem d_L_law_582 : decode b_L_law 582 = .ok (.iconst 0, 1) := by decide +kernel
theorem d_L_law_583 : decode b_L_law 583 = .ok (.laload, 1) := by decide +kernel
theorem d_L_law_584 : decode b_L_law 584 = .ok (.iload 6, 2) := by decide +kernel
theorem d_L_law_586 : decode b_L_law 586 = .ok (.i2l, 1) := by decide +kernel
theorem d_L_law_587 : decode b_L_law 587 = .ok (.lcmp, 1) := by decide +kernel
theorem d_L_law_588 : decode b_L_law 588 = .ok (.ifCond .eq 5, 3) := by decide +kernel
theorem d_L_law_591 : decode b_L_law 591 = .ok (.iconst 0, 1) := by decide +kernel
theorem d_L_law_592 : decode b_L_law 592 = .ok (.ireturn, 1) := by decide +kernel
theorem d_L_law_593 : decode b_L_law 593 = .ok (.goto 251, 3) := by decide +kernel
theorem d_L_law_596 : decode b_L_law 596 = .ok (.aload_n 1, 1) := by decide +kernel
theorem d_L_law_597 : decode b_L_law 597 = .ok (.aload_n 0, 1) := by decide +kernel
theorem d_L_law_598 : decode b_L_law 598 = .ok (.iload 4, 2) := by decide +kernel
theorem d_L_law_600 : decode b_L_law 600 = .ok (.iconst 1, 1) := by decide +kernel
theorem d_L_law_601 : decode b_L_law 601 = .ok (.iadd, 1) := by decide +kernel
theorem d_L_law_602 : decode b_L_law 602 = .ok (.iaload, 1) := by decide +kernel
theorem d_L_law_603 : decode b_L_law 603 = .ok (.aload_n 0, 1) := by decide +kernel
theorem d_L_law_604 : decode b_L_law 604 = .ok (.iload 4, 2) := by decide +kernel
theorem d_L_law_606 : decode b_L_law 606 = .ok (.iconst 2, 1) := by decide +kernel
theorem d_L_law_607 : decode b_L_law 607 = .ok (.iadd, 1) := by decide +kernel
theorem d_L_law_608 : decode b_L_law 608 = .ok (.iaload, 1) := by decide +kernel
theorem d_L_law_609 : decode b_L_law 609 = .ok (.aload_n 0, 1) := by decide +kernel
theorem d_L_law_610 : decode b_L_law 610 = .ok (.iload 4, 2) := by decide +kernel
theorem d_L_law_612 : decode b_L_law 612 = .ok (.iconst 3, 1) := by decide +kernel
theorem d_L_law_613 : decode b_L_law 613 = .ok (.iadd, 1) := by decide +kernel
theorem d_L_law_614 : decode b_L_law 614 = .ok (.iaload, 1) := by decide +kernel
theorem d_L_law_615 : decode b_L_law 615 = .ok (.aload_n 3, 1) := by decide +kernel
theorem d_L_law_616 : decode b_L_law 616 = .ok (.invokestatic 98, 3) := by decide +kernel
theorem d_L_law_619 : decode b_L_law 619 = .ok (.istore 5, 2) := by decide +kernel
theorem d_L_law_621 : decode b_L_law 621 = .ok (.aload_n 2, 1) := by decide +kernel
theorem d_L_law_622 : decode b_L_law 622 = .ok (.aload_n 0, 1) := by decide +kernel
theorem d_L_law_623 : decode b_L_law 623 = .ok (.iload 4, 2) := by decide +kernel
theorem d_L_law_625 : decode b_L_law 625 = .ok (.iconst 1, 1) := by decide +kernel
theorem d_L_law_626 : decode b_L_law 626 = .ok (.iadd, 1) := by decide +kernel
theorem d_L_law_627 : decode b_L_law 627 = .ok (.iaload, 1) := by decide +kernel
theorem d_L_law_628 : decode b_L_law 628 = .ok (.aload_n 0, 1) := by decide +kernel
theorem d_L_law_629 : decode b_L_law 629 = .ok (.iload 4, 2) := by decide +kernel
theorem d_L_law_631 : decode b_L_law 631 = .ok (.iconst 2, 1) := by decide +kernel
theorem d_L_law_632 : decode b_L_law 632 = .ok (.iadd, 1) := by decide +kernel
theorem d_L_law_633 : decode b_L_law 633 = .ok (.iaload, 1) := by decide +kernel
theorem d_L_law_634 : decode b_L_law 634 = .ok (.aload_n 0, 1) := by decide +kernel
theorem d_L_law_635 : decode b_L_law 635 = .ok (.iload 4, 2) := by decide +kernel
theorem d_L_law_637 : decode b_L_law 637 = .ok (.iconst 3, 1) := by decide +kernel
theorem d_L_law_638 : decode b_L_law 638 = .ok (.iadd, 1) := by decide +kernel
theorem d_L_law_639 : decode b_L_law 639 = .ok (.iaload, 1) := by decide +kernel
theorem d_L_law_640 : decode b_L_law 640 = .ok (.invokevirtual 100, 3) := by decide +kernel
theorem d_L_law_643 : decode b_L_law 643 = .ok (.istore 6, 2) := by decide +kernel
theorem d_L_law_645 : decode b_L_law 645 = .ok (.aload_n 2, 1) := by decide +kernel
theorem d_L_law_646 : decode b_L_law 646 = .ok (.invokevirtual 70, 3) := by decide +kernel
theorem d_L_law_649 : decode b_L_law 649 = .ok (.iload 5, 2) := by decide +kernel
theorem d_L_law_651 : decode b_L_law 651 = .ok (.if_icmp .eq 5, 3) := by decide +kernel
theorem d_L_law_654 : decode b_L_law 654 = .ok (.iconst 0, 1) := by decide +kernel
theorem d_L_law_655 : decode b_L_law 655 = .ok (.ireturn, 1) := by decide +kernel
theorem d_L_law_656 : decode b_L_law 656 = .ok (.iload 5, 2) := by decide +kernel
theorem d_L_law_658 : decode b_L_law 658 = .ok (.ifCond .ne 15, 3) := by decide +kernel
theorem d_L_law_661 : decode b_L_law 661 = .ok (.aload_n 3, 1) := by decide +kernel
theorem d_L_law_662 : decode b_L_law 662 = .ok (.iconst 0, 1) := by decide +kernel
theorem d_L_law_663 : decode b_L_law 663 = .ok (.laload, 1) := by decide +kernel
theorem d_L_law_664 : decode b_L_law 664 = .ok (.iload 6, 2) := by decide +kernel
theorem d_L_law_666 : decode b_L_law 666 = .ok (.i2l, 1) := by decide +kernel
theorem d_L_law_667 : decode b_L_law 667 = .ok (.lcmp, 1) := by decide +kernel
theorem d_L_law_668 : decode b_L_law 668 = .ok (.ifCond .eq 5, 3) := by decide +kernel
theorem d_L_law_671 : decode b_L_law 671 = .ok (.iconst 0, 1) := by decide +kernel
theorem d_L_law_672 : decode b_L_law 672 = .ok (.ireturn, 1) := by decide +kernel
theorem d_L_law_673 : decode b_L_law 673 = .ok (.goto 171, 3) := by decide +kernel
theorem d_L_law_676 : decode b_L_law 676 = .ok (.aload_n 1, 1) := by decide +kernel
theorem d_L_law_677 : decode b_L_law 677 = .ok (.aload_n 0, 1) := by decide +kernel
theorem d_L_law_678 : decode b_L_law 678 = .ok (.iload 4, 2) := by decide +kernel
theorem d_L_law_680 : decode b_L_law 680 = .ok (.iconst 1, 1) := by decide +kernel
theorem d_L_law_681 : decode b_L_law 681 = .ok (.iadd, 1) := by decide +kernel
theorem d_L_law_682 : decode b_L_law 682 = .ok (.iaload, 1) := by decide +kernel
theorem d_L_law_683 : decode b_L_law 683 = .ok (.aload_n 3, 1) := by decide +kernel
theorem d_L_law_684 : decode b_L_law 684 = .ok (.invokestatic 101, 3) := by decide +kernel
theorem d_L_law_687 : decode b_L_law 687 = .ok (.istore 5, 2) := by decide +kernel
theorem d_L_law_689 : decode b_L_law 689 = .ok (.aload_n 2, 1) := by decide +kernel
theorem d_L_law_690 : decode b_L_law 690 = .ok (.aload_n 0, 1) := by decide +kernel
theorem d_L_law_691 : decode b_L_law 691 = .ok (.iload 4, 2) := by decide +kernel
theorem d_L_law_693 : decode b_L_law 693 = .ok (.iconst 1, 1) := by decide +kernel
theorem d_L_law_694 : decode b_L_law 694 = .ok (.iadd, 1) := by decide +kernel
theorem d_L_law_695 : decode b_L_law 695 = .ok (.iaload, 1) := by decide +kernel
theorem d_L_law_696 : decode b_L_law 696 = .ok (.invokevirtual 103, 3) := by decide +kernel
theorem d_L_law_699 : decode b_L_law 699 = .ok (.istore 6, 2) := by decide +kernel
theorem d_L_law_701 : decode b_L_law 701 = .ok (.aload_n 2, 1) := by decide +kernel
theorem d_L_law_702 : decode b_L_law 702 = .ok (.invokevirtual 70, 3) := by decide +kernel
theorem d_L_law_705 : decode b_L_law 705 = .ok (.iload 5, 2) := by decide +kernel
theorem d_L_law_707 : decode b_L_law 707 = .ok (.if_icmp .eq 5, 3) := by decide +kernel
theorem d_L_law_710 : decode b_L_law 710 = .ok (.iconst 0, 1) := by decide +kernel
theorem d_L_law_711 : decode b_L_law 711 = .ok (.ireturn, 1) := by decide +kernel
theorem d_L_law_712 : decode b_L_law 712 = .ok (.iload 5, 2) := by decide +kernel
theorem d_L_law_714 : decode b_L_law 714 = .ok (.ifCond .ne 15, 3) := by decide +kernel
theorem d_L_law_717 : decode b_L_law 717 = .ok (.aload_n 3, 1) := by decide +kernel
theorem d_L_law_718 : decode b_L_law 718 = .ok (.iconst 0, 1) := by decide +kernel
theorem d_L_law_719 : decode b_L_law 719 = .ok (.laload, 1) := by decide +kernel
theorem d_L_law_720 : decode b_L_law 720 = .ok (.iload 6, 2) := by decide +kernel
theorem d_L_law_722 : decode b_L_law 722 = .ok (.i2l, 1) := by decide +kernel
theorem d_L_law_723 : decode b_L_law 723 = .ok (.lcmp, 1) := by decide +kernel
theorem d_L_law_724 : decode b_L_law 724 = .ok (.ifCond .eq 5, 3) := by decide +kernel
theorem d_L_law_727 : decode b_L_law 727 = .ok (.iconst 0, 1) := by decide +kernel
theorem d_L_law_728 : decode b_L_law 728 = .ok (.ireturn, 1) := by decide +kernel
theorem d_L_law_729 : decode b_L_law 729 = .ok (.goto 115, 3) := by decide +kernel
theorem d_L_law_732 : decode b_L_law 732 = .ok (.aload_n 1, 1) := by decide +kernel
theorem d_L_law_733 : decode b_L_law 733 = .ok (.aload_n 0, 1) := by decide +kernel
theorem d_L_law_734 : decode b_L_law 734 = .ok (.iload 4, 2) := by decide +kernel
theorem d_L_law_736 : decode b_L_law 736 = .ok (.iconst 1, 1) := by decide +kernel
theorem d_L_law_737 : decode b_L_law 737 = .ok (.iadd, 1) := by decide +kernel
theorem d_L_law_738 : decode b_L_law 738 = .ok (.iaload, 1) := by decide +kernel
theorem d_L_law_739 : decode b_L_law 739 = .ok (.aload_n 3, 1) := by decide +kernel
theorem d_L_law_740 : decode b_L_law 740 = .ok (.invokestatic 104, 3) := by decide +kernel
theorem d_L_law_743 : decode b_L_law 743 = .ok (.istore 5, 2) := by decide +kernel
theorem d_L_law_745 : decode b_L_law 745 = .ok (.aload_n 2, 1) := by decide +kernel
theorem d_L_law_746 : decode b_L_law 746 = .ok (.aload_n 0, 1) := by decide +kernel
theorem d_L_law_747 : decode b_L_law 747 = .ok (.iload 4, 2) := by decide +kernel
theorem d_L_law_749 : decode b_L_law 749 = .ok (.iconst 1, 1) := by decide +kernel
theorem d_L_law_750 : decode b_L_law 750 = .ok (.iadd, 1) := by decide +kernel
theorem d_L_law_751 : decode b_L_law 751 = .ok (.iaload, 1) := by decide +kernel
theorem d_L_law_752 : decode b_L_law 752 = .ok (.invokevirtual 106, 3) := by decide +kernel
theorem d_L_law_755 : decode b_L_law 755 = .ok (.istore 6, 2) := by decide +kernel
theorem d_L_law_757 : decode b_L_law 757 = .ok (.aload_n 2, 1) := by decide +kernel
theorem d_L_law_758 : decode b_L_law 758 = .ok (.invokevirtual 70, 3) := by decide +kernel
theorem d_L_law_761 : decode b_L_law 761 = .ok (.iload 5, 2) := by decide +kernel
theorem d_L_law_763 : decode b_L_law 763 = .ok (.if_icmp .eq 5, 3) := by decide +kernel
theorem d_L_law_766 : decode b_L_law 766 = .ok (.iconst 0, 1) := by decide +kernel
theorem d_L_law_767 : decode b_L_law 767 = .ok (.ireturn, 1) := by decide +kernel
theorem d_L_law_768 : decode b_L_law 768 = .ok (.iload 5, 2) := by decide +kernel
theorem d_L_law_770 : decode b_L_law 770 = .ok (.ifCond .ne 15, 3) := by decide +kernel
theorem d_L_law_773 : decode b_L_law 773 = .ok (.aload_n 3, 1) := by decide +kernel
theorem d_L_law_774 : decode b_L_law 774 = .ok (.iconst 0, 1) := by decide +kernel
theorem d_L_law_775 : decode b_L_law 775 = .ok (.laload, 1) := by decide +kernel
theorem d_L_law_776 : decode b_L_law 776 = .ok (.iload 6, 2) := by decide +kernel
theorem d_L_law_778 : decode b_L_law 778 = .ok (.i2l, 1) := by decide +kernel
theorem d_L_law_779 : decode b_L_law 779 = .ok (.lcmp, 1) := by decide +kernel
theorem d_L_law_780 : decode b_L_law 780 = .ok (.ifCond .eq 5, 3) := by decide +kernel
theorem d_L_law_783 : decode b_L_law 783 = .ok (.iconst 0, 1) := by decide +kernel
theorem d_L_law_784 : decode b_L_law 784 = .ok (.ireturn, 1) := by decide +kernel
theorem d_L_law_785 : decode b_L_law 785 = .ok (.goto 59, 3) := by decide +kernel
theorem d_L_law_788 : decode b_L_law 788 = .ok (.aload_n 1, 1) := by decide +kernel
theorem d_L_law_789 : decode b_L_law 789 = .ok (.aload_n 0, 1) := by decide +kernel
theorem d_L_law_790 : decode b_L_law 790 = .ok (.iload 4, 2) := by decide +kernel
theorem d_L_law_792 : decode b_L_law 792 = .ok (.iconst 1, 1) := by decide +kernel
theorem d_L_law_793 : decode b_L_law 793 = .ok (.iadd, 1) := by decide +kernel
theorem d_L_law_794 : decode b_L_law 794 = .ok (.iaload, 1) := by decide +kernel
theorem d_L_law_795 : decode b_L_law 795 = .ok (.aload_n 3, 1) := by decide +kernel
theorem d_L_law_796 : decode b_L_law 796 = .ok (.invokestatic 107, 3) := by decide +kernel
theorem d_L_law_799 : decode b_L_law 799 = .ok (.istore 5, 2) := by decide +kernel
theorem d_L_law_801 : decode b_L_law 801 = .ok (.aload_n 2, 1) := by decide +kernel
theorem d_L_law_802 : decode b_L_law 802 = .ok (.aload_n 0, 1) := by decide +kernel
theorem d_L_law_803 : decode b_L_law 803 = .ok (.iload 4, 2) := by decide +kernel
theorem d_L_law_805 : decode b_L_law 805 = .ok (.iconst 1, 1) := by decide +kernel
theorem d_L_law_806 : decode b_L_law 806 = .ok (.iadd, 1) := by decide +kernel
theorem d_L_law_807 : decode b_L_law 807 = .ok (.iaload, 1) := by decide +kernel
theorem d_L_law_808 : decode b_L_law 808 = .ok (.invokevirtual 109, 3) := by decide +kernel
theorem d_L_law_811 : decode b_L_law 811 = .ok (.istore 6, 2) := by decide +kernel
theorem d_L_law_813 : decode b_L_law 813 = .ok (.aload_n 2, 1) := by decide +kernel
theorem d_L_law_814 : decode b_L_law 814 = .ok (.invokevirtual 70, 3) := by decide +kernel
theorem d_L_law_817 : decode b_L_law 817 = .ok (.iload 5, 2) := by decide +kernel
theorem d_L_law_819 : decode b_L_law 819 = .ok (.if_icmp .eq 5, 3) := by decide +kernel
theorem d_L_law_822 : decode b_L_law 822 = .ok (.iconst 0, 1) := by decide +kernel
theorem d_L_law_823 : decode b_L_law 823 = .ok (.ireturn, 1) := by decide +kernel
theorem d_L_law_824 : decode b_L_law 824 = .ok (.iload 5, 2) := by decide +kernel
theorem d_L_law_826 : decode b_L_law 826 = .ok (.ifCond .ne 15, 3) := by decide +kernel
theorem d_L_law_829 : decode b_L_law 829 = .ok (.aload_n 3, 1) := by decide +kernel
theorem d_L_law_830 : decode b_L_law 830 = .ok (.iconst 0, 1) := by decide +kernel
theorem d_L_law_831 : decode b_L_law 831 = .ok (.laload, 1) := by decide +kernel
theorem d_L_law_832 : decode b_L_law 832 = .ok (.iload 6, 2) := by decide +kernel
theorem d_L_law_834 : decode b_L_law 834 = .ok (.i2l, 1) := by decide +kernel
theorem d_L_law_835 : decode b_L_law 835 = .ok (.lcmp, 1) := by decide +kernel
theorem d_L_law_836 : decode b_L_law 836 = .ok (.ifCond .eq 5, 3) := by decide +kernel
theorem d_L_law_839 : decode b_L_law 839 = .ok (.iconst 0, 1) := by decide +kernel
theorem d_L_law_840 : decode b_L_law 840 = .ok (.ireturn, 1) := by decide +kernel
theorem d_L_law_841 : decode b_L_law 841 = .ok (.goto 3, 3) := by decide +kernel
theorem d_L_law_844 : decode b_L_law 844 = .ok (.iinc 4 5, 3) := by decide +kernel
theorem d_L_law_847 : decode b_L_law 847 = .ok (.goto (-824), 3) := by decide +kernel
theorem d_L_law_850 : decode b_L_law 850 = .ok (.iconst 1, 1) := by decide +kernel
theorem d_L_law_851 : decode b_L_law 851 = .ok (.ireturn, 1) := by decide +kernel
end
section
theorem hv_C_init : y_C_init.cls = R_C ∧ y_C_init.cls ≠ "java/lang/invoke/MethodHandle" ∧ y_C_init.cls ≠ "java/lang/invoke/VarHandle" ∧ (parseMethodDescriptor y_C_init.desc).map (fun d => d.parameters.length) = some 0 := by decide +kernel
theorem hv_OJ_init : y_OJ_init.cls = R_OJ ∧ y_OJ_init.cls ≠ "java/lang/invoke/MethodHandle" ∧ y_OJ_init.cls ≠ "java/lang/invoke/VarHandle" ∧ (parseMethodDescriptor y_OJ_init.desc).map (fun d => d.parameters.length) = some 0 := by decide +kernel
theorem hv_S_init : y_S_init.cls = R_S ∧ y_S_init.cls ≠ "java/lang/invoke/MethodHandle" ∧ y_S_init.cls ≠ "java/lang/invoke/VarHandle" ∧ (parseMethodDescriptor y_S_init.desc).map (fun d => d.parameters.length) = some 0 := by decide +kernel
theorem hv_S_ofVariable : y_S_ofVariable.cls = R_S ∧ y_S_ofVariable.cls ≠ "java/lang/invoke/MethodHandle" ∧ y_S_ofVariable.cls ≠ "java/lang/invoke/VarHandle" ∧ (parseMethodDescriptor y_S_ofVariable.desc).map (fun d => d.parameters.length) = some 1 := by decide +kernel
theorem hv_A_init : y_A_init.cls = R_A ∧ y_A_init.cls ≠ "java/lang/invoke/MethodHandle" ∧ y_A_init.cls ≠ "java/lang/invoke/VarHandle" ∧ (parseMethodDescriptor y_A_init.desc).map (fun d => d.parameters.length) = some 0 := by decide +kernel
theorem hv_AL_init : y_AL_init.cls = R_AL ∧ y_AL_init.cls ≠ "java/lang/invoke/MethodHandle" ∧ y_AL_init.cls ≠ "java/lang/invoke/VarHandle" ∧ (parseMethodDescriptor y_AL_init.desc).map (fun d => d.parameters.length) = some 0 := by decide +kernel
theorem hv_AC_init : y_AC_init.cls = R_AC ∧ y_AC_init.cls ≠ "java/lang/invoke/MethodHandle" ∧ y_AC_init.cls ≠ "java/lang/invoke/VarHandle" ∧ (parseMethodDescriptor y_AC_init.desc).map (fun d => d.parameters.length) = some 0 := by decide +kernel
theorem hv_V_init : y_V_init.cls = R_V ∧ y_V_init.cls ≠ "java/lang/invoke/MethodHandle" ∧ y_V_init.cls ≠ "java/lang/invoke/VarHandle" ∧ (parseMethodDescriptor y_V_init.desc).map (fun d => d.parameters.length) = some 3 := by decide +kernel
theorem hv_A_add1 : y_A_add1.cls = R_A ∧ y_A_add1.cls ≠ "java/lang/invoke/MethodHandle" ∧ y_A_add1.cls ≠ "java/lang/invoke/VarHandle" ∧ (parseMethodDescriptor y_A_add1.desc).map (fun d => d.parameters.length) = some 1 := by decide +kernel
theorem hv_A_add3 : y_A_add3.cls = R_A ∧ y_A_add3.cls ≠ "java/lang/invoke/MethodHandle" ∧ y_A_add3.cls ≠ "java/lang/invoke/VarHandle" ∧ (parseMethodDescriptor y_A_add3.desc).map (fun d => d.parameters.length) = some 3 := by decide +kernel
theorem hv_A_grow0 : y_A_grow0.cls = R_A ∧ y_A_grow0.cls ≠ "java/lang/invoke/MethodHandle" ∧ y_A_grow0.cls ≠ "java/lang/invoke/VarHandle" ∧ (parseMethodDescriptor y_A_grow0.desc).map (fun d => d.parameters.length) = some 0 := by decide +kernel
theorem hv_A_grow1 : y_A_grow1.cls = R_A ∧ y_A_grow1.cls ≠ "java/lang/invoke/MethodHandle" ∧ y_A_grow1.cls ≠ "java/lang/invoke/VarHandle" ∧ (parseMethodDescriptor y_A_grow1.desc).map (fun d => d.parameters.length) = some 1 := by decide +kernel
theorem hv_AS_newLength : y_AS_newLength.cls = R_AS ∧ y_AS_newLength.cls ≠ "java/lang/invoke/MethodHandle" ∧ y_AS_newLength.cls ≠ "java/lang/invoke/VarHandle" ∧ (parseMethodDescriptor y_AS_newLength.desc).map (fun d => d.parameters.length) = some 3 := by decide +kernel
theorem hv_MA_max : y_MA_max.cls = R_MA ∧ y_MA_max.cls ≠ "java/lang/invoke/MethodHandle" ∧ y_MA_max.cls ≠ "java/lang/invoke/VarHandle" ∧ (parseMethodDescriptor y_MA_max.desc).map (fun d => d.parameters.length) = some 2 := by decide +kernel
theorem hv_AS_hugeLength : y_AS_hugeLength.cls = R_AS ∧ y_AS_hugeLength.cls ≠ "java/lang/invoke/MethodHandle" ∧ y_AS_hugeLength.cls ≠ "java/lang/invoke/VarHandle" ∧ (parseMethodDescriptor y_AS_hugeLength.desc).map (fun d => d.parameters.length) = some 2 := by decide +kernel
theorem hv_AR_copyOf2 : y_AR_copyOf2.cls = R_AR ∧ y_AR_copyOf2.cls ≠ "java/lang/invoke/MethodHandle" ∧ y_AR_copyOf2.cls ≠ "java/lang/invoke/VarHandle" ∧ (parseMethodDescriptor y_AR_copyOf2.desc).map (fun d => d.parameters.length) = some 2 := by decide +kernel
theorem hv_AR_copyOf3 : y_AR_copyOf3.cls = R_AR ∧ y_AR_copyOf3.cls ≠ "java/lang/invoke/MethodHandle" ∧ y_AR_copyOf3.cls ≠ "java/lang/invoke/VarHandle" ∧ (parseMethodDescriptor y_AR_copyOf3.desc).map (fun d => d.parameters.length) = some 3 := by decide +kernel
theorem hv_MA_min : y_MA_min.cls = R_MA ∧ y_MA_min.cls ≠ "java/lang/invoke/MethodHandle" ∧ y_MA_min.cls ≠ "java/lang/invoke/VarHandle" ∧ (parseMethodDescriptor y_MA_min.desc).map (fun d => d.parameters.length) = some 2 := by decide +kernel
theorem hv_L_expression : y_L_expression.cls = R_L ∧ y_L_expression.cls ≠ "java/lang/invoke/MethodHandle" ∧ y_L_expression.cls ≠ "java/lang/invoke/VarHandle" ∧ (parseMethodDescriptor y_L_expression.desc).map (fun d => d.parameters.length) = some 6 := by decide +kernel
theorem hv_C_expression : y_C_expression.cls = R_C ∧ y_C_expression.cls ≠ "java/lang/invoke/MethodHandle" ∧ y_C_expression.cls ≠ "java/lang/invoke/VarHandle" ∧ (parseMethodDescriptor y_C_expression.desc).map (fun d => d.parameters.length) = some 4 := by decide +kernel
theorem hv_C_isWellFormed : y_C_isWellFormed.cls = R_C ∧ y_C_isWellFormed.cls ≠ "java/lang/invoke/MethodHandle" ∧ y_C_isWellFormed.cls ≠ "java/lang/invoke/VarHandle" ∧ (parseMethodDescriptor y_C_isWellFormed.desc).map (fun d => d.parameters.length) = some 4 := by decide +kernel
theorem hv_C_isMade : y_C_isMade.cls = R_C ∧ y_C_isMade.cls ≠ "java/lang/invoke/MethodHandle" ∧ y_C_isMade.cls ≠ "java/lang/invoke/VarHandle" ∧ (parseMethodDescriptor y_C_isMade.desc).map (fun d => d.parameters.length) = some 1 := by decide +kernel
theorem hv_A_size : y_A_size.cls = R_A ∧ y_A_size.cls ≠ "java/lang/invoke/MethodHandle" ∧ y_A_size.cls ≠ "java/lang/invoke/VarHandle" ∧ (parseMethodDescriptor y_A_size.desc).map (fun d => d.parameters.length) = some 0 := by decide +kernel
theorem hv_C_hasRoomFor : y_C_hasRoomFor.cls = R_C ∧ y_C_hasRoomFor.cls ≠ "java/lang/invoke/MethodHandle" ∧ y_C_hasRoomFor.cls ≠ "java/lang/invoke/VarHandle" ∧ (parseMethodDescriptor y_C_hasRoomFor.desc).map (fun d => d.parameters.length) = some 4 := by decide +kernel
theorem hv_C_constraintsNeeded : y_C_constraintsNeeded.cls = R_C ∧ y_C_constraintsNeeded.cls ≠ "java/lang/invoke/MethodHandle" ∧ y_C_constraintsNeeded.cls ≠ "java/lang/invoke/VarHandle" ∧ (parseMethodDescriptor y_C_constraintsNeeded.desc).map (fun d => d.parameters.length) = some 4 := by decide +kernel
theorem hv_C_sumOf : y_C_sumOf.cls = R_C ∧ y_C_sumOf.cls ≠ "java/lang/invoke/MethodHandle" ∧ y_C_sumOf.cls ≠ "java/lang/invoke/VarHandle" ∧ (parseMethodDescriptor y_C_sumOf.desc).map (fun d => d.parameters.length) = some 1 := by decide +kernel
theorem hv_A_get : y_A_get.cls = R_A ∧ y_A_get.cls ≠ "java/lang/invoke/MethodHandle" ∧ y_A_get.cls ≠ "java/lang/invoke/VarHandle" ∧ (parseMethodDescriptor y_A_get.desc).map (fun d => d.parameters.length) = some 1 := by decide +kernel
theorem hv_OB_checkIndex : y_OB_checkIndex.cls = R_OB ∧ y_OB_checkIndex.cls ≠ "java/lang/invoke/MethodHandle" ∧ y_OB_checkIndex.cls ≠ "java/lang/invoke/VarHandle" ∧ (parseMethodDescriptor y_OB_checkIndex.desc).map (fun d => d.parameters.length) = some 2 := by decide +kernel
theorem hv_PC_checkIndex : y_PC_checkIndex.cls = R_PC ∧ y_PC_checkIndex.cls ≠ "java/lang/invoke/MethodHandle" ∧ y_PC_checkIndex.cls ≠ "java/lang/invoke/VarHandle" ∧ (parseMethodDescriptor y_PC_checkIndex.desc).map (fun d => d.parameters.length) = some 3 := by decide +kernel
theorem hv_A_elementData : y_A_elementData.cls = R_A ∧ y_A_elementData.cls ≠ "java/lang/invoke/MethodHandle" ∧ y_A_elementData.cls ≠ "java/lang/invoke/VarHandle" ∧ (parseMethodDescriptor y_A_elementData.desc).map (fun d => d.parameters.length) = some 1 := by decide +kernel
theorem hv_C_constraintsOfProduct : y_C_constraintsOfProduct.cls = R_C ∧ y_C_constraintsOfProduct.cls ≠ "java/lang/invoke/MethodHandle" ∧ y_C_constraintsOfProduct.cls ≠ "java/lang/invoke/VarHandle" ∧ (parseMethodDescriptor y_C_constraintsOfProduct.desc).map (fun d => d.parameters.length) = some 2 := by decide +kernel
theorem hv_S_isConstant : y_S_isConstant.cls = R_S ∧ y_S_isConstant.cls ≠ "java/lang/invoke/MethodHandle" ∧ y_S_isConstant.cls ≠ "java/lang/invoke/VarHandle" ∧ (parseMethodDescriptor y_S_isConstant.desc).map (fun d => d.parameters.length) = some 0 := by decide +kernel
theorem hv_S_lastVariable : y_S_lastVariable.cls = R_S ∧ y_S_lastVariable.cls ≠ "java/lang/invoke/MethodHandle" ∧ y_S_lastVariable.cls ≠ "java/lang/invoke/VarHandle" ∧ (parseMethodDescriptor y_S_lastVariable.desc).map (fun d => d.parameters.length) = some 0 := by decide +kernel
theorem hv_C_difference : y_C_difference.cls = R_C ∧ y_C_difference.cls ≠ "java/lang/invoke/MethodHandle" ∧ y_C_difference.cls ≠ "java/lang/invoke/VarHandle" ∧ (parseMethodDescriptor y_C_difference.desc).map (fun d => d.parameters.length) = some 2 := by decide +kernel
theorem hv_S_minus : y_S_minus.cls = R_S ∧ y_S_minus.cls ≠ "java/lang/invoke/MethodHandle" ∧ y_S_minus.cls ≠ "java/lang/invoke/VarHandle" ∧ (parseMethodDescriptor y_S_minus.desc).map (fun d => d.parameters.length) = some 1 := by decide +kernel
theorem hv_S_combinedWith : y_S_combinedWith.cls = R_S ∧ y_S_combinedWith.cls ≠ "java/lang/invoke/MethodHandle" ∧ y_S_combinedWith.cls ≠ "java/lang/invoke/VarHandle" ∧ (parseMethodDescriptor y_S_combinedWith.desc).map (fun d => d.parameters.length) = some 3 := by decide +kernel
theorem hv_C_remainder : y_C_remainder.cls = R_C ∧ y_C_remainder.cls ≠ "java/lang/invoke/MethodHandle" ∧ y_C_remainder.cls ≠ "java/lang/invoke/VarHandle" ∧ (parseMethodDescriptor y_C_remainder.desc).map (fun d => d.parameters.length) = some 1 := by decide +kernel
theorem hv_MA_floorMod : y_MA_floorMod.cls = R_MA ∧ y_MA_floorMod.cls ≠ "java/lang/invoke/MethodHandle" ∧ y_MA_floorMod.cls ≠ "java/lang/invoke/VarHandle" ∧ (parseMethodDescriptor y_MA_floorMod.desc).map (fun d => d.parameters.length) = some 2 := by decide +kernel
theorem hv_C_makeInput : y_C_makeInput.cls = R_C ∧ y_C_makeInput.cls ≠ "java/lang/invoke/MethodHandle" ∧ y_C_makeInput.cls ≠ "java/lang/invoke/VarHandle" ∧ (parseMethodDescriptor y_C_makeInput.desc).map (fun d => d.parameters.length) = some 0 := by decide +kernel
theorem hv_C_addVariable : y_C_addVariable.cls = R_C ∧ y_C_addVariable.cls ≠ "java/lang/invoke/MethodHandle" ∧ y_C_addVariable.cls ≠ "java/lang/invoke/VarHandle" ∧ (parseMethodDescriptor y_C_addVariable.desc).map (fun d => d.parameters.length) = some 3 := by decide +kernel
theorem hv_E_init : y_E_init.cls = R_E ∧ y_E_init.cls ≠ "java/lang/invoke/MethodHandle" ∧ y_E_init.cls ≠ "java/lang/invoke/VarHandle" ∧ (parseMethodDescriptor y_E_init.desc).map (fun d => d.parameters.length) = some 2 := by decide +kernel
theorem hv_C_makeSum : y_C_makeSum.cls = R_C ∧ y_C_makeSum.cls ≠ "java/lang/invoke/MethodHandle" ∧ y_C_makeSum.cls ≠ "java/lang/invoke/VarHandle" ∧ (parseMethodDescriptor y_C_makeSum.desc).map (fun d => d.parameters.length) = some 4 := by decide +kernel
theorem hv_S_plus : y_S_plus.cls = R_S ∧ y_S_plus.cls ≠ "java/lang/invoke/MethodHandle" ∧ y_S_plus.cls ≠ "java/lang/invoke/VarHandle" ∧ (parseMethodDescriptor y_S_plus.desc).map (fun d => d.parameters.length) = some 1 := by decide +kernel
theorem hv_C_makeProduct : y_C_makeProduct.cls = R_C ∧ y_C_makeProduct.cls ≠ "java/lang/invoke/MethodHandle" ∧ y_C_makeProduct.cls ≠ "java/lang/invoke/VarHandle" ∧ (parseMethodDescriptor y_C_makeProduct.desc).map (fun d => d.parameters.length) = some 2 := by decide +kernel
theorem hv_S_scaledBy : y_S_scaledBy.cls = R_S ∧ y_S_scaledBy.cls ≠ "java/lang/invoke/MethodHandle" ∧ y_S_scaledBy.cls ≠ "java/lang/invoke/VarHandle" ∧ (parseMethodDescriptor y_S_scaledBy.desc).map (fun d => d.parameters.length) = some 1 := by decide +kernel
theorem hv_C_makeConstrainedProduct : y_C_makeConstrainedProduct.cls = R_C ∧ y_C_makeConstrainedProduct.cls ≠ "java/lang/invoke/MethodHandle" ∧ y_C_makeConstrainedProduct.cls ≠ "java/lang/invoke/VarHandle" ∧ (parseMethodDescriptor y_C_makeConstrainedProduct.desc).map (fun d => d.parameters.length) = some 2 := by decide +kernel
theorem hv_C_addConstraint : y_C_addConstraint.cls = R_C ∧ y_C_addConstraint.cls ≠ "java/lang/invoke/MethodHandle" ∧ y_C_addConstraint.cls ≠ "java/lang/invoke/VarHandle" ∧ (parseMethodDescriptor y_C_addConstraint.desc).map (fun d => d.parameters.length) = some 3 := by decide +kernel
theorem hv_K_init : y_K_init.cls = R_K ∧ y_K_init.cls ≠ "java/lang/invoke/MethodHandle" ∧ y_K_init.cls ≠ "java/lang/invoke/VarHandle" ∧ (parseMethodDescriptor y_K_init.desc).map (fun d => d.parameters.length) = some 3 := by decide +kernel
theorem hv_C_makeShare : y_C_makeShare.cls = R_C ∧ y_C_makeShare.cls ≠ "java/lang/invoke/MethodHandle" ∧ y_C_makeShare.cls ≠ "java/lang/invoke/VarHandle" ∧ (parseMethodDescriptor y_C_makeShare.desc).map (fun d => d.parameters.length) = some 2 := by decide +kernel
theorem hv_C_makeSame : y_C_makeSame.cls = R_C ∧ y_C_makeSame.cls ≠ "java/lang/invoke/MethodHandle" ∧ y_C_makeSame.cls ≠ "java/lang/invoke/VarHandle" ∧ (parseMethodDescriptor y_C_makeSame.desc).map (fun d => d.parameters.length) = some 1 := by decide +kernel
theorem hv_C_makePower : y_C_makePower.cls = R_C ∧ y_C_makePower.cls ≠ "java/lang/invoke/MethodHandle" ∧ y_C_makePower.cls ≠ "java/lang/invoke/VarHandle" ∧ (parseMethodDescriptor y_C_makePower.desc).map (fun d => d.parameters.length) = some 2 := by decide +kernel
theorem hv_L_claim : y_L_claim.cls = R_L ∧ y_L_claim.cls ≠ "java/lang/invoke/MethodHandle" ∧ y_L_claim.cls ≠ "java/lang/invoke/VarHandle" ∧ (parseMethodDescriptor y_L_claim.desc).map (fun d => d.parameters.length) = some 5 := by decide +kernel
theorem hv_C_claim : y_C_claim.cls = R_C ∧ y_C_claim.cls ≠ "java/lang/invoke/MethodHandle" ∧ y_C_claim.cls ≠ "java/lang/invoke/VarHandle" ∧ (parseMethodDescriptor y_C_claim.desc).map (fun d => d.parameters.length) = some 3 := by decide +kernel
theorem hv_L_give : y_L_give.cls = R_L ∧ y_L_give.cls ≠ "java/lang/invoke/MethodHandle" ∧ y_L_give.cls ≠ "java/lang/invoke/VarHandle" ∧ (parseMethodDescriptor y_L_give.desc).map (fun d => d.parameters.length) = some 4 := by decide +kernel
theorem hv_C_give : y_C_give.cls = R_C ∧ y_C_give.cls ≠ "java/lang/invoke/MethodHandle" ∧ y_C_give.cls ≠ "java/lang/invoke/VarHandle" ∧ (parseMethodDescriptor y_C_give.desc).map (fun d => d.parameters.length) = some 2 := by decide +kernel
theorem hv_E_isInput : y_E_isInput.cls = R_E ∧ y_E_isInput.cls ≠ "java/lang/invoke/MethodHandle" ∧ y_E_isInput.cls ≠ "java/lang/invoke/VarHandle" ∧ (parseMethodDescriptor y_E_isInput.desc).map (fun d => d.parameters.length) = some 0 := by decide +kernel
theorem hv_L_solve : y_L_solve.cls = R_L ∧ y_L_solve.cls ≠ "java/lang/invoke/MethodHandle" ∧ y_L_solve.cls ≠ "java/lang/invoke/VarHandle" ∧ (parseMethodDescriptor y_L_solve.desc).map (fun d => d.parameters.length) = some 2 := by decide +kernel
theorem hv_C_solve : y_C_solve.cls = R_C ∧ y_C_solve.cls ≠ "java/lang/invoke/MethodHandle" ∧ y_C_solve.cls ≠ "java/lang/invoke/VarHandle" ∧ (parseMethodDescriptor y_C_solve.desc).map (fun d => d.parameters.length) = some 0 := by decide +kernel
theorem hv_C_fillDraft : y_C_fillDraft.cls = R_C ∧ y_C_fillDraft.cls ≠ "java/lang/invoke/MethodHandle" ∧ y_C_fillDraft.cls ≠ "java/lang/invoke/VarHandle" ∧ (parseMethodDescriptor y_C_fillDraft.desc).map (fun d => d.parameters.length) = some 0 := by decide +kernel
theorem hv_V_numberFor : y_V_numberFor.cls = R_V ∧ y_V_numberFor.cls ≠ "java/lang/invoke/MethodHandle" ∧ y_V_numberFor.cls ≠ "java/lang/invoke/VarHandle" ∧ (parseMethodDescriptor y_V_numberFor.desc).map (fun d => d.parameters.length) = some 1 := by decide +kernel
theorem hv_S_valueFor : y_S_valueFor.cls = R_S ∧ y_S_valueFor.cls ≠ "java/lang/invoke/MethodHandle" ∧ y_S_valueFor.cls ≠ "java/lang/invoke/VarHandle" ∧ (parseMethodDescriptor y_S_valueFor.desc).map (fun d => d.parameters.length) = some 1 := by decide +kernel
theorem hv_C_inverseOrZero : y_C_inverseOrZero.cls = R_C ∧ y_C_inverseOrZero.cls ≠ "java/lang/invoke/MethodHandle" ∧ y_C_inverseOrZero.cls ≠ "java/lang/invoke/VarHandle" ∧ (parseMethodDescriptor y_C_inverseOrZero.desc).map (fun d => d.parameters.length) = some 1 := by decide +kernel
theorem hv_C_howManyBroken : y_C_howManyBroken.cls = R_C ∧ y_C_howManyBroken.cls ≠ "java/lang/invoke/MethodHandle" ∧ y_C_howManyBroken.cls ≠ "java/lang/invoke/VarHandle" ∧ (parseMethodDescriptor y_C_howManyBroken.desc).map (fun d => d.parameters.length) = some 0 := by decide +kernel
theorem hv_K_holdsFor : y_K_holdsFor.cls = R_K ∧ y_K_holdsFor.cls ≠ "java/lang/invoke/MethodHandle" ∧ y_K_holdsFor.cls ≠ "java/lang/invoke/VarHandle" ∧ (parseMethodDescriptor y_K_holdsFor.desc).map (fun d => d.parameters.length) = some 1 := by decide +kernel
theorem hv_L_value : y_L_value.cls = R_L ∧ y_L_value.cls ≠ "java/lang/invoke/MethodHandle" ∧ y_L_value.cls ≠ "java/lang/invoke/VarHandle" ∧ (parseMethodDescriptor y_L_value.desc).map (fun d => d.parameters.length) = some 3 := by decide +kernel
theorem hv_C_value : y_C_value.cls = R_C ∧ y_C_value.cls ≠ "java/lang/invoke/MethodHandle" ∧ y_C_value.cls ≠ "java/lang/invoke/VarHandle" ∧ (parseMethodDescriptor y_C_value.desc).map (fun d => d.parameters.length) = some 1 := by decide +kernel
theorem hv_C_hasWitness : y_C_hasWitness.cls = R_C ∧ y_C_hasWitness.cls ≠ "java/lang/invoke/MethodHandle" ∧ y_C_hasWitness.cls ≠ "java/lang/invoke/VarHandle" ∧ (parseMethodDescriptor y_C_hasWitness.desc).map (fun d => d.parameters.length) = some 0 := by decide +kernel
theorem hv_L_tamper : y_L_tamper.cls = R_L ∧ y_L_tamper.cls ≠ "java/lang/invoke/MethodHandle" ∧ y_L_tamper.cls ≠ "java/lang/invoke/VarHandle" ∧ (parseMethodDescriptor y_L_tamper.desc).map (fun d => d.parameters.length) = some 4 := by decide +kernel
theorem hv_C_tamper : y_C_tamper.cls = R_C ∧ y_C_tamper.cls ≠ "java/lang/invoke/MethodHandle" ∧ y_C_tamper.cls ≠ "java/lang/invoke/VarHandle" ∧ (parseMethodDescriptor y_C_tamper.desc).map (fun d => d.parameters.length) = some 2 := by decide +kernel
theorem hv_L_broken : y_L_broken.cls = R_L ∧ y_L_broken.cls ≠ "java/lang/invoke/MethodHandle" ∧ y_L_broken.cls ≠ "java/lang/invoke/VarHandle" ∧ (parseMethodDescriptor y_L_broken.desc).map (fun d => d.parameters.length) = some 2 := by decide +kernel
theorem hv_C_broken : y_C_broken.cls = R_C ∧ y_C_broken.cls ≠ "java/lang/invoke/MethodHandle" ∧ y_C_broken.cls ≠ "java/lang/invoke/VarHandle" ∧ (parseMethodDescriptor y_C_broken.desc).map (fun d => d.parameters.length) = some 0 := by decide +kernel
theorem hv_L_first : y_L_first.cls = R_L ∧ y_L_first.cls ≠ "java/lang/invoke/MethodHandle" ∧ y_L_first.cls ≠ "java/lang/invoke/VarHandle" ∧ (parseMethodDescriptor y_L_first.desc).map (fun d => d.parameters.length) = some 2 := by decide +kernel
theorem hv_C_first : y_C_first.cls = R_C ∧ y_C_first.cls ≠ "java/lang/invoke/MethodHandle" ∧ y_C_first.cls ≠ "java/lang/invoke/VarHandle" ∧ (parseMethodDescriptor y_C_first.desc).map (fun d => d.parameters.length) = some 0 := by decide +kernel
theorem hv_L_coefficient : y_L_coefficient.cls = R_L ∧ y_L_coefficient.cls ≠ "java/lang/invoke/MethodHandle" ∧ y_L_coefficient.cls ≠ "java/lang/invoke/VarHandle" ∧ (parseMethodDescriptor y_L_coefficient.desc).map (fun d => d.parameters.length) = some 5 := by decide +kernel
theorem hv_C_coefficient : y_C_coefficient.cls = R_C ∧ y_C_coefficient.cls ≠ "java/lang/invoke/MethodHandle" ∧ y_C_coefficient.cls ≠ "java/lang/invoke/VarHandle" ∧ (parseMethodDescriptor y_C_coefficient.desc).map (fun d => d.parameters.length) = some 3 := by decide +kernel
theorem hv_C_isVariableNumber : y_C_isVariableNumber.cls = R_C ∧ y_C_isVariableNumber.cls ≠ "java/lang/invoke/MethodHandle" ∧ y_C_isVariableNumber.cls ≠ "java/lang/invoke/VarHandle" ∧ (parseMethodDescriptor y_C_isVariableNumber.desc).map (fun d => d.parameters.length) = some 1 := by decide +kernel
theorem hv_K_sumAt : y_K_sumAt.cls = R_K ∧ y_K_sumAt.cls ≠ "java/lang/invoke/MethodHandle" ∧ y_K_sumAt.cls ≠ "java/lang/invoke/VarHandle" ∧ (parseMethodDescriptor y_K_sumAt.desc).map (fun d => d.parameters.length) = some 1 := by decide +kernel
theorem hv_L_terms : y_L_terms.cls = R_L ∧ y_L_terms.cls ≠ "java/lang/invoke/MethodHandle" ∧ y_L_terms.cls ≠ "java/lang/invoke/VarHandle" ∧ (parseMethodDescriptor y_L_terms.desc).map (fun d => d.parameters.length) = some 3 := by decide +kernel
theorem hv_C_terms : y_C_terms.cls = R_C ∧ y_C_terms.cls ≠ "java/lang/invoke/MethodHandle" ∧ y_C_terms.cls ≠ "java/lang/invoke/VarHandle" ∧ (parseMethodDescriptor y_C_terms.desc).map (fun d => d.parameters.length) = some 1 := by decide +kernel
theorem hv_S_howManyTerms : y_S_howManyTerms.cls = R_S ∧ y_S_howManyTerms.cls ≠ "java/lang/invoke/MethodHandle" ∧ y_S_howManyTerms.cls ≠ "java/lang/invoke/VarHandle" ∧ (parseMethodDescriptor y_S_howManyTerms.desc).map (fun d => d.parameters.length) = some 0 := by decide +kernel
theorem hv_L_uses : y_L_uses.cls = R_L ∧ y_L_uses.cls ≠ "java/lang/invoke/MethodHandle" ∧ y_L_uses.cls ≠ "java/lang/invoke/VarHandle" ∧ (parseMethodDescriptor y_L_uses.desc).map (fun d => d.parameters.length) = some 3 := by decide +kernel
theorem hv_C_uses : y_C_uses.cls = R_C ∧ y_C_uses.cls ≠ "java/lang/invoke/MethodHandle" ∧ y_C_uses.cls ≠ "java/lang/invoke/VarHandle" ∧ (parseMethodDescriptor y_C_uses.desc).map (fun d => d.parameters.length) = some 1 := by decide +kernel
theorem hv_K_hasVariable : y_K_hasVariable.cls = R_K ∧ y_K_hasVariable.cls ≠ "java/lang/invoke/MethodHandle" ∧ y_K_hasVariable.cls ≠ "java/lang/invoke/VarHandle" ∧ (parseMethodDescriptor y_K_hasVariable.desc).map (fun d => d.parameters.length) = some 1 := by decide +kernel
theorem hv_L_count : y_L_count.cls = R_L ∧ y_L_count.cls ≠ "java/lang/invoke/MethodHandle" ∧ y_L_count.cls ≠ "java/lang/invoke/VarHandle" ∧ (parseMethodDescriptor y_L_count.desc).map (fun d => d.parameters.length) = some 3 := by decide +kernel
theorem hv_C_count : y_C_count.cls = R_C ∧ y_C_count.cls ≠ "java/lang/invoke/MethodHandle" ∧ y_C_count.cls ≠ "java/lang/invoke/VarHandle" ∧ (parseMethodDescriptor y_C_count.desc).map (fun d => d.parameters.length) = some 1 := by decide +kernel
theorem hv_M_init : y_M_init.cls = R_M ∧ y_M_init.cls ≠ "java/lang/invoke/MethodHandle" ∧ y_M_init.cls ≠ "java/lang/invoke/VarHandle" ∧ (parseMethodDescriptor y_M_init.desc).map (fun d => d.parameters.length) = some 0 := by decide +kernel
theorem hv_M_thrown : y_M_thrown.cls = R_M ∧ y_M_thrown.cls ≠ "java/lang/invoke/MethodHandle" ∧ y_M_thrown.cls ≠ "java/lang/invoke/VarHandle" ∧ (parseMethodDescriptor y_M_thrown.desc).map (fun d => d.parameters.length) = some 0 := by decide +kernel
theorem hv_M_expression : y_M_expression.cls = R_M ∧ y_M_expression.cls ≠ "java/lang/invoke/MethodHandle" ∧ y_M_expression.cls ≠ "java/lang/invoke/VarHandle" ∧ (parseMethodDescriptor y_M_expression.desc).map (fun d => d.parameters.length) = some 4 := by decide +kernel
theorem hv_M_fits : y_M_fits.cls = R_M ∧ y_M_fits.cls ≠ "java/lang/invoke/MethodHandle" ∧ y_M_fits.cls ≠ "java/lang/invoke/VarHandle" ∧ (parseMethodDescriptor y_M_fits.desc).map (fun d => d.parameters.length) = some 4 := by decide +kernel
theorem hv_M_in : y_M_in.cls = R_M ∧ y_M_in.cls ≠ "java/lang/invoke/MethodHandle" ∧ y_M_in.cls ≠ "java/lang/invoke/VarHandle" ∧ (parseMethodDescriptor y_M_in.desc).map (fun d => d.parameters.length) = some 3 := by decide +kernel
theorem hv_M_made : y_M_made.cls = R_M ∧ y_M_made.cls ≠ "java/lang/invoke/MethodHandle" ∧ y_M_made.cls ≠ "java/lang/invoke/VarHandle" ∧ (parseMethodDescriptor y_M_made.desc).map (fun d => d.parameters.length) = some 1 := by decide +kernel
theorem hv_M_raise : y_M_raise.cls = R_M ∧ y_M_raise.cls ≠ "java/lang/invoke/MethodHandle" ∧ y_M_raise.cls ≠ "java/lang/invoke/VarHandle" ∧ (parseMethodDescriptor y_M_raise.desc).map (fun d => d.parameters.length) = some 1 := by decide +kernel
theorem hv_M_needs : y_M_needs.cls = R_M ∧ y_M_needs.cls ≠ "java/lang/invoke/MethodHandle" ∧ y_M_needs.cls ≠ "java/lang/invoke/VarHandle" ∧ (parseMethodDescriptor y_M_needs.desc).map (fun d => d.parameters.length) = some 4 := by decide +kernel
theorem hv_M_isConstant : y_M_isConstant.cls = R_M ∧ y_M_isConstant.cls ≠ "java/lang/invoke/MethodHandle" ∧ y_M_isConstant.cls ≠ "java/lang/invoke/VarHandle" ∧ (parseMethodDescriptor y_M_isConstant.desc).map (fun d => d.parameters.length) = some 1 := by decide +kernel
theorem hv_M_plainEither : y_M_plainEither.cls = R_M ∧ y_M_plainEither.cls ≠ "java/lang/invoke/MethodHandle" ∧ y_M_plainEither.cls ≠ "java/lang/invoke/VarHandle" ∧ (parseMethodDescriptor y_M_plainEither.desc).map (fun d => d.parameters.length) = some 3 := by decide +kernel
theorem hv_M_number : y_M_number.cls = R_M ∧ y_M_number.cls ≠ "java/lang/invoke/MethodHandle" ∧ y_M_number.cls ≠ "java/lang/invoke/VarHandle" ∧ (parseMethodDescriptor y_M_number.desc).map (fun d => d.parameters.length) = some 2 := by decide +kernel
theorem hv_M_rest : y_M_rest.cls = R_M ∧ y_M_rest.cls ≠ "java/lang/invoke/MethodHandle" ∧ y_M_rest.cls ≠ "java/lang/invoke/VarHandle" ∧ (parseMethodDescriptor y_M_rest.desc).map (fun d => d.parameters.length) = some 1 := by decide +kernel
theorem hv_M_add : y_M_add.cls = R_M ∧ y_M_add.cls ≠ "java/lang/invoke/MethodHandle" ∧ y_M_add.cls ≠ "java/lang/invoke/VarHandle" ∧ (parseMethodDescriptor y_M_add.desc).map (fun d => d.parameters.length) = some 3 := by decide +kernel
theorem hv_M_constant : y_M_constant.cls = R_M ∧ y_M_constant.cls ≠ "java/lang/invoke/MethodHandle" ∧ y_M_constant.cls ≠ "java/lang/invoke/VarHandle" ∧ (parseMethodDescriptor y_M_constant.desc).map (fun d => d.parameters.length) = some 1 := by decide +kernel
theorem hv_M_work : y_M_work.cls = R_M ∧ y_M_work.cls ≠ "java/lang/invoke/MethodHandle" ∧ y_M_work.cls ≠ "java/lang/invoke/VarHandle" ∧ (parseMethodDescriptor y_M_work.desc).map (fun d => d.parameters.length) = some 4 := by decide +kernel
theorem hv_M_variable : y_M_variable.cls = R_M ∧ y_M_variable.cls ≠ "java/lang/invoke/MethodHandle" ∧ y_M_variable.cls ≠ "java/lang/invoke/VarHandle" ∧ (parseMethodDescriptor y_M_variable.desc).map (fun d => d.parameters.length) = some 2 := by decide +kernel
theorem hv_M_one : y_M_one.cls = R_M ∧ y_M_one.cls ≠ "java/lang/invoke/MethodHandle" ∧ y_M_one.cls ≠ "java/lang/invoke/VarHandle" ∧ (parseMethodDescriptor y_M_one.desc).map (fun d => d.parameters.length) = some 2 := by decide +kernel
theorem hv_M_fetch : y_M_fetch.cls = R_M ∧ y_M_fetch.cls ≠ "java/lang/invoke/MethodHandle" ∧ y_M_fetch.cls ≠ "java/lang/invoke/VarHandle" ∧ (parseMethodDescriptor y_M_fetch.desc).map (fun d => d.parameters.length) = some 2 := by decide +kernel
theorem hv_M_multiply : y_M_multiply.cls = R_M ∧ y_M_multiply.cls ≠ "java/lang/invoke/MethodHandle" ∧ y_M_multiply.cls ≠ "java/lang/invoke/VarHandle" ∧ (parseMethodDescriptor y_M_multiply.desc).map (fun d => d.parameters.length) = some 0 := by decide +kernel
theorem hv_M_keep : y_M_keep.cls = R_M ∧ y_M_keep.cls ≠ "java/lang/invoke/MethodHandle" ∧ y_M_keep.cls ≠ "java/lang/invoke/VarHandle" ∧ (parseMethodDescriptor y_M_keep.desc).map (fun d => d.parameters.length) = some 3 := by decide +kernel
theorem hv_M_share : y_M_share.cls = R_M ∧ y_M_share.cls ≠ "java/lang/invoke/MethodHandle" ∧ y_M_share.cls ≠ "java/lang/invoke/VarHandle" ∧ (parseMethodDescriptor y_M_share.desc).map (fun d => d.parameters.length) = some 2 := by decide +kernel
theorem hv_M_same : y_M_same.cls = R_M ∧ y_M_same.cls ≠ "java/lang/invoke/MethodHandle" ∧ y_M_same.cls ≠ "java/lang/invoke/VarHandle" ∧ (parseMethodDescriptor y_M_same.desc).map (fun d => d.parameters.length) = some 2 := by decide +kernel
theorem hv_M_claim : y_M_claim.cls = R_M ∧ y_M_claim.cls ≠ "java/lang/invoke/MethodHandle" ∧ y_M_claim.cls ≠ "java/lang/invoke/VarHandle" ∧ (parseMethodDescriptor y_M_claim.desc).map (fun d => d.parameters.length) = some 3 := by decide +kernel
theorem hv_M_give : y_M_give.cls = R_M ∧ y_M_give.cls ≠ "java/lang/invoke/MethodHandle" ∧ y_M_give.cls ≠ "java/lang/invoke/VarHandle" ∧ (parseMethodDescriptor y_M_give.desc).map (fun d => d.parameters.length) = some 2 := by decide +kernel
theorem hv_M_solve : y_M_solve.cls = R_M ∧ y_M_solve.cls ≠ "java/lang/invoke/MethodHandle" ∧ y_M_solve.cls ≠ "java/lang/invoke/VarHandle" ∧ (parseMethodDescriptor y_M_solve.desc).map (fun d => d.parameters.length) = some 0 := by decide +kernel
theorem hv_M_valueOf : y_M_valueOf.cls = R_M ∧ y_M_valueOf.cls ≠ "java/lang/invoke/MethodHandle" ∧ y_M_valueOf.cls ≠ "java/lang/invoke/VarHandle" ∧ (parseMethodDescriptor y_M_valueOf.desc).map (fun d => d.parameters.length) = some 3 := by decide +kernel
theorem hv_M_inverse : y_M_inverse.cls = R_M ∧ y_M_inverse.cls ≠ "java/lang/invoke/MethodHandle" ∧ y_M_inverse.cls ≠ "java/lang/invoke/VarHandle" ∧ (parseMethodDescriptor y_M_inverse.desc).map (fun d => d.parameters.length) = some 1 := by decide +kernel
theorem hv_M_bad : y_M_bad.cls = R_M ∧ y_M_bad.cls ≠ "java/lang/invoke/MethodHandle" ∧ y_M_bad.cls ≠ "java/lang/invoke/VarHandle" ∧ (parseMethodDescriptor y_M_bad.desc).map (fun d => d.parameters.length) = some 0 := by decide +kernel
theorem hv_M_holds : y_M_holds.cls = R_M ∧ y_M_holds.cls ≠ "java/lang/invoke/MethodHandle" ∧ y_M_holds.cls ≠ "java/lang/invoke/VarHandle" ∧ (parseMethodDescriptor y_M_holds.desc).map (fun d => d.parameters.length) = some 2 := by decide +kernel
theorem hv_M_value : y_M_value.cls = R_M ∧ y_M_value.cls ≠ "java/lang/invoke/MethodHandle" ∧ y_M_value.cls ≠ "java/lang/invoke/VarHandle" ∧ (parseMethodDescriptor y_M_value.desc).map (fun d => d.parameters.length) = some 1 := by decide +kernel
theorem hv_M_tamper : y_M_tamper.cls = R_M ∧ y_M_tamper.cls ≠ "java/lang/invoke/MethodHandle" ∧ y_M_tamper.cls ≠ "java/lang/invoke/VarHandle" ∧ (parseMethodDescriptor y_M_tamper.desc).map (fun d => d.parameters.length) = some 2 := by decide +kernel
theorem hv_M_broken : y_M_broken.cls = R_M ∧ y_M_broken.cls ≠ "java/lang/invoke/MethodHandle" ∧ y_M_broken.cls ≠ "java/lang/invoke/VarHandle" ∧ (parseMethodDescriptor y_M_broken.desc).map (fun d => d.parameters.length) = some 0 := by decide +kernel
theorem hv_M_first : y_M_first.cls = R_M ∧ y_M_first.cls ≠ "java/lang/invoke/MethodHandle" ∧ y_M_first.cls ≠ "java/lang/invoke/VarHandle" ∧ (parseMethodDescriptor y_M_first.desc).map (fun d => d.parameters.length) = some 0 := by decide +kernel
theorem hv_M_coefficient : y_M_coefficient.cls = R_M ∧ y_M_coefficient.cls ≠ "java/lang/invoke/MethodHandle" ∧ y_M_coefficient.cls ≠ "java/lang/invoke/VarHandle" ∧ (parseMethodDescriptor y_M_coefficient.desc).map (fun d => d.parameters.length) = some 3 := by decide +kernel
theorem hv_M_terms : y_M_terms.cls = R_M ∧ y_M_terms.cls ≠ "java/lang/invoke/MethodHandle" ∧ y_M_terms.cls ≠ "java/lang/invoke/VarHandle" ∧ (parseMethodDescriptor y_M_terms.desc).map (fun d => d.parameters.length) = some 1 := by decide +kernel
theorem hv_M_uses : y_M_uses.cls = R_M ∧ y_M_uses.cls ≠ "java/lang/invoke/MethodHandle" ∧ y_M_uses.cls ≠ "java/lang/invoke/VarHandle" ∧ (parseMethodDescriptor y_M_uses.desc).map (fun d => d.parameters.length) = some 1 := by decide +kernel
theorem hv_M_count : y_M_count.cls = R_M ∧ y_M_count.cls ≠ "java/lang/invoke/MethodHandle" ∧ y_M_count.cls ≠ "java/lang/invoke/VarHandle" ∧ (parseMethodDescriptor y_M_count.desc).map (fun d => d.parameters.length) = some 1 := by decide +kernel
theorem hv_L_law : y_L_law.cls = R_L ∧ y_L_law.cls ≠ "java/lang/invoke/MethodHandle" ∧ y_L_law.cls ≠ "java/lang/invoke/VarHandle" ∧ (parseMethodDescriptor y_L_law.desc).map (fun d => d.parameters.length) = some 1 := by decide +kernel
end
section
/-! A world held whole: ws is the list of ALL cells of one system; it is never split, and a place in it stays its place. A: the addresses that may change. G: what the start fixes (classes, slots, the array classes of int, long, Object, the empty row of ArrayList, a mirror). -/
abbrev xG : Type := va_G × ClassId × ClassId × ClassId × Nat × Nat
abbrev xD (G : xG) : va_G := G.1
abbrev xI (G : xG) : ClassId := G.2.1
abbrev xJ (G : xG) : ClassId := G.2.2.1
abbrev xO (G : xG) : ClassId := G.2.2.2.1
abbrev xZ (G : xG) : Nat := G.2.2.2.2.1
abbrev xM (G : xG) : Nat := G.2.2.2.2.2
abbrev xT (G : xG) : List (ClassId × FieldType) := [(xI G, .int), (xJ G, .long), (xO G, .object "java/lang/Object")]
abbrev aI (G : xG) (n : Nat) (f : Nat → Int32) : va_E := .inl (xI G, n, .inl f)
abbrev aJ (G : xG) (n : Nat) (f : Nat → Int64) : va_E := .inl (xJ G, n, .inr (.inl f))
abbrev aO (G : xG) (n : Nat) (f : Nat → Option Nat) : va_E := .inl (xO G, n, .inr (.inr (.inr (.inr f))))
abbrev x_B (G : xG) (A : Nat → Prop) (ws : va_W) (t : State) : Prop := va_P (xD G) CL ws t.heap ∧ va_D A ws
def x_E (G : xG) (A : Nat → Prop) (U : State) (H : Heap) : Prop :=
  va_K (xD G) CL (xT G) U ∧ va_Z "java/util/ArrayList" "DEFAULTCAPACITY_EMPTY_ELEMENTDATA" "[Ljava/lang/Object;" (.ref (xZ G)) A U H ∧ va_T (.object "java/lang/Object") (xZ G) 0 (fun _ => .null) A U H ∧ va_Mi "[Ljava/lang/Object;" (xM G) U ∧ va_AO "java/lang/Object" U ∧
  vx_Zq Bundle.tN "UNASSIGNED_STACK" Bundle.steD A U H ∧ vx_Zq Bundle.tN "SUPPRESSED_SENTINEL" Bundle.listD A U H ∧ ∀ w ∈ NW, va_Nw w U
theorem x_E.warm {G : xG} {A : Nat → Prop} {u U : State} {H : Heap} (hW : u.WarmedH U.vm) (h : x_E G A u H) : x_E G A U H := by
  obtain ⟨h1, h2, h3, h4, h5, h6, h7, h8⟩ := h
  have hvm := hW.alike
  exact ⟨h1.moved hvm, h2.moved hvm, h3.moved hvm, h4.moved hvm, h5.moved hvm, h6.moved hvm, h7.moved hvm, fun w hw => nw_warm (List.mem_filter.mp hw).2 hW (h8 w hw)⟩
theorem x_E.same {G : xG} {A : Nat → Prop} {u U : State} {H : Heap} (hv : u.vm = U.vm) (h : x_E G A u H) : x_E G A U H := by
  obtain ⟨h1, h2, h3, h4, h5, h6, h7, h8⟩ := h
  have hvm : u.vm.Alike U.vm := by rw [hv]; exact Vm.Alike.refl U.vm
  exact ⟨h1.moved hvm, h2.moved hvm, h3.moved hvm, h4.moved hvm, h5.moved hvm, h6.moved hvm, h7.moved hvm, fun w hw => nw_same (List.mem_filter.mp hw).2 hv (h8 w hw)⟩
theorem x_E.kept {G : xG} {A : Nat → Prop} {U : State} {H H1 : Heap} (h : x_E G A U H) (hq : ∀ a : Nat, a < H.size → ¬ A a → H1[a]? = H[a]?) : x_E G A U H1 := by
  obtain ⟨h1, h2, h3, h4, h5, h6, h7, h8⟩ := h
  exact ⟨h1, h2.kept hq, h3.kept hq, h4, h5, h6.kept hq, h7.kept hq, h8⟩
def x_P (G : xG) (A : Nat → Prop) (ws : va_W) (U : State) : Prop := x_E G A U U.heap ∧ (∀ q, U.heap.size ≤ q → A q) ∧ va_P (xD G) CL ws U.heap ∧ va_D A ws
theorem x_blind {G : xG} {A : Nat → Prop} {ws : va_W} {av : List Value} : FrameBlind (va_Pc av (x_P G A ws)) := by
  intro a U g mk h
  obtain ⟨h1, h2, h3, h4, h5⟩ := h
  exact ⟨h1, x_E.same (u := U) (U := U.calling g mk a) rfl h2, h3, h4, h5⟩
theorem x_pre {G : xG} {A : Nat → Prop} {ws : va_W} {av : List Value} {s : State} {H : Heap} {locs : List Loc} (hE : x_E G A s s.heap) (hA : ∀ q, s.heap.size ≤ q → A q) (hS : va_S A s.heap H locs) (hP : va_P (xD G) CL ws H) (hD : va_D A ws) :
    ∀ U : State, U.heap = H → s.WarmedH U.vm → va_Pc av (x_P G A ws) av.toArray U := by
  intro U hU hW
  refine ⟨rfl, ?_, fun q h => hA q (Nat.le_trans hS.1 (by rw [← hU]; exact h)), by rw [hU]; exact hP, hD⟩
  rw [hU]
  exact (hE.warm hW).kept (fun a h1 h2 => hS.2.1 a h1 h2)
/-! places -/
theorem w_eq {ws : va_W} {k : Nat} {x y : Nat × va_E} (h : ws[k]? = some x) : (ws.set k y)[k]? = some y := List.getElem?_set_self (List.getElem?_eq_some_iff.mp h).1
theorem w_ne {ws : va_W} {k j : Nat} {y z : Nat × va_E} (hne : k ≠ j) (h : ws[j]? = some z) : (ws.set k y)[j]? = some z := by rw [List.getElem?_set_ne hne]; exact h
theorem w_app {ws n : va_W} {k : Nat} {x : Nat × va_E} (h : ws[k]? = some x) : (ws ++ n)[k]? = some x := by rw [List.getElem?_append_left (List.getElem?_eq_some_iff.mp h).1]; exact h
theorem w_new0 {ws : va_W} {x : Nat × va_E} {n : va_W} : (ws ++ (x :: n))[ws.length]? = some x := by simp
theorem w_new1 {ws : va_W} {x y : Nat × va_E} {n : va_W} : (ws ++ (x :: y :: n))[ws.length + 1]? = some y := by simp
theorem w_dif {ws : va_W} {k j : Nat} {a b : Nat × va_E} (h1 : ws[k]? = some a) (h2 : ws[j]? = some b) (h : a.2 ≠ b.2) : k ≠ j := by
  rintro rfl
  rw [h1] at h2
  exact h (by cases h2; rfl)
theorem w_lt {ws : va_W} {k : Nat} {x : Nat × va_E} (h : ws[k]? = some x) : k < ws.length := (List.getElem?_eq_some_iff.mp h).1
theorem w_fn {ws : va_W} {k : Nat} {x y : Nat × va_E} (h1 : ws[k]? = some x) (h2 : ws[k]? = some y) : x = y := Option.some.inj (h1.symm.trans h2)
theorem w_setlen {ws : va_W} {k : Nat} {x : Nat × va_E} : (ws.set k x).length = ws.length := List.length_set
/-! numbers -/
theorem n_inc (i : Nat) : nI i + Int32.ofInt 1 = nI (i + 1) := by rw [lit1]; exact nI_1 i
theorem n_0 : (0 : Int32) = nI 0 := nI_0.symm
theorem n_lit {i : Nat} {x : Int32} (h : x.toInt = (i : Int)) (hi : i < 2 ^ 31) : x = nI i := Int32.toInt_inj.mp (by rw [h, nI_toInt hi])
section XR
variable {p : Program} {l : Launch} {e : Env} {R : Room} {s : State} {m : MethodId} {args : Array Value} {below : List Frame} {meth : Method} {c : Code} {H : Heap} {locs : List Loc} {cells slots : Nat} {Q : State → Prop}
variable {cc : ByteArray} {pc : Nat} {ls : Array Slot} {rest : List Value} {G : xG} {A : Nat → Prop} {a : Nat} {ws : va_W} {H0 : Heap}
theorem x_top {x : Int32} (y : Int32) (h : x = y) (k : W p l e R s m args below meth c H locs cells slots Q (F0 m pc ls (.int y :: rest))) : W p l e R s m args below meth c H locs cells slots Q (F0 m pc ls (.int x :: rest)) := h ▸ k
theorem x_newa (hexec : p.tables.exec = Jvm.exec) (hb : c.code = cc) (harr : (Cond.arrayClass .int).before args s = true) (hK : va_K (xD G) CL (xT G) s) (hP : va_P (xD G) CL ws H) (hD : va_D A ws) (hS : va_S A H0 H locs) (hA : ∀ q, H0.size ≤ q → A q)
    {n : Int32} (N : Nat) (hn : n = nI N) (hN : N < 100000) (hcells : cells + 1 ≤ R.cells) (hslots : slots + N ≤ R.slots) (hdg : decode cc pc = .ok (.newarray .int, 2))
    (kk : ∀ (q : Nat) (H1 : Heap), va_P (xD G) CL (ws ++ [(q, aI G N (fun _ => 0))]) H1 → va_D A (ws ++ [(q, aI G N (fun _ => 0))]) → va_S A H0 H1 locs →
      W p l e R s m args below meth c H1 locs (cells + 1) (slots + N) Q (F0 m (pc + 2) ls (.ref q :: rest))) : W p l e R s m args below meth c H locs cells slots Q (F0 m pc ls (.int n :: rest)) := by
  subst hn
  refine va_newa hexec hb (atype := .int) harr (ty := .int) rfl hK hP hD hS hA (N' := N) (a0 := (N, .inl (fun _ => 0))) (fun _ => rfl) (nI_pos (by omega)) (nI_clamp (by omega)) (by simp [componentBytes]; omega) hcells hslots hdg (fun q cA H1 hK2 hP2 hD2 hS2 => ?_)
  have e1 : s.vm.findClass ("[" ++ FieldType.int.toString) = some cA := (hK2.2 3 (cA, .int) rfl).2
  have e2 : s.vm.findClass ("[" ++ FieldType.int.toString) = some (xI G) := (hK.2 0 (xI G, .int) rfl).2
  have e3 : cA = xI G := Option.some.inj (e1.symm.trans e2)
  subst e3
  exact kk q H1 hP2 hD2 hS2
theorem x_newq (hexec : p.tables.exec = Jvm.exec) (hb : c.code = cc) {own : String} {index : Nat} (hown : s.vm.findClass own = some m.cls) (hclink : (Cond.classLink own index "java/lang/Object").before args s = true) (hover : va_AO "java/lang/Object" s) (hK : va_K (xD G) CL (xT G) s) (hP : va_P (xD G) CL ws H) (hD : va_D A ws) (hS : va_S A H0 H locs) (hA : ∀ q, H0.size ≤ q → A q)
    {n : Int32} (N : Nat) (hn : n = nI N) (hN : N < 100000) (hcells : cells + 1 ≤ R.cells) (hslots : slots + N ≤ R.slots) (hdg : decode cc pc = .ok (.anewarray index, 3))
    (kk : ∀ (q : Nat) (H1 : Heap), va_P (xD G) CL (ws ++ [(q, aO G N (fun _ => none))]) H1 → va_D A (ws ++ [(q, aO G N (fun _ => none))]) → va_S A H0 H1 locs →
      W p l e R s m args below meth c H1 locs (cells + 1) (slots + N) Q (F0 m (pc + 3) ls (.ref q :: rest))) : W p l e R s m args below meth c H locs cells slots Q (F0 m pc ls (.int n :: rest)) := by
  subst hn
  refine va_newq hexec hb hown hclink hover hK hP hD hS hA (N' := N) (nI_pos (by omega)) (nI_clamp (by omega)) (by omega) hcells hslots hdg (fun q cA H1 hK2 hP2 hD2 hS2 => ?_)
  have e1 : s.vm.findClass ("[" ++ (FieldType.object "java/lang/Object").toString) = some cA := (hK2.2 3 (cA, .object "java/lang/Object") rfl).2.choose_spec.choose_spec.2.2.2
  have e2 : s.vm.findClass ("[" ++ (FieldType.object "java/lang/Object").toString) = some (xO G) := (hK.2 2 (xO G, .object "java/lang/Object") rfl).2.choose_spec.choose_spec.2.2.2
  have e3 : cA = xO G := Option.some.inj (e1.symm.trans e2)
  subst e3
  exact kk q H1 hP2 hD2 hS2
theorem x_iald (hexec : p.tables.exec = Jvm.exec) (hb : c.code = cc) (hK : va_K (xD G) CL (xT G) s) (hP : va_P (xD G) CL ws H) {q0 n : Nat} {f : Nat → Int32} (ha : ws[q0]? = some (a, aI G n f)) {i : Int32} (j : Nat) (hi : i = nI j) (hj : j < n) (hn : n < 100000) (hdg : decode cc pc = .ok (.iaload, 1))
    (kk : W p l e R s m args below meth c H locs cells slots Q (F0 m (pc + 1) ls (.int (f j) :: rest))) : W p l e R s m args below meth c H locs cells slots Q (F0 m pc ls (.int i :: .ref a :: rest)) := by
  subst hi
  refine va_iald hexec hb hK hP q0 0 ha rfl (vp_in_nI hj (by omega)) hdg ?_
  rw [nI_clamp (by omega)]
  exact kk
theorem x_iast (hexec : p.tables.exec = Jvm.exec) (hb : c.code = cc) (hK : va_K (xD G) CL (xT G) s) (hP : va_P (xD G) CL ws H) (hD : va_D A ws) (hS : va_S A H0 H locs) {q0 n : Nat} {f : Nat → Int32} (ha : ws[q0]? = some (a, aI G n f)) {i x : Int32} (j : Nat) (hi : i = nI j) (hj : j < n) (hn : n < 100000) (hdg : decode cc pc = .ok (.iastore, 1))
    (kk : ∀ (H1 : Heap) (locs1 : List Loc), va_P (xD G) CL (ws.set q0 (a, aI G n (upd f j x))) H1 → va_D A (ws.set q0 (a, aI G n (upd f j x))) → va_S A H0 H1 locs1 → W p l e R s m args below meth c H1 locs1 cells slots Q (F0 m (pc + 1) ls rest)) : W p l e R s m args below meth c H locs cells slots Q (F0 m pc ls (.int x :: .int i :: .ref a :: rest)) := by
  subst hi
  refine va_iast hexec hb hK hP hD hS q0 0 ha rfl (vp_in_nI hj (by omega)) hdg ?_
  rw [nI_clamp (by omega)]
  exact kk
theorem x_lt (hexec : p.tables.exec = Jvm.exec) (hb : c.code = cc) {x y : Int32} (i j : Nat) (hx : x = nI i) (hy : y = nI j) (hi : i < 2 ^ 31) (hj : j < 2 ^ 31) {off : Int} {tgt : Nat} (hdg : decode cc pc = .ok (.if_icmp .lt off, 3)) (ht : (pc : Int) + off = (tgt : Int))
    (kt : i < j → W p l e R s m args below meth c H locs cells slots Q (F0 m tgt ls rest)) (kf : j ≤ i → W p l e R s m args below meth c H locs cells slots Q (F0 m (pc + 3) ls rest)) : W p l e R s m args below meth c H locs cells slots Q (F0 m pc ls (.int y :: .int x :: rest)) := by
  subst hx; subst hy
  exact lv_icmp_lt hexec hb hdg ht (fun h => kt ((nI_ltI hi hj).mp h)) (fun h => kf (Nat.not_lt.mp fun q => h ((nI_ltI hi hj).mpr q)))
theorem x_ge (hexec : p.tables.exec = Jvm.exec) (hb : c.code = cc) {x y : Int32} (i j : Nat) (hx : x = nI i) (hy : y = nI j) (hi : i < 2 ^ 31) (hj : j < 2 ^ 31) {off : Int} {tgt : Nat} (hdg : decode cc pc = .ok (.if_icmp .ge off, 3)) (ht : (pc : Int) + off = (tgt : Int))
    (kt : j ≤ i → W p l e R s m args below meth c H locs cells slots Q (F0 m tgt ls rest)) (kf : i < j → W p l e R s m args below meth c H locs cells slots Q (F0 m (pc + 3) ls rest)) : W p l e R s m args below meth c H locs cells slots Q (F0 m pc ls (.int y :: .int x :: rest)) := by
  subst hx; subst hy
  exact lv_icmp_ge hexec hb hdg ht (fun h => kt ((nI_leI hj hi).mp h)) (fun h => kf (Nat.not_le.mp fun q => h ((nI_leI hj hi).mpr q)))
theorem x_gt (hexec : p.tables.exec = Jvm.exec) (hb : c.code = cc) {x y : Int32} (i j : Nat) (hx : x = nI i) (hy : y = nI j) (hi : i < 2 ^ 31) (hj : j < 2 ^ 31) {off : Int} {tgt : Nat} (hdg : decode cc pc = .ok (.if_icmp .gt off, 3)) (ht : (pc : Int) + off = (tgt : Int))
    (kt : j < i → W p l e R s m args below meth c H locs cells slots Q (F0 m tgt ls rest)) (kf : i ≤ j → W p l e R s m args below meth c H locs cells slots Q (F0 m (pc + 3) ls rest)) : W p l e R s m args below meth c H locs cells slots Q (F0 m pc ls (.int y :: .int x :: rest)) := by
  subst hx; subst hy
  exact lv_icmp_gt hexec hb hdg ht (fun h => kt ((nI_ltI hj hi).mp h)) (fun h => kf (Nat.not_lt.mp fun q => h ((nI_ltI hj hi).mpr q)))
theorem x_le (hexec : p.tables.exec = Jvm.exec) (hb : c.code = cc) {x y : Int32} (i j : Nat) (hx : x = nI i) (hy : y = nI j) (hi : i < 2 ^ 31) (hj : j < 2 ^ 31) {off : Int} {tgt : Nat} (hdg : decode cc pc = .ok (.if_icmp .le off, 3)) (ht : (pc : Int) + off = (tgt : Int))
    (kt : i ≤ j → W p l e R s m args below meth c H locs cells slots Q (F0 m tgt ls rest)) (kf : j < i → W p l e R s m args below meth c H locs cells slots Q (F0 m (pc + 3) ls rest)) : W p l e R s m args below meth c H locs cells slots Q (F0 m pc ls (.int y :: .int x :: rest)) := by
  subst hx; subst hy
  exact lv_icmp_le hexec hb hdg ht (fun h => kt ((nI_leI hi hj).mp h)) (fun h => kf (Nat.not_le.mp fun q => h ((nI_leI hi hj).mpr q)))
theorem x_eq (hexec : p.tables.exec = Jvm.exec) (hb : c.code = cc) {x y : Int32} (i j : Nat) (hx : x = nI i) (hy : y = nI j) (hi : i < 2 ^ 31) (hj : j < 2 ^ 31) {off : Int} {tgt : Nat} (hdg : decode cc pc = .ok (.if_icmp .eq off, 3)) (ht : (pc : Int) + off = (tgt : Int))
    (kt : i = j → W p l e R s m args below meth c H locs cells slots Q (F0 m tgt ls rest)) (kf : i ≠ j → W p l e R s m args below meth c H locs cells slots Q (F0 m (pc + 3) ls rest)) : W p l e R s m args below meth c H locs cells slots Q (F0 m pc ls (.int y :: .int x :: rest)) := by
  subst hx; subst hy
  exact lv_icmp_eq hexec hb hdg ht (fun h => kt ((nI_eq hi hj).mp h)) (fun h => kf fun q => h ((nI_eq hi hj).mpr q))
theorem x_ne (hexec : p.tables.exec = Jvm.exec) (hb : c.code = cc) {x y : Int32} (i j : Nat) (hx : x = nI i) (hy : y = nI j) (hi : i < 2 ^ 31) (hj : j < 2 ^ 31) {off : Int} {tgt : Nat} (hdg : decode cc pc = .ok (.if_icmp .ne off, 3)) (ht : (pc : Int) + off = (tgt : Int))
    (kt : i ≠ j → W p l e R s m args below meth c H locs cells slots Q (F0 m tgt ls rest)) (kf : i = j → W p l e R s m args below meth c H locs cells slots Q (F0 m (pc + 3) ls rest)) : W p l e R s m args below meth c H locs cells slots Q (F0 m pc ls (.int y :: .int x :: rest)) := by
  subst hx; subst hy
  exact lv_icmp_ne hexec hb hdg ht (fun h => kt fun q => h ((nI_eq hi hj).mpr q)) (fun h => kf ((nI_eq hi hj).mp h))
theorem x_if_eq (hexec : p.tables.exec = Jvm.exec) (hb : c.code = cc) {x : Int32} (i : Nat) (hx : x = nI i) (hi : i < 2 ^ 31) {off : Int} {tgt : Nat} (hdg : decode cc pc = .ok (.ifCond .eq off, 3)) (ht : (pc : Int) + off = (tgt : Int))
    (kt : i = 0 → W p l e R s m args below meth c H locs cells slots Q (F0 m tgt ls rest)) (kf : i ≠ 0 → W p l e R s m args below meth c H locs cells slots Q (F0 m (pc + 3) ls rest)) : W p l e R s m args below meth c H locs cells slots Q (F0 m pc ls (.int x :: rest)) := by
  subst hx
  exact lv_if_eq hexec hb hdg ht (fun h => kt ((nI_eq hi (by omega)).mp (h.trans n_0))) (fun h => kf fun q => h (by rw [q]; exact nI_0))
theorem x_if_ne (hexec : p.tables.exec = Jvm.exec) (hb : c.code = cc) {x : Int32} (i : Nat) (hx : x = nI i) (hi : i < 2 ^ 31) {off : Int} {tgt : Nat} (hdg : decode cc pc = .ok (.ifCond .ne off, 3)) (ht : (pc : Int) + off = (tgt : Int))
    (kt : i ≠ 0 → W p l e R s m args below meth c H locs cells slots Q (F0 m tgt ls rest)) (kf : i = 0 → W p l e R s m args below meth c H locs cells slots Q (F0 m (pc + 3) ls rest)) : W p l e R s m args below meth c H locs cells slots Q (F0 m pc ls (.int x :: rest)) := by
  subst hx
  exact lv_if_ne hexec hb hdg ht (fun h => kt fun q => h (by rw [q]; exact nI_0)) (fun h => kf ((nI_eq hi (by omega)).mp (h.trans n_0)))
theorem x_if_le (hexec : p.tables.exec = Jvm.exec) (hb : c.code = cc) {x : Int32} (i : Nat) (hx : x = nI i) (hi : i < 2 ^ 31) {off : Int} {tgt : Nat} (hdg : decode cc pc = .ok (.ifCond .le off, 3)) (ht : (pc : Int) + off = (tgt : Int))
    (kt : i = 0 → W p l e R s m args below meth c H locs cells slots Q (F0 m tgt ls rest)) (kf : 0 < i → W p l e R s m args below meth c H locs cells slots Q (F0 m (pc + 3) ls rest)) : W p l e R s m args below meth c H locs cells slots Q (F0 m pc ls (.int x :: rest)) := by
  subst hx
  refine lv_if_le hexec hb hdg ht (fun h => kt ?_) (fun h => kf ?_)
  · rw [n_0] at h
    have h2 := (nI_leI hi (by omega)).mp h
    omega
  · rcases Nat.eq_zero_or_pos i with q | q
    · exact absurd (by rw [q, nI_0]; exact Int32.le_refl 0) h
    · exact q
theorem x_if_gt (hexec : p.tables.exec = Jvm.exec) (hb : c.code = cc) {x : Int32} (i : Nat) (hx : x = nI i) (hi : i < 2 ^ 31) {off : Int} {tgt : Nat} (hdg : decode cc pc = .ok (.ifCond .gt off, 3)) (ht : (pc : Int) + off = (tgt : Int))
    (kt : 0 < i → W p l e R s m args below meth c H locs cells slots Q (F0 m tgt ls rest)) (kf : i = 0 → W p l e R s m args below meth c H locs cells slots Q (F0 m (pc + 3) ls rest)) : W p l e R s m args below meth c H locs cells slots Q (F0 m pc ls (.int x :: rest)) := by
  subst hx
  refine lv_if_gt hexec hb hdg ht (fun h => kt ?_) (fun h => kf ?_)
  · rw [n_0] at h; exact (nI_ltI (by omega) hi).mp h
  · rcases Nat.eq_zero_or_pos i with q | q
    · exact q
    · exact absurd (by rw [n_0]; exact (nI_ltI (by omega) hi).mpr q) h
end XR
end
section
/-! ends and calls over a world held whole -/
abbrev qI (G : xG) (A : Nat → Prop) (post : Int32 → va_W → Prop) : Array Value → State → Outcome → State → Prop := va_Qi post (x_B G A) A
abbrev qV (G : xG) (A : Nat → Prop) (post : va_W → Prop) : Array Value → State → Outcome → State → Prop := va_Qv post (x_B G A) A
abbrev qR (G : xG) (A : Nat → Prop) (post : Nat → va_W → Prop) : Array Value → State → Outcome → State → Prop := va_Qr (fun (_ : va_W) => True) (fun w ra t => post ra w ∧ x_B G A w t) A
section XE
variable {p : Program} {l : Launch} {e : Env} {R : Room} {s : State} {m : MethodId} {args : Array Value} {below : List Frame} {meth : Method} {c : Code} {H : Heap} {locs : List Loc} {cells slots : Nat} {Q : State → Prop}
variable {cc : ByteArray} {pc : Nat} {ls : Array Slot} {rest st0 : List Value} {G : xG} {A : Nat → Prop} {ws : va_W} {H0 : Heap} {mc ms : Nat} {a : Array Value}
theorem x_iret {post : Int32 → va_W → Prop} {v : Int32} (hx : p.tables.exec = Jvm.exec) (hb : c.code = cc) (hr : meth.sig.returnType = some .int) (hlocks : meth.locks = false) (hS : va_S A s.heap H locs) (hP : va_P (xD G) CL ws H) (hD : va_D A ws) (hc : cells ≤ mc) (hs : slots ≤ ms) (hdg : decode cc pc = .ok (.ireturn, 1)) (hq : post v ws) :
    W p l e R s m args below meth c H locs cells slots (MQ below (qI G A post) args s mc ms A) (F0 m pc ls [.int v]) :=
  W.widen hc hs (W.iret (v := v) hx hb hr (fun t h9 _ => ⟨⟨v, ws, rfl, hq, by rw [h9]; exact hP, hD⟩, hS.F h9⟩) hS.2.2 hdg hlocks)
theorem x_zret {post : Int32 → va_W → Prop} {v : Int32} (hx : p.tables.exec = Jvm.exec) (hb : c.code = cc) (hr : meth.sig.returnType = some .boolean) (hlocks : meth.locks = false) (hS : va_S A s.heap H locs) (hP : va_P (xD G) CL ws H) (hD : va_D A ws) (hc : cells ≤ mc) (hs : slots ≤ ms) (hdg : decode cc pc = .ok (.ireturn, 1)) (hv : narrow .boolean (.int v) = .int v) (hq : post v ws) :
    W p l e R s m args below meth c H locs cells slots (MQ below (qI G A post) args s mc ms A) (F0 m pc ls [.int v]) :=
  W.widen hc hs (W.zret (v := v) hx hb hr hv (fun t h9 _ => ⟨⟨v, ws, rfl, hq, by rw [h9]; exact hP, hD⟩, hS.F h9⟩) hS.2.2 hdg hlocks)
theorem x_vret {post : va_W → Prop} (hx : p.tables.exec = Jvm.exec) (hb : c.code = cc) (hr : meth.sig.returnType = none) (hlocks : meth.locks = false) (hS : va_S A s.heap H locs) (hP : va_P (xD G) CL ws H) (hD : va_D A ws) (hc : cells ≤ mc) (hs : slots ≤ ms) (hdg : decode cc pc = .ok (.return_, 1)) (hq : post ws) :
    W p l e R s m args below meth c H locs cells slots (MQ below (qV G A post) args s mc ms A) (F0 m pc ls []) :=
  W.widen hc hs (W.vret hx hb hr (fun t h9 _ => ⟨⟨ws, rfl, hq, by rw [h9]; exact hP, hD⟩, hS.F h9⟩) hS.2.2 hdg hlocks)
theorem x_aret {post : Nat → va_W → Prop} {v : Nat} {rt : FieldType} (hx : p.tables.exec = Jvm.exec) (hb : c.code = cc) (hr : meth.sig.returnType = some rt) (hrt : (∃ n, rt = .object n) ∨ ∃ t, rt = .array t) (hlocks : meth.locks = false) (hS : va_S A s.heap H locs) (hP : va_P (xD G) CL ws H) (hD : va_D A ws) (hc : cells ≤ mc) (hs : slots ≤ ms) (hdg : decode cc pc = .ok (.areturn, 1)) (hq : post v ws) :
    W p l e R s m args below meth c H locs cells slots (MQ below (qR G A post) args s mc ms A) (F0 m pc ls [.ref v]) :=
  W.widen hc hs (W.aret (v := .ref v) hx hb hr hrt (Or.inr ⟨v, rfl⟩) (fun t h9 _ => ⟨⟨ws, v, rfl, trivial, hq, by rw [h9]; exact hP, hD⟩, hS.F h9⟩) hS.2.2 hdg hlocks)
theorem x_calli {post : Int32 → va_W → Prop} (hr : va_Run p l e R s m args below meth c H locs cells slots mc ms (F0 m pc ls st0) rest (qI G A post a) A) (hS : va_S A H0 H locs)
    (kk : ∀ (r : Int32) (w : va_W) (H1 : Heap) (locs1 : List Loc), post r w → va_P (xD G) CL w H1 → va_D A w → va_S A H0 H1 locs1 → W p l e R s m args below meth c H1 locs1 (cells + mc) (slots + ms) Q (F0 m (pc + 3) ls (.int r :: rest))) : W p l e R s m args below meth c H locs cells slots Q (F0 m pc ls st0) :=
  va_calli hr hS (fun _ _ h => h) (fun _ h => h) (fun r w t H1 locs1 h9 _ hq hB _ _ hS => kk r w H1 locs1 hq (by rw [← h9]; exact hB.1) hB.2 hS)
theorem x_callv {post : va_W → Prop} (hr : va_Run p l e R s m args below meth c H locs cells slots mc ms (F0 m pc ls st0) rest (qV G A post a) A) (hS : va_S A H0 H locs)
    (kk : ∀ (w : va_W) (H1 : Heap) (locs1 : List Loc), post w → va_P (xD G) CL w H1 → va_D A w → va_S A H0 H1 locs1 → W p l e R s m args below meth c H1 locs1 (cells + mc) (slots + ms) Q (F0 m (pc + 3) ls rest)) : W p l e R s m args below meth c H locs cells slots Q (F0 m pc ls st0) :=
  va_callv hr hS (fun _ _ h => h) (fun _ h => h) (fun w t H1 locs1 h9 _ hq hB _ _ hS => kk w H1 locs1 hq (by rw [← h9]; exact hB.1) hB.2 hS)
theorem x_callr {post : Nat → va_W → Prop} (hr : va_Run p l e R s m args below meth c H locs cells slots mc ms (F0 m pc ls st0) rest (qR G A post a) A) (hS : va_S A H0 H locs)
    (kk : ∀ (r : Nat) (w : va_W) (H1 : Heap) (locs1 : List Loc), post r w → va_P (xD G) CL w H1 → va_D A w → va_S A H0 H1 locs1 → W p l e R s m args below meth c H1 locs1 (cells + mc) (slots + ms) Q (F0 m (pc + 3) ls (.ref r :: rest))) : W p l e R s m args below meth c H locs cells slots Q (F0 m pc ls st0) :=
  va_callr hr hS (fun _ _ h => h) (fun _ h => h) (fun w r t H1 locs1 h9 _ _ hB _ _ hS => kk r w H1 locs1 hB.1 (by rw [← h9]; exact hB.2.1) hB.2.2 hS)
end XE
end
section
/-! throws -/
abbrev qX (G : xG) (A : Nat → Prop) (post : String → va_W → Prop) : String → State → State → Prop := vx_X (fun (_ : va_W) => True) (fun E w t => post E w ∧ x_B G A w t) A
theorem x_hat {args : Array Value} {s : State} {L : List Cond} (ht : ∀ w ∈ TW, w.before args s = true) (hN : ∀ w ∈ NW, va_Nw w s) (h1 : ∀ w ∈ L, w ∈ lw_tbl ∧ (goodWord w = true ∨ nwOk w = true)) : ∀ w ∈ L, w.before args s = true := by
  intro w hw
  obtain ⟨h2, h3⟩ := h1 w hw
  rcases h3 with h3 | h3
  · exact ht w (tw_of h2 h3)
  · exact va_Nw.use (by cases w <;> first | rfl | (simp [nwOk] at h3)) (hN w (nw_of h2 h3))
theorem x_thrown {G : xG} {A : Nat → Prop} {ws : va_W} {s : State} {H : Heap} {locs : List Loc} {post : String → va_W → Prop} {cls : String} (hS : va_S A s.heap H locs) (hP : va_P (xD G) CL ws H) (hD : va_D A ws) (hp : post cls ws) : ∀ t : State, s.vm.Alike t.vm → H.size ≤ t.heap.size → (∀ q : Nat, q < H.size → t.heap[q]? = H[q]?) → qX G A post cls s t := by
  intro t _ hz hq
  refine ⟨ws, trivial, ⟨hp, hP.kept (fun k x hk => hq x.1 ((hP k x hk).lt)), hD⟩, Nat.le_trans hS.1 hz, fun q h1 h2 => ?_⟩
  rw [hq q (Nat.lt_of_lt_of_le h1 hS.1)]
  exact hS.2.1 q h1 h2
set_option maxRecDepth 100000 in
theorem at_IAE : ∀ w ∈ vx_at0 R_C 58 "java/lang/IllegalArgumentException" ["java/lang/RuntimeException", "java/lang/Exception"], w ∈ lw_tbl ∧ (goodWord w = true ∨ nwOk w = true) := by decide +kernel
set_option maxRecDepth 100000 in
theorem hg_IAE : ∀ w ∈ Cond.classLink R_C 56 "java/lang/IllegalArgumentException" :: Cond.initialized "java/lang/IllegalArgumentException" :: vx_at0 R_C 58 "java/lang/IllegalArgumentException" ["java/lang/RuntimeException", "java/lang/Exception"], vx_ot w = true := by decide +kernel
set_option maxRecDepth 100000 in
theorem at_ISE : ∀ w ∈ vx_at0 R_C 64 "java/lang/IllegalStateException" ["java/lang/RuntimeException", "java/lang/Exception"], w ∈ lw_tbl ∧ (goodWord w = true ∨ nwOk w = true) := by decide +kernel
set_option maxRecDepth 100000 in
theorem hg_ISE : ∀ w ∈ Cond.classLink R_C 62 "java/lang/IllegalStateException" :: Cond.initialized "java/lang/IllegalStateException" :: vx_at0 R_C 64 "java/lang/IllegalStateException" ["java/lang/RuntimeException", "java/lang/Exception"], vx_ot w = true := by decide +kernel
set_option maxRecDepth 100000 in
theorem at_NSE : ∀ w ∈ vx_at0 R_C 103 "java/util/NoSuchElementException" ["java/lang/RuntimeException", "java/lang/Exception"], w ∈ lw_tbl ∧ (goodWord w = true ∨ nwOk w = true) := by decide +kernel
set_option maxRecDepth 100000 in
theorem hg_NSE : ∀ w ∈ Cond.classLink R_C 101 "java/util/NoSuchElementException" :: Cond.initialized "java/util/NoSuchElementException" :: vx_at0 R_C 103 "java/util/NoSuchElementException" ["java/lang/RuntimeException", "java/lang/Exception"], vx_ot w = true := by decide +kernel
set_option maxRecDepth 100000 in
theorem at_UOE : ∀ w ∈ vx_at0 R_C 114 "java/lang/UnsupportedOperationException" ["java/lang/RuntimeException", "java/lang/Exception"], w ∈ lw_tbl ∧ (goodWord w = true ∨ nwOk w = true) := by decide +kernel
set_option maxRecDepth 100000 in
theorem hg_UOE : ∀ w ∈ Cond.classLink R_C 112 "java/lang/UnsupportedOperationException" :: Cond.initialized "java/lang/UnsupportedOperationException" :: vx_at0 R_C 114 "java/lang/UnsupportedOperationException" ["java/lang/RuntimeException", "java/lang/Exception"], vx_ot w = true := by decide +kernel
set_option maxRecDepth 100000 in
theorem at_AE : ∀ w ∈ vx_at0 R_C 131 "java/lang/ArithmeticException" ["java/lang/RuntimeException", "java/lang/Exception"], w ∈ lw_tbl ∧ (goodWord w = true ∨ nwOk w = true) := by decide +kernel
set_option maxRecDepth 100000 in
theorem hg_AE : ∀ w ∈ Cond.classLink R_C 129 "java/lang/ArithmeticException" :: Cond.initialized "java/lang/ArithmeticException" :: vx_at0 R_C 131 "java/lang/ArithmeticException" ["java/lang/RuntimeException", "java/lang/Exception"], vx_ot w = true := by decide +kernel
end
section
/-! the field's numbers -/
def rm (x : Int32) : Nat := (x.toInt % 97).toNat
theorem rm_lt (x : Int32) : rm x < 97 := by unfold rm; omega
theorem rm_nat {n : Nat} (h : n < 2 ^ 31) : rm (nI n) = n % 97 := by unfold rm; rw [nI_toInt h]; omega
theorem n97 : (nI 97).toInt = 97 := nI_toInt (by decide)
theorem xor97 (x : Int32) : 0 ≤ (x ^^^ nI 97) ↔ 0 ≤ x.toInt := by
  rw [Int32.le_iff_toInt_le, Int32.toInt_zero]
  have h2 : (x.toBitVec ^^^ (nI 97).toBitVec).msb = x.toBitVec.msb := by
    rw [BitVec.msb_xor, show (nI 97).toBitVec.msb = false by decide]
    simp
  rw [BitVec.msb_eq_toInt, BitVec.msb_eq_toInt] at h2
  have h1 : (x ^^^ nI 97).toInt = (x.toBitVec ^^^ (nI 97).toBitVec).toInt := rfl
  have h3 : x.toInt = x.toBitVec.toInt := rfl
  rw [h1, h3]
  have h4 := decide_eq_decide.mp h2
  omega
theorem rem97 (x : Int32) : (x - x / nI 97 * nI 97).toInt = x.toInt.tmod 97 := by rw [rem_toInt, n97]
theorem tm97 (z : Int) : ∃ k : Int, z = 97 * k + z.tmod 97 ∧ -97 < z.tmod 97 ∧ z.tmod 97 < 97 ∧ (0 ≤ z → 0 ≤ z.tmod 97) ∧ (z < 0 → z.tmod 97 ≤ 0) := by
  refine ⟨z.tdiv 97, by rw [Int.mul_tdiv_add_tmod], (tmod_bounds (by decide)).1, (tmod_bounds (by decide)).2, fun h => Int.tmod_nonneg 97 h, fun h => ?_⟩
  have h1 : (-z).tmod 97 = -(z.tmod 97) := Int.neg_tmod ..
  have h2 : 0 ≤ (-z).tmod 97 := Int.tmod_nonneg 97 (by omega)
  omega
theorem rm_toInt (x : Int32) : (nI (rm x)).toInt = x.toInt % 97 := by
  rw [nI_toInt (by have := rm_lt x; omega)]
  unfold rm
  omega
theorem fm_a {x : Int32} (h : 0 ≤ x ^^^ nI 97) : x - x / nI 97 * nI 97 = nI (rm x) := by
  have h0 := (xor97 x).mp h
  apply Int32.toInt_inj.mp
  rw [rem97, rm_toInt]
  obtain ⟨k, h1, h2, h3, h4, h5⟩ := tm97 x.toInt
  have := h4 h0
  omega
theorem fm_b {x : Int32} (hr : x - x / nI 97 * nI 97 = 0) : x - x / nI 97 * nI 97 = nI (rm x) := by
  have h0 := congrArg Int32.toInt hr
  rw [rem97, Int32.toInt_zero] at h0
  apply Int32.toInt_inj.mp
  rw [rem97, rm_toInt]
  obtain ⟨k, h1, h2, h3, h4, h5⟩ := tm97 x.toInt
  omega
theorem fm_c {x : Int32} (h : ¬ 0 ≤ x ^^^ nI 97) (hr : ¬ x - x / nI 97 * nI 97 = 0) : x - x / nI 97 * nI 97 + nI 97 = nI (rm x) := by
  have h0 : ¬ 0 ≤ x.toInt := fun q => h ((xor97 x).mpr q)
  have hr' : x.toInt.tmod 97 ≠ 0 := fun q => hr (Int32.toInt_inj.mp (by rw [rem97, q, Int32.toInt_zero]))
  obtain ⟨k, h1, h2, h3, h4, h5⟩ := tm97 x.toInt
  have h6 := h5 (by omega)
  apply Int32.toInt_inj.mp
  rw [Int32.toInt_add, rem97, n97, rm_toInt, Int.bmod_eq_of_le (by omega) (by omega)]
  omega
theorem rest97 (x : Int32) : (x - x / nI 97 * nI 97 + nI 97) - (x - x / nI 97 * nI 97 + nI 97) / nI 97 * nI 97 = nI (rm x) := by
  obtain ⟨k, h1, h2, h3, h4, h5⟩ := tm97 x.toInt
  have e1 : (x - x / nI 97 * nI 97 + nI 97).toInt = x.toInt.tmod 97 + 97 := by rw [Int32.toInt_add, rem97, n97, Int.bmod_eq_of_le (by omega) (by omega)]
  apply Int32.toInt_inj.mp
  rw [rem97, e1, rm_toInt, Int.tmod_eq_emod_of_nonneg (by omega)]
  omega
def sm (f w : Nat → Nat) : Nat → Nat
  | 0 => 0
  | n + 1 => sm f w n + f n * w n
def vl (f w : Nat → Nat) : Nat := sm f w 60 % 97
theorem sm_le {f w : Nat → Nat} (hf : ∀ j, j < 60 → f j < 97) (hw : ∀ j, j < 60 → w j < 97) : ∀ n, n ≤ 60 → sm f w n ≤ n * 9216 := by
  intro n
  induction n with
  | zero => intro _; simp [sm]
  | succ n ih =>
    intro h
    have h1 := ih (by omega)
    have h2 : f n * w n ≤ 96 * 96 := Nat.mul_le_mul (by have := hf n (by omega); omega) (by have := hw n (by omega); omega)
    show sm f w n + f n * w n ≤ _
    omega
theorem vl_lt (f w : Nat → Nat) : vl f w < 97 := Nat.mod_lt _ (by decide)
def cmb (p : Nat) (f : Nat → Nat) (q : Nat) (g : Nat → Nat) : Nat → Nat := fun j => (p * f j + q * g j) % 97
theorem cmb_lt {p q : Nat} {f g : Nat → Nat} (j : Nat) : cmb p f q g j < 97 := Nat.mod_lt _ (by decide)
/-- how many of the first n coefficients are not 0 -/
def nz (f : Nat → Nat) : Nat → Nat
  | 0 => 0
  | n + 1 => nz f n + (if f n = 0 then 0 else 1)
theorem nz_le (f : Nat → Nat) : ∀ n, nz f n ≤ n := by
  intro n
  induction n with
  | zero => exact Nat.le_refl 0
  | succ n ih => show nz f n + _ ≤ _; split <;> omega
/-- the last variable below n+1 with a coefficient, 0 if none but perhaps 0 has one -/
def lastV (f : Nat → Nat) : Nat → Nat
  | 0 => 0
  | n + 1 => if f (n + 1) = 0 then lastV f n else n + 1
def isK (f : Nat → Nat) : Prop := ∀ j, 0 < j → j < 60 → f j = 0
theorem lastV_le (f : Nat → Nat) : ∀ n, lastV f n ≤ n := by
  intro n
  induction n with
  | zero => exact Nat.le_refl 0
  | succ n ih => show (if f (n + 1) = 0 then lastV f n else n + 1) ≤ n + 1; split <;> omega
theorem lastV_0 {f : Nat → Nat} : ∀ n, lastV f n = 0 ↔ ∀ j, 0 < j → j ≤ n → f j = 0 := by
  intro n
  induction n with
  | zero => exact ⟨fun _ j h1 h2 => by omega, fun _ => rfl⟩
  | succ n ih =>
    show (if f (n + 1) = 0 then lastV f n else n + 1) = 0 ↔ _
    split
    · rename_i h
      rw [ih]
      constructor
      · intro q j h1 h2
        rcases Nat.eq_or_lt_of_le h2 with e | e
        · rw [e]; exact h
        · exact q j h1 (by omega)
      · intro q j h1 h2
        exact q j h1 (by omega)
    · rename_i h
      constructor
      · intro q; omega
      · intro q; exact absurd (q (n + 1) (by omega) (Nat.le_refl _)) h
theorem isK_last {f : Nat → Nat} : lastV f 59 = 0 ↔ isK f := by
  rw [lastV_0]
  exact ⟨fun h j h1 h2 => h j h1 (by omega), fun h j h1 h2 => h j h1 (by omega)⟩
/-- the inverse, looked for from k on -/
def invF (v : Nat) : Nat → Nat → Nat
  | 0, _ => 0
  | n + 1, k => if v * k % 97 = 1 then k else invF v n (k + 1)
def inv97 (v : Nat) : Nat := invF v 96 1
theorem invF_lt (v : Nat) : ∀ n k, k + n ≤ 97 → invF v n k < 97 := by
  intro n
  induction n with
  | zero => intro k _; exact (by decide : 0 < 97)
  | succ n ih =>
    intro k h
    show (if v * k % 97 = 1 then k else invF v n (k + 1)) < 97
    split
    · omega
    · exact ih (k + 1) (by omega)
theorem inv97_lt (v : Nat) : inv97 v < 97 := invF_lt v 96 1 (by decide)
end
section
set_option maxHeartbeats 4000000 in
set_option maxRecDepth 100000 in
theorem c_floorMod (l : Launch) (G : xG) (A : Nat → Prop) (ws : va_W) (x : Int32) : Met l y_MA_floorMod (cw_MA_floorMod :: TW) { frames := 1, cells := 0, slots := 0, locals := 26 } (va_Pc [.int x, .int (nI 97)] (x_P G A ws)) (qI G A (fun r w => ws = w ∧ r = nI (rm x))) 0 0 A := by
  refine va_MetF (cc := b_MA_floorMod) (maxL := 3) (ret := (some .int)) (by decide +kernel) rfl ?_
  intro p e s m args below meth c s₁ B hml hv
  obtain ⟨rfl, hE, hA, hP, hD⟩ := hv
  have hx := B.exec
  have hb := B.bytes
  have hr := B.returns
  have ht : ∀ w ∈ TW, w.before _ s = true := fun w h => atoms_spec (ws := cw_MA_floorMod :: TW) B.pre w (List.mem_cons_of_mem _ h)
  have hown : s.vm.findClass R_MA = some m.cls := findClass_of_methodNamed B.named
  have hlocks := B.notSynchronized
  have hK := hE.1
  have hS : va_S A s.heap s.heap [] := va_S.rf
  have hl := lv_entry ([.int x, .int (nI 97)]) (n := 3) (Nat.le_of_ble_eq_true rfl)
  rw [lg_entry_eq]
  generalize (lg_sl ([.int x, .int (nI 97)]) ++ List.replicate (3 - (lg_sl ([.int x, .int (nI 97)])).length) Slot.unset).toArray = ls at hl ⊢
  have hl : lv_has ls 3 [(0, .int x), (1, .int (nI 97))] := hl
  refine lv_iload_n hx hb d_MA_floorMod_0 rfl (lv_at hl 0 rfl) ?_
  refine lv_iload_n hx hb d_MA_floorMod_1 rfl (lv_at hl 1 rfl) ?_
  refine lv_irem hx hb d_MA_floorMod_2 (by decide) ?_
  refine lv_istore_n (lv' := [(2, .int (x - x / (nI 97) * (nI 97))), (0, .int x), (1, .int (nI 97))]) hx hb d_MA_floorMod_3 rfl hl (by decide) rfl (fun ls hl => ?_)
  refine lv_iload_n hx hb d_MA_floorMod_4 rfl (lv_at hl 1 rfl) ?_
  refine lv_iload_n hx hb d_MA_floorMod_5 rfl (lv_at hl 2 rfl) ?_
  refine lv_ixor hx hb d_MA_floorMod_6 ?_
  refine lv_if_ge (tgt := 18) hx hb d_MA_floorMod_7 (by decide) (fun c1 => ?_) (fun c1 => ?_)
  · refine lv_iload_n hx hb d_MA_floorMod_18 rfl (lv_at hl 0 rfl) ?_
    exact x_iret hx hb hr hlocks hS hP hD (Nat.le_of_ble_eq_true rfl) (Nat.le_of_ble_eq_true rfl) d_MA_floorMod_19 (⟨rfl, fm_a c1⟩)
  · refine lv_iload_n hx hb d_MA_floorMod_10 rfl (lv_at hl 0 rfl) ?_
    refine lv_if_eq (tgt := 18) hx hb d_MA_floorMod_11 (by decide) (fun c2 => ?_) (fun c2 => ?_)
    · refine lv_iload_n hx hb d_MA_floorMod_18 rfl (lv_at hl 0 rfl) ?_
      exact x_iret hx hb hr hlocks hS hP hD (Nat.le_of_ble_eq_true rfl) (Nat.le_of_ble_eq_true rfl) d_MA_floorMod_19 (⟨rfl, fm_b c2⟩)
    · refine lv_iload_n hx hb d_MA_floorMod_14 rfl (lv_at hl 0 rfl) ?_
      refine lv_iload_n hx hb d_MA_floorMod_15 rfl (lv_at hl 2 rfl) ?_
      refine lv_iadd hx hb d_MA_floorMod_16 ?_
      exact x_iret hx hb hr hlocks hS hP hD (Nat.le_of_ble_eq_true rfl) (Nat.le_of_ble_eq_true rfl) d_MA_floorMod_17 (⟨rfl, fm_c c1 c2⟩)

set_option maxHeartbeats 4000000 in
set_option maxRecDepth 100000 in
theorem c_remainder (l : Launch) (G : xG) (A : Nat → Prop) (ws : va_W) (x : Int32) : Met l y_C_remainder (cw_C_remainder :: TW) { frames := 2, cells := 0, slots := 0, locals := 52 } (va_Pc [.int x] (x_P G A ws)) (qI G A (fun r w => ws = w ∧ r = nI (rm x))) 0 0 A := by
  refine Met.ofW (cc := b_C_remainder) (maxL := 1) (ret := (some .int)) (by decide) rfl ?_
  intro p e s m args below meth c s₁ B hml hv
  obtain ⟨rfl, hE, hA, hP, hD⟩ := hv
  have hx := B.exec
  have hb := B.bytes
  have hr := B.returns
  have ht : ∀ w ∈ TW, w.before _ s = true := fun w h => atoms_spec (ws := cw_C_remainder :: TW) B.pre w (List.mem_cons_of_mem _ h)
  have hown : s.vm.findClass R_C = some m.cls := findClass_of_methodNamed B.named
  have hlocks := B.notSynchronized
  have hK := hE.1
  have hS : va_S A s.heap s.heap [] := va_S.rf
  have hl := lv_entry ([.int x]) (n := 1) (Nat.le_of_ble_eq_true rfl)
  rw [lg_entry_eq]
  generalize (lg_sl ([.int x]) ++ List.replicate (1 - (lg_sl ([.int x])).length) Slot.unset).toArray = ls at hl ⊢
  have hl : lv_has ls 1 [(0, .int x)] := hl
  refine lv_iload_n hx hb d_C_remainder_0 rfl (lv_at hl 0 rfl) ?_
  refine lv_bipush (v := (nI 97)) hx hb d_C_remainder_1 (by decide) ?_
  refine x_calli (va_runS (As := [.int x, .int (nI 97)]) (rest := []) ⟨hx, hb, hml, hown, ht⟩ (c_floorMod l G A ws x) (va_cwS 2 ht (TW_S k_ml_C_175 k_st_MA_floorMod k_in_MA k_code_MA_floorMod) rfl rfl rfl hv_MA_floorMod.2 ⟨Nat.le_of_ble_eq_true rfl, Nat.le_of_ble_eq_true rfl⟩) ⟨x_blind, x_pre hE hA hS hP hD⟩ rfl rfl hl.1 rfl (lv_room (Nat.le_of_ble_eq_true rfl)) d_C_remainder_3 ⟨Nat.le_of_ble_eq_true rfl, Nat.le_of_ble_eq_true rfl⟩) hS (fun r3 w2 H locs q1 hP hD hS => ?_)
  obtain ⟨rfl, rfl⟩ := q1
  exact x_iret hx hb hr hlocks hS hP hD (Nat.le_of_ble_eq_true rfl) (Nat.le_of_ble_eq_true rfl) d_C_remainder_6 (⟨rfl, rfl⟩)

set_option maxHeartbeats 4000000 in
set_option maxRecDepth 100000 in
theorem c_inverse (l : Launch) (G : xG) (A : Nat → Prop) (ws : va_W) (v : Nat) (hv : v < 97) : Met l y_C_inverseOrZero (cw_C_inverseOrZero :: TW) { frames := 1, cells := 0, slots := 0, locals := 26 } (va_Pc [.int (nI v)] (x_P G A ws)) (qI G A (fun r w => ws = w ∧ r = nI (inv97 v))) 0 0 A := by
  refine Met.ofW (cc := b_C_inverseOrZero) (maxL := 2) (ret := (some .int)) (by decide) rfl ?_
  intro p e s m args below meth c s₁ B hml hv
  obtain ⟨rfl, hE, hA, hP, hD⟩ := hv
  have hx := B.exec
  have hb := B.bytes
  have hr := B.returns
  have ht : ∀ w ∈ TW, w.before _ s = true := fun w h => atoms_spec (ws := cw_C_inverseOrZero :: TW) B.pre w (List.mem_cons_of_mem _ h)
  have hown : s.vm.findClass R_C = some m.cls := findClass_of_methodNamed B.named
  have hlocks := B.notSynchronized
  have hK := hE.1
  have hS : va_S A s.heap s.heap [] := va_S.rf
  have hl := lv_entry ([.int (nI v)]) (n := 2) (Nat.le_of_ble_eq_true rfl)
  rw [lg_entry_eq]
  generalize (lg_sl ([.int (nI v)]) ++ List.replicate (2 - (lg_sl ([.int (nI v)])).length) Slot.unset).toArray = ls at hl ⊢
  have hl : lv_has ls 2 [(0, .int (nI v))] := hl
  refine lv_iconst (v := (nI 1)) hx hb d_C_inverseOrZero_0 (by decide) ?_
  refine lv_istore_n (lv' := [(1, .int (nI 1)), (0, .int (nI v))]) hx hb d_C_inverseOrZero_1 rfl hl (by decide) rfl (fun ls hl => ?_)
  have loop : ∀ (n k : Nat), k + n = 97 → ∀ ls : Array Slot, invF v n k = inv97 v → lv_has ls 2 [(1, .int (nI k)), (0, .int (nI v))] → W p l e (headSpec (cw_C_inverseOrZero :: TW) { frames := 1, cells := 0, slots := 0, locals := 26 }).room s m ([.int (nI v)] : List Value).toArray below meth c s.heap [] 0 0 (MQ below (qI G A (fun r w => ws = w ∧ r = nI (inv97 v))) ([.int (nI v)] : List Value).toArray s 0 0 A) (F0 m 2 ls []) := by
    intro n
    induction n with
    | zero =>
      intro k hk ls hi hl
      refine lv_iload_n hx hb d_C_inverseOrZero_2 rfl (lv_at hl 0 rfl) ?_
      refine lv_bipush (v := (nI 97)) hx hb d_C_inverseOrZero_3 (by decide) ?_
      refine x_ge hx hb k 97 rfl rfl (by omega) (by omega) (tgt := 26) d_C_inverseOrZero_5 (by decide) (fun c1 => ?_) (fun c1 => ?_)
      · refine lv_iconst (v := (nI 0)) hx hb d_C_inverseOrZero_26 (by decide) ?_
        exact x_iret hx hb hr hlocks hS hP hD (Nat.le_of_ble_eq_true rfl) (Nat.le_of_ble_eq_true rfl) d_C_inverseOrZero_27 (⟨rfl, by rw [← hi]; rfl⟩)
      · exact False.elim (by omega)
    | succ n ih =>
      intro k hk ls hi hl
      refine lv_iload_n hx hb d_C_inverseOrZero_2 rfl (lv_at hl 0 rfl) ?_
      refine lv_bipush (v := (nI 97)) hx hb d_C_inverseOrZero_3 (by decide) ?_
      refine x_ge hx hb k 97 rfl rfl (by omega) (by omega) (tgt := 26) d_C_inverseOrZero_5 (by decide) (fun c2 => ?_) (fun c2 => ?_)
      · exact False.elim (by omega)
      · refine lv_iload_n hx hb d_C_inverseOrZero_8 rfl (lv_at hl 1 rfl) ?_
        refine lv_iload_n hx hb d_C_inverseOrZero_9 rfl (lv_at hl 0 rfl) ?_
        have hb2 : v * k ≤ 96 * 96 := Nat.mul_le_mul (by omega) (by omega)
        refine lv_imul hx hb d_C_inverseOrZero_10 ?_
        refine x_top (nI (v * k)) (pk_mul _ _) ?_
        refine lv_bipush (v := (nI 97)) hx hb d_C_inverseOrZero_11 (by decide) ?_
        refine lv_irem hx hb d_C_inverseOrZero_13 (by decide) ?_
        refine x_top (nI ((v * k) % 97)) (pk_rem (by omega) (by omega) (by omega)) ?_
        refine lv_iconst (v := (nI 1)) hx hb d_C_inverseOrZero_14 (by decide) ?_
        refine x_ne hx hb ((v * k) % 97) 1 rfl rfl (by omega) (by omega) (tgt := 20) d_C_inverseOrZero_15 (by decide) (fun c3 => ?_) (fun c3 => ?_)
        · refine lv_iinc (v := nI (k + 1)) (lv' := [(1, .int (nI (k + 1))), (0, .int (nI v))]) hx hb d_C_inverseOrZero_20 hl (k := 0) rfl (n_inc _) (by decide) rfl (fun ls hl => ?_)
          refine lv_goto (tgt := 2) hx hb d_C_inverseOrZero_23 (by decide) ?_
          exact ih (k + 1) (by omega) ls (by rw [← hi]; show _ = (if v * k % 97 = 1 then k else invF v n (k + 1)); rw [if_neg c3]) hl
        · refine lv_iload_n hx hb d_C_inverseOrZero_18 rfl (lv_at hl 0 rfl) ?_
          exact x_iret hx hb hr hlocks hS hP hD (Nat.le_of_ble_eq_true rfl) (Nat.le_of_ble_eq_true rfl) d_C_inverseOrZero_19 (⟨rfl, by rw [← hi]; show _ = nI (if v * k % 97 = 1 then k else invF v n (k + 1)); rw [if_pos c3]⟩)
  exact loop 96 1 (by decide) ls rfl hl
end
section
/-! sums -/
theorem w_set0 {w0 : va_W} {x y z : Nat × va_E} : ((w0 ++ [x]) ++ [y]).set w0.length z = w0 ++ [z, y] := by simp
theorem w_set1 {w0 : va_W} {x y z : Nat × va_E} : (w0 ++ [x, y]).set (w0.length + 1) z = w0 ++ [x, z] := by simp
def unit (v : Nat) : Nat → Nat := fun j => if j = v then 1 else 0
/-- a sum that was made: two cells more -/
def mkS (G : xG) (ws : va_W) (f : Nat → Nat) (r : Nat) (w : va_W) : Prop := ∃ (ca : Nat) (h : Nat → Int32), w = ws ++ [(r, .inr (1, [.ref ca])), (ca, aI G 60 h)] ∧ ∀ j, j < 60 → h j = nI (f j)
/-- a sum that stands; places 8 and 9 are the witness and the draft -/
def isS (G : xG) (ws : va_W) (a : Nat) (f : Nat → Nat) : Prop := ∃ (k k' ca : Nat) (h : Nat → Int32), ws[k]? = some (a, .inr (1, [.ref ca])) ∧ ws[k']? = some (ca, aI G 60 h) ∧ k' ≠ 8 ∧ k' ≠ 9 ∧ (∀ j, j < 60 → h j = nI (f j)) ∧ ∀ j, j < 60 → f j < 97
theorem isS.app {G : xG} {ws n : va_W} {a : Nat} {f : Nat → Nat} (h : isS G ws a f) : isS G (ws ++ n) a f := by
  obtain ⟨k, k', ca, h0, h1, h2, h3⟩ := h
  exact ⟨k, k', ca, h0, w_app h1, w_app h2, h3⟩
theorem mkS.app {G : xG} {ws w : va_W} {f : Nat → Nat} {r : Nat} (h : mkS G ws f r w) : ∃ n, w = ws ++ n := by
  obtain ⟨ca, h0, h1, -⟩ := h
  exact ⟨_, h1⟩
theorem mkS.isS {G : xG} {ws w : va_W} {f : Nat → Nat} {r : Nat} (h : mkS G ws f r w) (hl : ws.length + 1 ≠ 8 ∧ ws.length + 1 ≠ 9) (hf : ∀ j, j < 60 → f j < 97) : isS G w r f := by
  obtain ⟨ca, h0, rfl, h2⟩ := h
  exact ⟨ws.length, ws.length + 1, ca, h0, w_new0, w_new1, hl.1, hl.2, h2, hf⟩
theorem mkS.len {G : xG} {ws w : va_W} {f : Nat → Nat} {r : Nat} (h : mkS G ws f r w) : w.length = ws.length + 2 := by
  obtain ⟨ca, h0, rfl, h2⟩ := h
  simp

set_option maxHeartbeats 4000000 in
set_option maxRecDepth 100000 in
theorem c_S_init (l : Launch) (G : xG) (A : Nat → Prop) (ws : va_W) (w0 : va_W) (a : Nat) (hw : ws = w0 ++ [(a, .inr (1, [.null]))]) : Met l y_S_init (cw_S_init :: TW) { frames := 1, cells := 1, slots := 60, locals := 26 } (va_Pc [.ref a] (x_P G A ws)) (qV G A (fun w => ∃ q, w = w0 ++ [(a, .inr (1, [.ref q])), (q, aI G 60 (fun _ => 0))])) 1 60 A := by
  refine Met.ofW (cc := b_S_init) (maxL := 1) (ret := none) (by decide) rfl ?_
  intro p e s m args below meth c s₁ B hml hv
  obtain ⟨rfl, hE, hA, hP, hD⟩ := hv
  have hx := B.exec
  have hb := B.bytes
  have hr := B.returns
  have ht : ∀ w ∈ TW, w.before _ s = true := fun w h => atoms_spec (ws := cw_S_init :: TW) B.pre w (List.mem_cons_of_mem _ h)
  have hown : s.vm.findClass R_S = some m.cls := findClass_of_methodNamed B.named
  have hlocks := B.notSynchronized
  have hin : meth.name = "<init>" := (name_of_methodNamed B.named B.method).1
  have hK := hE.1
  have hS : va_S A s.heap s.heap [] := va_S.rf
  have hl := lv_entry ([.ref a]) (n := 1) (Nat.le_of_ble_eq_true rfl)
  rw [lg_entry_eq]
  generalize (lg_sl ([.ref a]) ++ List.replicate (1 - (lg_sl ([.ref a])).length) Slot.unset).toArray = ls at hl ⊢
  have hl : lv_has ls 1 [(0, .ref a)] := hl
  have h0 : ws[w0.length]? = some (a, .inr (1, [.null])) := by rw [hw]; exact w_new0
  refine lv_aload_n hx hb d_S_init_0 rfl (lv_at hl 0 rfl) ?_
  refine W.objInit hx hb hown (ht _ k_ml_S_3) (ht _ k_im_OJ_init) (ht _ k_code_OJ_init) rfl (by rw [hml]; exact hl.1) rfl d_S_init_1 (Nat.le_of_ble_eq_true rfl) (Nat.le_of_ble_eq_true rfl) ?_
  refine W.eq (g2 := F0 m 4 ls []) rfl ?_
  refine lv_aload_n hx hb d_S_init_4 rfl (lv_at hl 0 rfl) ?_
  refine lv_bipush (v := (nI 60)) hx hb d_S_init_5 (by decide) ?_
  refine x_newa hx hb (ht _ k_ac_int) hK hP hD hS hA 60 rfl (by decide) (Nat.le_of_ble_eq_true rfl) (Nat.le_of_ble_eq_true rfl) d_S_init_7 (fun q H hP hD hS => ?_)
  refine W.widen (k := 1) (n := 60) (Nat.le_of_ble_eq_true rfl) (Nat.le_of_ble_eq_true rfl) ?_
  have hP : va_P (xD G) CL (ws ++ [(q, aI G 60 (fun _ => 0))]) H := hP
  have hD : va_D A (ws ++ [(q, aI G 60 (fun _ => 0))]) := hD
  obtain ⟨w1, e_w1⟩ : ∃ zz : va_W, zz = ws ++ [(q, aI G 60 (fun _ => 0))] := ⟨_, rfl⟩
  rw [← e_w1] at hP hD
  have h2 : w1[w0.length]? = some (a, .inr (1, [.null])) := by rw [e_w1]; exact w_app h0
  have h3 : w1[ws.length]? = some (q, aI G 60 (fun _ => 0)) := by rw [e_w1]; exact w_new0
  refine va_putF (D := xD G) (ci := 1) (v := .ref q) (ty := .array .int) (C := R_S) (T := F_S) (N := 1) hx hb ht in_S ft_S fo_S nm_S hown hK hP hD hS w0.length h2 rfl 0 (by decide) (ht _ k_fl_S_9) (fun _ h9 => h9) rfl hin rfl (by decide +kernel) rfl rfl (Nat.le_of_ble_eq_true rfl) d_S_init_9 (fun H locs hP hD hS => ?_)
  have hP : va_P (xD G) CL (w1.set w0.length (a, .inr (1, [.ref q]))) H := hP
  have hD : va_D A (w1.set w0.length (a, .inr (1, [.ref q]))) := hD
  obtain ⟨w4, e_w4⟩ : ∃ zz : va_W, zz = w1.set w0.length (a, .inr (1, [.ref q])) := ⟨_, rfl⟩
  rw [← e_w4] at hP hD
  have h5 : w4[w0.length]? = some (a, .inr (1, [.ref q])) := by rw [e_w4]; exact w_eq h2
  have h6 : w4[ws.length]? = some (q, aI G 60 (fun _ => 0)) := by rw [e_w4]; exact w_ne (w_dif h2 h3 (by simp)) h3
  exact x_vret hx hb hr hlocks hS hP hD (Nat.le_of_ble_eq_true rfl) (Nat.le_of_ble_eq_true rfl) d_S_init_12 (⟨q, by rw [e_w4, e_w1, hw]; exact w_set0⟩)

set_option maxHeartbeats 4000000 in
set_option maxRecDepth 100000 in
theorem c_S_of (l : Launch) (G : xG) (A : Nat → Prop) (ws : va_W) (v : Nat) (hv : v < 60) : Met l y_S_ofVariable (cw_S_ofVariable :: TW) { frames := 2, cells := 2, slots := 61, locals := 52 } (va_Pc [.int (nI v)] (x_P G A ws)) (qR G A (mkS G ws (unit v))) 2 61 A := by
  refine Met.ofW (cc := b_S_ofVariable) (maxL := 2) (ret := (some (.object "ConstraintCompiler$Sum"))) (by decide) rfl ?_
  intro p e s m args below meth c s₁ B hml hv
  obtain ⟨rfl, hE, hA, hP, hD⟩ := hv
  have hx := B.exec
  have hb := B.bytes
  have hr := B.returns
  have ht : ∀ w ∈ TW, w.before _ s = true := fun w h => atoms_spec (ws := cw_S_ofVariable :: TW) B.pre w (List.mem_cons_of_mem _ h)
  have hown : s.vm.findClass R_S = some m.cls := findClass_of_methodNamed B.named
  have hlocks := B.notSynchronized
  have hK := hE.1
  have hS : va_S A s.heap s.heap [] := va_S.rf
  have hl := lv_entry ([.int (nI v)]) (n := 2) (Nat.le_of_ble_eq_true rfl)
  rw [lg_entry_eq]
  generalize (lg_sl ([.int (nI v)]) ++ List.replicate (2 - (lg_sl ([.int (nI v)])).length) Slot.unset).toArray = ls at hl ⊢
  have hl : lv_has ls 2 [(0, .int (nI v))] := hl
  refine va_new (ci := 1) (fs := [.null]) (C := R_S) (T := F_S) (N := 1) hx hb ht in_S ft_S fo_S hown (ht _ k_cl_S_10) (ht _ k_new_S) (ht _ k_in_S) hK hP hD hS hA rfl (fun j hj => by rcases (show j = 0 by omega) with rfl <;> rfl) (Nat.le_of_ble_eq_true rfl) (Nat.le_of_ble_eq_true rfl) d_S_ofVariable_0 (fun r H hP hD hS => ?_)
  refine W.widen (k := 1) (n := 1) (Nat.le_of_ble_eq_true rfl) (Nat.le_of_ble_eq_true rfl) ?_
  have hP : va_P (xD G) CL (ws ++ [(r, .inr (1, [.null]))]) H := hP
  have hD : va_D A (ws ++ [(r, .inr (1, [.null]))]) := hD
  obtain ⟨w1, e_w1⟩ : ∃ zz : va_W, zz = ws ++ [(r, .inr (1, [.null]))] := ⟨_, rfl⟩
  rw [← e_w1] at hP hD
  have h2 : w1[ws.length]? = some (r, .inr (1, [.null])) := by rw [e_w1]; exact w_new0
  refine lv_dup hx hb d_S_ofVariable_3 rfl ?_
  refine x_callv (va_runI (As := []) (rest := [.ref r]) ⟨hx, hb, hml, hown, ht⟩ (c_S_init l G A w1 ws r e_w1) (cwI 0 ht (TW_good k_code_S_init) rfl rfl rfl (ht _ k_in_S) (ht _ k_ml_S_15) (ht _ k_im_S_init) rfl hv_S_init.2 ⟨Nat.le_of_ble_eq_true rfl, Nat.le_of_ble_eq_true rfl⟩) ⟨x_blind, x_pre hE hA hS hP hD⟩ rfl rfl hl.1 rfl (lv_room (Nat.le_of_ble_eq_true rfl)) d_S_ofVariable_4 ⟨Nat.le_of_ble_eq_true rfl, Nat.le_of_ble_eq_true rfl⟩) hS (fun w4 H locs q3 hP hD hS => ?_)
  refine W.widen (k := 2) (n := 61) (Nat.le_of_ble_eq_true rfl) (Nat.le_of_ble_eq_true rfl) ?_
  obtain ⟨ca, hw⟩ := q3
  have g0 : w4[ws.length]? = some (r, .inr (1, [.ref ca])) := by rw [hw]; exact w_new0
  have g1 : w4[ws.length + 1]? = some (ca, aI G 60 (fun _ => 0)) := by rw [hw]; exact w_new1
  refine lv_astore_n (lv' := [(1, .ref r), (0, .int (nI v))]) hx hb d_S_ofVariable_7 rfl hl (by decide) rfl (fun ls hl => ?_)
  refine lv_aload_n hx hb d_S_ofVariable_8 rfl (lv_at hl 0 rfl) ?_
  refine va_get (D := xD G) (ci := 1) (C := R_S) (T := F_S) (N := 1) hx hb ht in_S hown hK hP ws.length g0 rfl 0 (by decide) (ht _ k_fl_S_9) (fun _ h9 => h9) rfl d_S_ofVariable_9 ?_
  refine lv_iload_n hx hb d_S_ofVariable_12 rfl (lv_at hl 1 rfl) ?_
  refine lv_iconst (v := (nI 1)) hx hb d_S_ofVariable_13 (by decide) ?_
  refine x_iast hx hb hK hP hD hS g1 v rfl (by omega) (by omega) d_S_ofVariable_14 (fun H locs hP hD hS => ?_)
  have hP : va_P (xD G) CL (w4.set (ws.length + 1) (ca, aI G 60 (upd (fun _ => 0) v (nI 1)))) H := hP
  have hD : va_D A (w4.set (ws.length + 1) (ca, aI G 60 (upd (fun _ => 0) v (nI 1)))) := hD
  obtain ⟨w5, e_w5⟩ : ∃ zz : va_W, zz = w4.set (ws.length + 1) (ca, aI G 60 (upd (fun _ => 0) v (nI 1))) := ⟨_, rfl⟩
  rw [← e_w5] at hP hD
  have h6 : w5[ws.length]? = some (r, .inr (1, [.ref ca])) := by rw [e_w5]; exact w_ne (w_dif g1 g0 (by simp)) g0
  have h7 : w5[(ws.length + 1)]? = some (ca, aI G 60 (upd (fun _ => 0) v (nI 1))) := by rw [e_w5]; exact w_eq g1
  refine lv_aload_n hx hb d_S_ofVariable_15 rfl (lv_at hl 0 rfl) ?_
  exact x_aret hx hb hr (Or.inl ⟨_, rfl⟩) hlocks hS hP hD (Nat.le_of_ble_eq_true rfl) (Nat.le_of_ble_eq_true rfl) d_S_ofVariable_16 (⟨ca, _, by rw [e_w5, hw]; exact w_set1, fun j hj => by unfold upd unit; split <;> rfl⟩)

set_option maxHeartbeats 4000000 in
set_option maxRecDepth 100000 in
theorem c_S_comb (l : Launch) (G : xG) (A : Nat → Prop) (ws : va_W) (o o2 p1 p2 : Nat) (f g : Nat → Nat) (hf : isS G ws o f) (hg : isS G ws o2 g) (hp1 : p1 < 97) (hp2 : p2 < 97) : Met l y_S_combinedWith (cw_S_combinedWith :: TW) { frames := 3, cells := 2, slots := 61, locals := 78 } (va_Pc [.ref o, .ref o2, .int (nI p1), .int (nI p2)] (x_P G A ws)) (qR G A (mkS G ws (cmb p1 f p2 g))) 2 61 A := by
  refine Met.ofW (cc := b_S_combinedWith) (maxL := 6) (ret := (some (.object "ConstraintCompiler$Sum"))) (by decide) rfl ?_
  intro p e s m args below meth c s₁ B hml hv
  obtain ⟨rfl, hE, hA, hP, hD⟩ := hv
  have hx := B.exec
  have hb := B.bytes
  have hr := B.returns
  have ht : ∀ w ∈ TW, w.before _ s = true := fun w h => atoms_spec (ws := cw_S_combinedWith :: TW) B.pre w (List.mem_cons_of_mem _ h)
  have hown : s.vm.findClass R_S = some m.cls := findClass_of_methodNamed B.named
  have hlocks := B.notSynchronized
  have hK := hE.1
  have hS : va_S A s.heap s.heap [] := va_S.rf
  have hl := lv_entry ([.ref o, .ref o2, .int (nI p1), .int (nI p2)]) (n := 6) (Nat.le_of_ble_eq_true rfl)
  rw [lg_entry_eq]
  generalize (lg_sl ([.ref o, .ref o2, .int (nI p1), .int (nI p2)]) ++ List.replicate (6 - (lg_sl ([.ref o, .ref o2, .int (nI p1), .int (nI p2)])).length) Slot.unset).toArray = ls at hl ⊢
  have hl : lv_has ls 6 [(0, .ref o), (1, .ref o2), (2, .int (nI p1)), (3, .int (nI p2))] := hl
  obtain ⟨k1, k1', ca1, f0, hf1, hf2, -, -, hf5, hf6⟩ := hf
  obtain ⟨k2, k2', ca2, g0, hg1, hg2, -, -, hg5, hg6⟩ := hg
  refine va_new (ci := 1) (fs := [.null]) (C := R_S) (T := F_S) (N := 1) hx hb ht in_S ft_S fo_S hown (ht _ k_cl_S_10) (ht _ k_new_S) (ht _ k_in_S) hK hP hD hS hA rfl (fun j hj => by rcases (show j = 0 by omega) with rfl <;> rfl) (Nat.le_of_ble_eq_true rfl) (Nat.le_of_ble_eq_true rfl) d_S_combinedWith_0 (fun r H hP hD hS => ?_)
  refine W.widen (k := 1) (n := 1) (Nat.le_of_ble_eq_true rfl) (Nat.le_of_ble_eq_true rfl) ?_
  have hP : va_P (xD G) CL (ws ++ [(r, .inr (1, [.null]))]) H := hP
  have hD : va_D A (ws ++ [(r, .inr (1, [.null]))]) := hD
  obtain ⟨w1, e_w1⟩ : ∃ zz : va_W, zz = ws ++ [(r, .inr (1, [.null]))] := ⟨_, rfl⟩
  rw [← e_w1] at hP hD
  have h2 : w1[ws.length]? = some (r, .inr (1, [.null])) := by rw [e_w1]; exact w_new0
  refine lv_dup hx hb d_S_combinedWith_3 rfl ?_
  refine x_callv (va_runI (As := []) (rest := [.ref r]) ⟨hx, hb, hml, hown, ht⟩ (c_S_init l G A w1 ws r e_w1) (cwI 0 ht (TW_good k_code_S_init) rfl rfl rfl (ht _ k_in_S) (ht _ k_ml_S_15) (ht _ k_im_S_init) rfl hv_S_init.2 ⟨Nat.le_of_ble_eq_true rfl, Nat.le_of_ble_eq_true rfl⟩) ⟨x_blind, x_pre hE hA hS hP hD⟩ rfl rfl hl.1 rfl (lv_room (Nat.le_of_ble_eq_true rfl)) d_S_combinedWith_4 ⟨Nat.le_of_ble_eq_true rfl, Nat.le_of_ble_eq_true rfl⟩) hS (fun w4 H locs q3 hP hD hS => ?_)
  refine W.widen (k := 2) (n := 61) (Nat.le_of_ble_eq_true rfl) (Nat.le_of_ble_eq_true rfl) ?_
  obtain ⟨ca, hw⟩ := q3
  subst hw
  refine lv_astore (lv' := [(4, .ref r), (0, .ref o), (1, .ref o2), (2, .int (nI p1)), (3, .int (nI p2))]) hx hb d_S_combinedWith_7 hl (by decide) rfl (fun ls hl => ?_)
  refine lv_iconst (v := (nI 0)) hx hb d_S_combinedWith_9 (by decide) ?_
  refine lv_istore (lv' := [(5, .int (nI 0)), (4, .ref r), (0, .ref o), (1, .ref o2), (2, .int (nI p1)), (3, .int (nI p2))]) hx hb d_S_combinedWith_10 hl (by decide) rfl (fun ls hl => ?_)
  have loop : ∀ (n i : Nat), i + n = 60 → ∀ (h : Nat → Int32) (H : Heap) (locs : List Loc) (ls : Array Slot), (∀ j, j < i → h j = nI (cmb p1 f p2 g j)) → va_P (xD G) CL (ws ++ [(r, .inr (1, [.ref ca])), (ca, aI G 60 h)]) H → va_D A (ws ++ [(r, .inr (1, [.ref ca])), (ca, aI G 60 h)]) → va_S A s.heap H locs → lv_has ls 6 [(5, .int (nI i)), (4, .ref r), (0, .ref o), (1, .ref o2), (2, .int (nI p1)), (3, .int (nI p2))] → W p l e (headSpec (cw_S_combinedWith :: TW) { frames := 3, cells := 2, slots := 61, locals := 78 }).room s m ([.ref o, .ref o2, .int (nI p1), .int (nI p2)] : List Value).toArray below meth c H locs 2 61 (MQ below (qR G A (mkS G ws (cmb p1 f p2 g))) ([.ref o, .ref o2, .int (nI p1), .int (nI p2)] : List Value).toArray s 2 61 A) (F0 m 12 ls []) := by
    intro n
    induction n with
    | zero =>
      intro i hi h H locs ls hh hP hD hS hl
      refine lv_iload hx hb d_S_combinedWith_12 (lv_at hl 0 rfl) ?_
      refine lv_bipush (v := (nI 60)) hx hb d_S_combinedWith_14 (by decide) ?_
      refine x_ge hx hb i 60 rfl rfl (by omega) (by omega) (tgt := 55) d_S_combinedWith_16 (by decide) (fun c5 => ?_) (fun c5 => ?_)
      · refine lv_aload hx hb d_S_combinedWith_55 (lv_at hl 1 rfl) ?_
        exact x_aret hx hb hr (Or.inl ⟨_, rfl⟩) hlocks hS hP hD (Nat.le_of_ble_eq_true rfl) (Nat.le_of_ble_eq_true rfl) d_S_combinedWith_57 (⟨ca, h, rfl, fun j hj => hh j (by omega)⟩)
      · exact False.elim (by omega)
    | succ n ih =>
      intro i hi h H locs ls hh hP hD hS hl
      refine lv_iload hx hb d_S_combinedWith_12 (lv_at hl 0 rfl) ?_
      refine lv_bipush (v := (nI 60)) hx hb d_S_combinedWith_14 (by decide) ?_
      refine x_ge hx hb i 60 rfl rfl (by omega) (by omega) (tgt := 55) d_S_combinedWith_16 (by decide) (fun c6 => ?_) (fun c6 => ?_)
      · exact False.elim (by omega)
      · obtain ⟨w9, e_w9⟩ : ∃ w : va_W, w = (ws ++ [(r, .inr (1, [.ref ca])), (ca, aI G 60 h)]) := ⟨_, rfl⟩
        rw [← e_w9] at hP hD
        have r0 : w9[ws.length]? = some (r, .inr (1, [.ref ca])) := by rw [e_w9]; exact w_new0
        have r1 : w9[ws.length + 1]? = some (ca, aI G 60 h) := by rw [e_w9]; exact w_new1
        have ihf1 := w_app (n := [(r, .inr (1, [.ref ca])), (ca, aI G 60 h)]) hf1
        rw [← e_w9] at ihf1
        have ihf2 := w_app (n := [(r, .inr (1, [.ref ca])), (ca, aI G 60 h)]) hf2
        rw [← e_w9] at ihf2
        have ihg1 := w_app (n := [(r, .inr (1, [.ref ca])), (ca, aI G 60 h)]) hg1
        rw [← e_w9] at ihg1
        have ihg2 := w_app (n := [(r, .inr (1, [.ref ca])), (ca, aI G 60 h)]) hg2
        rw [← e_w9] at ihg2
        refine lv_aload hx hb d_S_combinedWith_19 (lv_at hl 1 rfl) ?_
        refine va_get (D := xD G) (ci := 1) (C := R_S) (T := F_S) (N := 1) hx hb ht in_S hown hK hP ws.length r0 rfl 0 (by decide) (ht _ k_fl_S_9) (fun _ h9 => h9) rfl d_S_combinedWith_21 ?_
        refine lv_iload hx hb d_S_combinedWith_24 (lv_at hl 0 rfl) ?_
        refine lv_iload_n hx hb d_S_combinedWith_26 rfl (lv_at hl 4 rfl) ?_
        refine lv_aload_n hx hb d_S_combinedWith_27 rfl (lv_at hl 2 rfl) ?_
        refine va_get (D := xD G) (ci := 1) (C := R_S) (T := F_S) (N := 1) hx hb ht in_S hown hK hP k1 ihf1 rfl 0 (by decide) (ht _ k_fl_S_9) (fun _ h9 => h9) rfl d_S_combinedWith_28 ?_
        refine lv_iload hx hb d_S_combinedWith_31 (lv_at hl 0 rfl) ?_
        refine x_iald hx hb hK hP ihf2 i rfl (by omega) (by omega) d_S_combinedWith_33 ?_
        refine x_top (nI (f i)) (hf5 i (by omega)) ?_
        refine lv_imul hx hb d_S_combinedWith_34 ?_
        refine x_top (nI (p1 * (f i))) (pk_mul _ _) ?_
        refine lv_iload_n hx hb d_S_combinedWith_35 rfl (lv_at hl 5 rfl) ?_
        refine lv_aload_n hx hb d_S_combinedWith_36 rfl (lv_at hl 3 rfl) ?_
        refine va_get (D := xD G) (ci := 1) (C := R_S) (T := F_S) (N := 1) hx hb ht in_S hown hK hP k2 ihg1 rfl 0 (by decide) (ht _ k_fl_S_9) (fun _ h9 => h9) rfl d_S_combinedWith_37 ?_
        refine lv_iload hx hb d_S_combinedWith_40 (lv_at hl 0 rfl) ?_
        refine x_iald hx hb hK hP ihg2 i rfl (by omega) (by omega) d_S_combinedWith_42 ?_
        refine x_top (nI (g i)) (hg5 i (by omega)) ?_
        have m1 : p1 * f i ≤ 96 * 96 := Nat.mul_le_mul (by omega) (by have := hf6 i (by omega); omega)
        have m2 : p2 * g i ≤ 96 * 96 := Nat.mul_le_mul (by omega) (by have := hg6 i (by omega); omega)
        refine lv_imul hx hb d_S_combinedWith_43 ?_
        refine x_top (nI (p2 * (g i))) (pk_mul _ _) ?_
        refine lv_iadd hx hb d_S_combinedWith_44 ?_
        refine x_top (nI ((p1 * (f i)) + (p2 * (g i)))) (nI_add _ _) ?_
        refine x_calli (va_runSN (As := [.int (nI ((p1 * (f i)) + (p2 * (g i))))]) (rest := [.int (nI i), .ref ca]) (host := R_C) ⟨hx, hb, hml, hown, ht⟩ (c_remainder l G A w9 _) ⟨va_cnB 1 ht (TW_good k_code_C_remainder) rfl rfl rfl (hE.2.2.2.2.2.2.2 _ k_mn_S_20) (ht _ k_in_C) hv_C_remainder.2 ⟨Nat.le_of_ble_eq_true rfl, Nat.le_of_ble_eq_true rfl⟩, ht _ k_st_C_remainder, trivial⟩ ⟨x_blind, x_pre hE hA hS hP hD⟩ rfl rfl hl.1 rfl (lv_room (Nat.le_of_ble_eq_true rfl)) d_S_combinedWith_45 ⟨Nat.le_of_ble_eq_true rfl, Nat.le_of_ble_eq_true rfl⟩) hS (fun r9 w8 H locs q7 hP hD hS => ?_)
        obtain ⟨rfl, rfl⟩ := q7
        refine x_top (nI (cmb p1 f p2 g i)) (by rw [rm_nat (by omega)]; rfl) ?_
        refine x_iast hx hb hK hP hD hS r1 i rfl (by omega) (by omega) d_S_combinedWith_48 (fun H locs hP hD hS => ?_)
        have hP : va_P (xD G) CL (w9.set (ws.length + 1) (ca, aI G 60 (upd h i (nI (cmb p1 f p2 g i))))) H := hP
        have hD : va_D A (w9.set (ws.length + 1) (ca, aI G 60 (upd h i (nI (cmb p1 f p2 g i))))) := hD
        obtain ⟨w10, e_w10⟩ : ∃ zz : va_W, zz = w9.set (ws.length + 1) (ca, aI G 60 (upd h i (nI (cmb p1 f p2 g i)))) := ⟨_, rfl⟩
        rw [← e_w10] at hP hD
        have h11 : w10[(ws.length + 1)]? = some (ca, aI G 60 (upd h i (nI (cmb p1 f p2 g i)))) := by rw [e_w10]; exact w_eq r1
        refine lv_iinc (v := nI (i + 1)) (lv' := [(5, .int (nI (i + 1))), (4, .ref r), (0, .ref o), (1, .ref o2), (2, .int (nI p1)), (3, .int (nI p2))]) hx hb d_S_combinedWith_49 hl (k := 0) rfl (n_inc _) (by decide) rfl (fun ls hl => ?_)
        refine lv_goto (tgt := 12) hx hb d_S_combinedWith_52 (by decide) ?_
        rw [e_w10, e_w9, w_set1] at hP hD
        refine ih (i + 1) (by omega) _ H locs ls (fun j hj => ?_) hP hD hS (lv_sub hl [0, 1, 2, 3, 4, 5] rfl)
        unfold upd
        split
        · next e => rw [e]
        · exact hh j (by omega)
  exact loop 60 0 (by decide) _ H locs ls (fun j hj => by omega) hP hD hS hl
end
section
/-- a row of 60 numbers of the field -/
def isW (G : xG) (ws : va_W) (a : Nat) (w : Nat → Nat) : Prop := ∃ (k : Nat) (h : Nat → Int32), ws[k]? = some (a, aI G 60 h) ∧ (∀ j, j < 60 → h j = nI (w j)) ∧ ∀ j, j < 60 → w j < 97

set_option maxHeartbeats 4000000 in
set_option maxRecDepth 100000 in
theorem c_S_plus (l : Launch) (G : xG) (A : Nat → Prop) (ws : va_W) (o o2 : Nat) (f g : Nat → Nat) (hf : isS G ws o f) (hg : isS G ws o2 g) : Met l y_S_plus (cw_S_plus :: TW) { frames := 4, cells := 2, slots := 61, locals := 104 } (va_Pc [.ref o, .ref o2] (x_P G A ws)) (qR G A (mkS G ws (cmb 1 f 1 g))) 2 61 A := by
  refine Met.ofW (cc := b_S_plus) (maxL := 2) (ret := (some (.object "ConstraintCompiler$Sum"))) (by decide) rfl ?_
  intro p e s m args below meth c s₁ B hml hv
  obtain ⟨rfl, hE, hA, hP, hD⟩ := hv
  have hx := B.exec
  have hb := B.bytes
  have hr := B.returns
  have ht : ∀ w ∈ TW, w.before _ s = true := fun w h => atoms_spec (ws := cw_S_plus :: TW) B.pre w (List.mem_cons_of_mem _ h)
  have hown : s.vm.findClass R_S = some m.cls := findClass_of_methodNamed B.named
  have hlocks := B.notSynchronized
  have hK := hE.1
  have hS : va_S A s.heap s.heap [] := va_S.rf
  have hl := lv_entry ([.ref o, .ref o2]) (n := 2) (Nat.le_of_ble_eq_true rfl)
  rw [lg_entry_eq]
  generalize (lg_sl ([.ref o, .ref o2]) ++ List.replicate (2 - (lg_sl ([.ref o, .ref o2])).length) Slot.unset).toArray = ls at hl ⊢
  have hl : lv_has ls 2 [(0, .ref o), (1, .ref o2)] := hl
  obtain ⟨k1, k1', ca1, f0, hf1, hf2, hf3⟩ := id hf
  refine lv_aload_n hx hb d_S_plus_0 rfl (lv_at hl 0 rfl) ?_
  refine lv_aload_n hx hb d_S_plus_1 rfl (lv_at hl 1 rfl) ?_
  refine lv_iconst (v := (nI 1)) hx hb d_S_plus_2 (by decide) ?_
  refine lv_iconst (v := (nI 1)) hx hb d_S_plus_3 (by decide) ?_
  refine x_callr (va_runV (As := [.ref o2, .int (nI 1), .int (nI 1)]) (rest := []) ⟨hx, hb, hml, hown, ht⟩ (c_S_comb l G A ws o o2 1 1 f g hf hg (by decide) (by decide)) (cwV 3 ht (TW_V k_ml_S_16 k_im_S_combinedWith k_se_S_combinedWith k_in_S k_code_S_combinedWith) rfl rfl rfl hv_S_combinedWith ⟨Nat.le_of_ble_eq_true rfl, Nat.le_of_ble_eq_true rfl⟩) ⟨x_blind, va_recv hK hP rfl hf1, x_pre hE hA hS hP hD⟩ rfl rfl hl.1 rfl (lv_room (Nat.le_of_ble_eq_true rfl)) d_S_plus_4 ⟨Nat.le_of_ble_eq_true rfl, Nat.le_of_ble_eq_true rfl⟩) hS (fun r3 w2 H locs q1 hP hD hS => ?_)
  refine W.widen (k := 2) (n := 61) (Nat.le_of_ble_eq_true rfl) (Nat.le_of_ble_eq_true rfl) ?_
  exact x_aret hx hb hr (Or.inl ⟨_, rfl⟩) hlocks hS hP hD (Nat.le_of_ble_eq_true rfl) (Nat.le_of_ble_eq_true rfl) d_S_plus_7 (q1)

set_option maxHeartbeats 4000000 in
set_option maxRecDepth 100000 in
theorem c_S_minus (l : Launch) (G : xG) (A : Nat → Prop) (ws : va_W) (o o2 : Nat) (f g : Nat → Nat) (hf : isS G ws o f) (hg : isS G ws o2 g) : Met l y_S_minus (cw_S_minus :: TW) { frames := 4, cells := 2, slots := 61, locals := 104 } (va_Pc [.ref o, .ref o2] (x_P G A ws)) (qR G A (mkS G ws (cmb 1 f 96 g))) 2 61 A := by
  refine Met.ofW (cc := b_S_minus) (maxL := 2) (ret := (some (.object "ConstraintCompiler$Sum"))) (by decide) rfl ?_
  intro p e s m args below meth c s₁ B hml hv
  obtain ⟨rfl, hE, hA, hP, hD⟩ := hv
  have hx := B.exec
  have hb := B.bytes
  have hr := B.returns
  have ht : ∀ w ∈ TW, w.before _ s = true := fun w h => atoms_spec (ws := cw_S_minus :: TW) B.pre w (List.mem_cons_of_mem _ h)
  have hown : s.vm.findClass R_S = some m.cls := findClass_of_methodNamed B.named
  have hlocks := B.notSynchronized
  have hK := hE.1
  have hS : va_S A s.heap s.heap [] := va_S.rf
  have hl := lv_entry ([.ref o, .ref o2]) (n := 2) (Nat.le_of_ble_eq_true rfl)
  rw [lg_entry_eq]
  generalize (lg_sl ([.ref o, .ref o2]) ++ List.replicate (2 - (lg_sl ([.ref o, .ref o2])).length) Slot.unset).toArray = ls at hl ⊢
  have hl : lv_has ls 2 [(0, .ref o), (1, .ref o2)] := hl
  obtain ⟨k1, k1', ca1, f0, hf1, hf2, hf3⟩ := id hf
  refine lv_aload_n hx hb d_S_minus_0 rfl (lv_at hl 0 rfl) ?_
  refine lv_aload_n hx hb d_S_minus_1 rfl (lv_at hl 1 rfl) ?_
  refine lv_iconst (v := (nI 1)) hx hb d_S_minus_2 (by decide) ?_
  refine lv_bipush (v := (nI 96)) hx hb d_S_minus_3 (by decide) ?_
  refine x_callr (va_runV (As := [.ref o2, .int (nI 1), .int (nI 96)]) (rest := []) ⟨hx, hb, hml, hown, ht⟩ (c_S_comb l G A ws o o2 1 96 f g hf hg (by decide) (by decide)) (cwV 3 ht (TW_V k_ml_S_16 k_im_S_combinedWith k_se_S_combinedWith k_in_S k_code_S_combinedWith) rfl rfl rfl hv_S_combinedWith ⟨Nat.le_of_ble_eq_true rfl, Nat.le_of_ble_eq_true rfl⟩) ⟨x_blind, va_recv hK hP rfl hf1, x_pre hE hA hS hP hD⟩ rfl rfl hl.1 rfl (lv_room (Nat.le_of_ble_eq_true rfl)) d_S_minus_5 ⟨Nat.le_of_ble_eq_true rfl, Nat.le_of_ble_eq_true rfl⟩) hS (fun r3 w2 H locs q1 hP hD hS => ?_)
  refine W.widen (k := 2) (n := 61) (Nat.le_of_ble_eq_true rfl) (Nat.le_of_ble_eq_true rfl) ?_
  exact x_aret hx hb hr (Or.inl ⟨_, rfl⟩) hlocks hS hP hD (Nat.le_of_ble_eq_true rfl) (Nat.le_of_ble_eq_true rfl) d_S_minus_8 (q1)

set_option maxHeartbeats 4000000 in
set_option maxRecDepth 100000 in
theorem c_S_scaled (l : Launch) (G : xG) (A : Nat → Prop) (ws : va_W) (o t : Nat) (f : Nat → Nat) (hf : isS G ws o f) (ht9 : t < 97) : Met l y_S_scaledBy (cw_S_scaledBy :: TW) { frames := 4, cells := 2, slots := 61, locals := 104 } (va_Pc [.ref o, .int (nI t)] (x_P G A ws)) (qR G A (mkS G ws (cmb t f 0 f))) 2 61 A := by
  refine Met.ofW (cc := b_S_scaledBy) (maxL := 2) (ret := (some (.object "ConstraintCompiler$Sum"))) (by decide) rfl ?_
  intro p e s m args below meth c s₁ B hml hv
  obtain ⟨rfl, hE, hA, hP, hD⟩ := hv
  have hx := B.exec
  have hb := B.bytes
  have hr := B.returns
  have ht : ∀ w ∈ TW, w.before _ s = true := fun w h => atoms_spec (ws := cw_S_scaledBy :: TW) B.pre w (List.mem_cons_of_mem _ h)
  have hown : s.vm.findClass R_S = some m.cls := findClass_of_methodNamed B.named
  have hlocks := B.notSynchronized
  have hK := hE.1
  have hS : va_S A s.heap s.heap [] := va_S.rf
  have hl := lv_entry ([.ref o, .int (nI t)]) (n := 2) (Nat.le_of_ble_eq_true rfl)
  rw [lg_entry_eq]
  generalize (lg_sl ([.ref o, .int (nI t)]) ++ List.replicate (2 - (lg_sl ([.ref o, .int (nI t)])).length) Slot.unset).toArray = ls at hl ⊢
  have hl : lv_has ls 2 [(0, .ref o), (1, .int (nI t))] := hl
  obtain ⟨k1, k1', ca1, f0, hf1, hf2, hf3⟩ := id hf
  refine lv_aload_n hx hb d_S_scaledBy_0 rfl (lv_at hl 0 rfl) ?_
  refine lv_aload_n hx hb d_S_scaledBy_1 rfl (lv_at hl 0 rfl) ?_
  refine lv_iload_n hx hb d_S_scaledBy_2 rfl (lv_at hl 1 rfl) ?_
  refine lv_iconst (v := (nI 0)) hx hb d_S_scaledBy_3 (by decide) ?_
  refine x_callr (va_runV (As := [.ref o, .int (nI t), .int (nI 0)]) (rest := []) ⟨hx, hb, hml, hown, ht⟩ (c_S_comb l G A ws o o t 0 f f hf hf ht9 (by decide)) (cwV 3 ht (TW_V k_ml_S_16 k_im_S_combinedWith k_se_S_combinedWith k_in_S k_code_S_combinedWith) rfl rfl rfl hv_S_combinedWith ⟨Nat.le_of_ble_eq_true rfl, Nat.le_of_ble_eq_true rfl⟩) ⟨x_blind, va_recv hK hP rfl hf1, x_pre hE hA hS hP hD⟩ rfl rfl hl.1 rfl (lv_room (Nat.le_of_ble_eq_true rfl)) d_S_scaledBy_4 ⟨Nat.le_of_ble_eq_true rfl, Nat.le_of_ble_eq_true rfl⟩) hS (fun r3 w2 H locs q1 hP hD hS => ?_)
  refine W.widen (k := 2) (n := 61) (Nat.le_of_ble_eq_true rfl) (Nat.le_of_ble_eq_true rfl) ?_
  exact x_aret hx hb hr (Or.inl ⟨_, rfl⟩) hlocks hS hP hD (Nat.le_of_ble_eq_true rfl) (Nat.le_of_ble_eq_true rfl) d_S_scaledBy_7 (q1)

set_option maxHeartbeats 4000000 in
set_option maxRecDepth 100000 in
theorem c_S_last (l : Launch) (G : xG) (A : Nat → Prop) (ws : va_W) (o : Nat) (f : Nat → Nat) (hf : isS G ws o f) : Met l y_S_lastVariable (cw_S_lastVariable :: TW) { frames := 1, cells := 0, slots := 0, locals := 26 } (va_Pc [.ref o] (x_P G A ws)) (qI G A (fun r w => ws = w ∧ r = nI (lastV f 59))) 0 0 A := by
  refine Met.ofW (cc := b_S_lastVariable) (maxL := 2) (ret := (some .int)) (by decide) rfl ?_
  intro p e s m args below meth c s₁ B hml hv
  obtain ⟨rfl, hE, hA, hP, hD⟩ := hv
  have hx := B.exec
  have hb := B.bytes
  have hr := B.returns
  have ht : ∀ w ∈ TW, w.before _ s = true := fun w h => atoms_spec (ws := cw_S_lastVariable :: TW) B.pre w (List.mem_cons_of_mem _ h)
  have hown : s.vm.findClass R_S = some m.cls := findClass_of_methodNamed B.named
  have hlocks := B.notSynchronized
  have hK := hE.1
  have hS : va_S A s.heap s.heap [] := va_S.rf
  have hl := lv_entry ([.ref o]) (n := 2) (Nat.le_of_ble_eq_true rfl)
  rw [lg_entry_eq]
  generalize (lg_sl ([.ref o]) ++ List.replicate (2 - (lg_sl ([.ref o])).length) Slot.unset).toArray = ls at hl ⊢
  have hl : lv_has ls 2 [(0, .ref o)] := hl
  obtain ⟨k1, k1', ca1, f0, hf1, hf2, -, -, hf5, hf6⟩ := hf
  refine lv_bipush (v := (nI 59)) hx hb d_S_lastVariable_0 (by decide) ?_
  refine lv_istore_n (lv' := [(1, .int (nI 59)), (0, .ref o)]) hx hb d_S_lastVariable_2 rfl hl (by decide) rfl (fun ls hl => ?_)
  have loop : ∀ i : Nat, i < 60 → lastV f i = lastV f 59 → ∀ ls : Array Slot, lv_has ls 2 [(1, .int (nI i)), (0, .ref o)] → W p l e (headSpec (cw_S_lastVariable :: TW) { frames := 1, cells := 0, slots := 0, locals := 26 }).room s m ([.ref o] : List Value).toArray below meth c s.heap [] 0 0 (MQ below (qI G A (fun r w => ws = w ∧ r = nI (lastV f 59))) ([.ref o] : List Value).toArray s 0 0 A) (F0 m 3 ls []) := by
    intro i
    induction i with
    | zero =>
      intro hi he ls hl
      refine lv_iload_n hx hb d_S_lastVariable_3 rfl (lv_at hl 0 rfl) ?_
      refine x_if_le hx hb 0 rfl (by omega) (tgt := 24) d_S_lastVariable_4 (by decide) (fun c1 => ?_) (fun c1 => ?_)
      · refine lv_iconst (v := (nI 0)) hx hb d_S_lastVariable_24 (by decide) ?_
        exact x_iret hx hb hr hlocks hS hP hD (Nat.le_of_ble_eq_true rfl) (Nat.le_of_ble_eq_true rfl) d_S_lastVariable_25 (⟨rfl, by rw [← he]; rfl⟩)
      · exact False.elim (by omega)
    | succ i ih =>
      intro hi he ls hl
      refine lv_iload_n hx hb d_S_lastVariable_3 rfl (lv_at hl 0 rfl) ?_
      refine x_if_le hx hb (i + 1) rfl (by omega) (tgt := 24) d_S_lastVariable_4 (by decide) (fun c2 => ?_) (fun c2 => ?_)
      · exact False.elim (by omega)
      · refine lv_aload_n hx hb d_S_lastVariable_7 rfl (lv_at hl 1 rfl) ?_
        refine va_get (D := xD G) (ci := 1) (C := R_S) (T := F_S) (N := 1) hx hb ht in_S hown hK hP k1 hf1 rfl 0 (by decide) (ht _ k_fl_S_9) (fun _ h9 => h9) rfl d_S_lastVariable_8 ?_
        refine lv_iload_n hx hb d_S_lastVariable_11 rfl (lv_at hl 0 rfl) ?_
        refine x_iald hx hb hK hP hf2 (i + 1) rfl (by omega) (by omega) d_S_lastVariable_12 ?_
        refine x_top (nI (f (i + 1))) (hf5 (i + 1) (by omega)) ?_
        have hf9 := hf6 (i + 1) (by omega)
        refine x_if_eq hx hb (f (i + 1)) rfl (by omega) (tgt := 18) d_S_lastVariable_13 (by decide) (fun c3 => ?_) (fun c3 => ?_)
        · refine lv_iinc (v := nI i) (lv' := [(1, .int (nI i)), (0, .ref o)]) hx hb d_S_lastVariable_18 hl (k := 0) rfl (by rw [litm1]; exact pk_m1 _) (by decide) rfl (fun ls hl => ?_)
          refine lv_goto (tgt := 3) hx hb d_S_lastVariable_21 (by decide) ?_
          exact ih (by omega) (by rw [← he]; show _ = (if f (i + 1) = 0 then lastV f i else i + 1); rw [if_pos c3]) ls hl
        · refine lv_iload_n hx hb d_S_lastVariable_16 rfl (lv_at hl 0 rfl) ?_
          exact x_iret hx hb hr hlocks hS hP hD (Nat.le_of_ble_eq_true rfl) (Nat.le_of_ble_eq_true rfl) d_S_lastVariable_17 (⟨rfl, by rw [← he]; show _ = nI (if f (i + 1) = 0 then lastV f i else i + 1); rw [if_neg c3]⟩)
  exact loop 59 (by decide) rfl ls hl

set_option maxHeartbeats 4000000 in
set_option maxRecDepth 100000 in
theorem c_S_const (l : Launch) (G : xG) (A : Nat → Prop) (ws : va_W) (o : Nat) (f : Nat → Nat) (hf : isS G ws o f) : Met l y_S_isConstant (cw_S_isConstant :: TW) { frames := 2, cells := 0, slots := 0, locals := 52 } (va_Pc [.ref o] (x_P G A ws)) (qI G A (fun r w => ws = w ∧ ((r = nI 1 ∧ lastV f 59 = 0) ∨ (r = nI 0 ∧ lastV f 59 ≠ 0)))) 0 0 A := by
  refine Met.ofW (cc := b_S_isConstant) (maxL := 1) (ret := (some .boolean)) (by decide) rfl ?_
  intro p e s m args below meth c s₁ B hml hv
  obtain ⟨rfl, hE, hA, hP, hD⟩ := hv
  have hx := B.exec
  have hb := B.bytes
  have hr := B.returns
  have ht : ∀ w ∈ TW, w.before _ s = true := fun w h => atoms_spec (ws := cw_S_isConstant :: TW) B.pre w (List.mem_cons_of_mem _ h)
  have hown : s.vm.findClass R_S = some m.cls := findClass_of_methodNamed B.named
  have hlocks := B.notSynchronized
  have hK := hE.1
  have hS : va_S A s.heap s.heap [] := va_S.rf
  have hl := lv_entry ([.ref o]) (n := 1) (Nat.le_of_ble_eq_true rfl)
  rw [lg_entry_eq]
  generalize (lg_sl ([.ref o]) ++ List.replicate (1 - (lg_sl ([.ref o])).length) Slot.unset).toArray = ls at hl ⊢
  have hl : lv_has ls 1 [(0, .ref o)] := hl
  obtain ⟨k1, k1', ca1, f0, hf1, hf2, hf3⟩ := id hf
  refine lv_aload_n hx hb d_S_isConstant_0 rfl (lv_at hl 0 rfl) ?_
  refine x_calli (va_runV (As := []) (rest := []) ⟨hx, hb, hml, hown, ht⟩ (c_S_last l G A ws o f hf) (cwV 0 ht (TW_V k_ml_S_24 k_im_S_lastVariable k_se_S_lastVariable k_in_S k_code_S_lastVariable) rfl rfl rfl hv_S_lastVariable ⟨Nat.le_of_ble_eq_true rfl, Nat.le_of_ble_eq_true rfl⟩) ⟨x_blind, va_recv hK hP rfl hf1, x_pre hE hA hS hP hD⟩ rfl rfl hl.1 rfl (lv_room (Nat.le_of_ble_eq_true rfl)) d_S_isConstant_1 ⟨Nat.le_of_ble_eq_true rfl, Nat.le_of_ble_eq_true rfl⟩) hS (fun r3 w2 H locs q1 hP hD hS => ?_)
  obtain ⟨rfl, rfl⟩ := q1
  have h59 := lastV_le f 59
  refine x_if_ne hx hb (lastV f 59) rfl (by omega) (tgt := 11) d_S_isConstant_4 (by decide) (fun c4 => ?_) (fun c4 => ?_)
  · refine lv_iconst (v := (nI 0)) hx hb d_S_isConstant_11 (by decide) ?_
    exact x_zret hx hb hr hlocks hS hP hD (Nat.le_of_ble_eq_true rfl) (Nat.le_of_ble_eq_true rfl) d_S_isConstant_12 rfl (⟨rfl, Or.inr ⟨rfl, c4⟩⟩)
  · refine lv_iconst (v := (nI 1)) hx hb d_S_isConstant_7 (by decide) ?_
    refine lv_goto (tgt := 12) hx hb d_S_isConstant_8 (by decide) ?_
    exact x_zret hx hb hr hlocks hS hP hD (Nat.le_of_ble_eq_true rfl) (Nat.le_of_ble_eq_true rfl) d_S_isConstant_12 rfl (⟨rfl, Or.inl ⟨rfl, c4⟩⟩)

set_option maxHeartbeats 4000000 in
set_option maxRecDepth 100000 in
theorem c_S_terms (l : Launch) (G : xG) (A : Nat → Prop) (ws : va_W) (o : Nat) (f : Nat → Nat) (hf : isS G ws o f) : Met l y_S_howManyTerms (cw_S_howManyTerms :: TW) { frames := 1, cells := 0, slots := 0, locals := 26 } (va_Pc [.ref o] (x_P G A ws)) (qI G A (fun r w => ws = w ∧ r = nI (nz f 60))) 0 0 A := by
  refine Met.ofW (cc := b_S_howManyTerms) (maxL := 3) (ret := (some .int)) (by decide) rfl ?_
  intro p e s m args below meth c s₁ B hml hv
  obtain ⟨rfl, hE, hA, hP, hD⟩ := hv
  have hx := B.exec
  have hb := B.bytes
  have hr := B.returns
  have ht : ∀ w ∈ TW, w.before _ s = true := fun w h => atoms_spec (ws := cw_S_howManyTerms :: TW) B.pre w (List.mem_cons_of_mem _ h)
  have hown : s.vm.findClass R_S = some m.cls := findClass_of_methodNamed B.named
  have hlocks := B.notSynchronized
  have hK := hE.1
  have hS : va_S A s.heap s.heap [] := va_S.rf
  have hl := lv_entry ([.ref o]) (n := 3) (Nat.le_of_ble_eq_true rfl)
  rw [lg_entry_eq]
  generalize (lg_sl ([.ref o]) ++ List.replicate (3 - (lg_sl ([.ref o])).length) Slot.unset).toArray = ls at hl ⊢
  have hl : lv_has ls 3 [(0, .ref o)] := hl
  obtain ⟨k1, k1', ca1, f0, hf1, hf2, -, -, hf5, hf6⟩ := hf
  refine lv_iconst (v := (nI 0)) hx hb d_S_howManyTerms_0 (by decide) ?_
  refine lv_istore_n (lv' := [(1, .int (nI 0)), (0, .ref o)]) hx hb d_S_howManyTerms_1 rfl hl (by decide) rfl (fun ls hl => ?_)
  refine lv_iconst (v := (nI 0)) hx hb d_S_howManyTerms_2 (by decide) ?_
  refine lv_istore_n (lv' := [(2, .int (nI 0)), (1, .int (nI 0)), (0, .ref o)]) hx hb d_S_howManyTerms_3 rfl hl (by decide) rfl (fun ls hl => ?_)
  have loop : ∀ (n i : Nat), i + n = 60 → ∀ (ls : Array Slot), lv_has ls 3 [(2, .int (nI i)), (1, .int (nI (nz f i))), (0, .ref o)] → W p l e (headSpec (cw_S_howManyTerms :: TW) { frames := 1, cells := 0, slots := 0, locals := 26 }).room s m ([.ref o] : List Value).toArray below meth c s.heap [] 0 0 (MQ below (qI G A (fun r w => ws = w ∧ r = nI (nz f 60))) ([.ref o] : List Value).toArray s 0 0 A) (F0 m 4 ls []) := by
    intro n
    induction n with
    | zero =>
      intro i hi  ls  hl
      refine lv_iload_n hx hb d_S_howManyTerms_4 rfl (lv_at hl 0 rfl) ?_
      refine lv_bipush (v := (nI 60)) hx hb d_S_howManyTerms_5 (by decide) ?_
      refine x_ge hx hb i 60 rfl rfl (by omega) (by omega) (tgt := 28) d_S_howManyTerms_7 (by decide) (fun c1 => ?_) (fun c1 => ?_)
      · have i0 : i = 60 := by omega
        refine lv_iload_n hx hb d_S_howManyTerms_28 rfl (lv_at hl 1 rfl) ?_
        exact x_iret hx hb hr hlocks hS hP hD (Nat.le_of_ble_eq_true rfl) (Nat.le_of_ble_eq_true rfl) d_S_howManyTerms_29 (⟨rfl, by rw [i0]⟩)
      · exact False.elim (by omega)
    | succ n ih =>
      intro i hi  ls  hl
      refine lv_iload_n hx hb d_S_howManyTerms_4 rfl (lv_at hl 0 rfl) ?_
      refine lv_bipush (v := (nI 60)) hx hb d_S_howManyTerms_5 (by decide) ?_
      refine x_ge hx hb i 60 rfl rfl (by omega) (by omega) (tgt := 28) d_S_howManyTerms_7 (by decide) (fun c2 => ?_) (fun c2 => ?_)
      · exact False.elim (by omega)
      · refine lv_aload_n hx hb d_S_howManyTerms_10 rfl (lv_at hl 2 rfl) ?_
        refine va_get (D := xD G) (ci := 1) (C := R_S) (T := F_S) (N := 1) hx hb ht in_S hown hK hP k1 hf1 rfl 0 (by decide) (ht _ k_fl_S_9) (fun _ h9 => h9) rfl d_S_howManyTerms_11 ?_
        refine lv_iload_n hx hb d_S_howManyTerms_14 rfl (lv_at hl 0 rfl) ?_
        refine x_iald hx hb hK hP hf2 i rfl (by omega) (by omega) d_S_howManyTerms_15 ?_
        refine x_top (nI (f i)) (hf5 i (by omega)) ?_
        have hf9 := hf6 i (by omega)
        refine x_if_eq hx hb (f i) rfl (by omega) (tgt := 22) d_S_howManyTerms_16 (by decide) (fun c3 => ?_) (fun c3 => ?_)
        · refine lv_iinc (v := nI (i + 1)) (lv' := [(2, .int (nI (i + 1))), (1, .int (nI (nz f i))), (0, .ref o)]) hx hb d_S_howManyTerms_22 hl (k := 0) rfl (n_inc _) (by decide) rfl (fun ls hl => ?_)
          refine lv_goto (tgt := 4) hx hb d_S_howManyTerms_25 (by decide) ?_
          have e9 : nz f (i + 1) = nz f i := by show nz f i + (if f i = 0 then 0 else 1) = nz f i; rw [if_pos c3, Nat.add_zero]
          exact ih (i + 1) (by omega) ls (by rw [e9]; exact (lv_sub hl [0, 1, 2] rfl))
        · refine lv_iinc (v := nI (nz f i + 1)) (lv' := [(1, .int (nI (nz f i + 1))), (2, .int (nI i)), (0, .ref o)]) hx hb d_S_howManyTerms_19 hl (k := 1) rfl (n_inc _) (by decide) rfl (fun ls hl => ?_)
          refine lv_iinc (v := nI (i + 1)) (lv' := [(2, .int (nI (i + 1))), (1, .int (nI (nz f i + 1))), (0, .ref o)]) hx hb d_S_howManyTerms_22 hl (k := 1) rfl (n_inc _) (by decide) rfl (fun ls hl => ?_)
          refine lv_goto (tgt := 4) hx hb d_S_howManyTerms_25 (by decide) ?_
          have e9 : nz f (i + 1) = nz f i + 1 := by show nz f i + (if f i = 0 then 0 else 1) = nz f i + 1; rw [if_neg c3]
          exact ih (i + 1) (by omega) ls (by rw [e9]; exact (lv_sub hl [0, 1, 2] rfl))
  exact loop 60 0 (by decide) ls hl

set_option maxHeartbeats 4000000 in
set_option maxRecDepth 100000 in
theorem c_S_value (l : Launch) (G : xG) (A : Nat → Prop) (ws : va_W) (o wa : Nat) (f w : Nat → Nat) (hf : isS G ws o f) (hw : isW G ws wa w) : Met l y_S_valueFor (cw_S_valueFor :: TW) { frames := 3, cells := 0, slots := 0, locals := 78 } (va_Pc [.ref o, .ref wa] (x_P G A ws)) (qI G A (fun r w9 => ws = w9 ∧ r = nI (vl f w))) 0 0 A := by
  refine Met.ofW (cc := b_S_valueFor) (maxL := 4) (ret := (some .int)) (by decide) rfl ?_
  intro p e s m args below meth c s₁ B hml hv
  obtain ⟨rfl, hE, hA, hP, hD⟩ := hv
  have hx := B.exec
  have hb := B.bytes
  have hr := B.returns
  have ht : ∀ w ∈ TW, w.before _ s = true := fun w h => atoms_spec (ws := cw_S_valueFor :: TW) B.pre w (List.mem_cons_of_mem _ h)
  have hown : s.vm.findClass R_S = some m.cls := findClass_of_methodNamed B.named
  have hlocks := B.notSynchronized
  have hK := hE.1
  have hS : va_S A s.heap s.heap [] := va_S.rf
  have hl := lv_entry ([.ref o, .ref wa]) (n := 4) (Nat.le_of_ble_eq_true rfl)
  rw [lg_entry_eq]
  generalize (lg_sl ([.ref o, .ref wa]) ++ List.replicate (4 - (lg_sl ([.ref o, .ref wa])).length) Slot.unset).toArray = ls at hl ⊢
  have hl : lv_has ls 4 [(0, .ref o), (1, .ref wa)] := hl
  obtain ⟨k1, k1', ca1, f0, hf1, hf2, -, -, hf5, hf6⟩ := hf
  obtain ⟨k2, h0, hw1, hw2, hw3⟩ := hw
  refine lv_iconst (v := (nI 0)) hx hb d_S_valueFor_0 (by decide) ?_
  refine lv_istore_n (lv' := [(2, .int (nI 0)), (0, .ref o), (1, .ref wa)]) hx hb d_S_valueFor_1 rfl hl (by decide) rfl (fun ls hl => ?_)
  refine lv_iconst (v := (nI 0)) hx hb d_S_valueFor_2 (by decide) ?_
  refine lv_istore_n (lv' := [(3, .int (nI 0)), (2, .int (nI 0)), (0, .ref o), (1, .ref wa)]) hx hb d_S_valueFor_3 rfl hl (by decide) rfl (fun ls hl => ?_)
  have loop : ∀ (n i : Nat), i + n = 60 → ∀ (ls : Array Slot), lv_has ls 4 [(3, .int (nI i)), (2, .int (nI (sm f w i))), (0, .ref o), (1, .ref wa)] → W p l e (headSpec (cw_S_valueFor :: TW) { frames := 3, cells := 0, slots := 0, locals := 78 }).room s m ([.ref o, .ref wa] : List Value).toArray below meth c s.heap [] 0 0 (MQ below (qI G A (fun r w9 => ws = w9 ∧ r = nI (vl f w))) ([.ref o, .ref wa] : List Value).toArray s 0 0 A) (F0 m 4 ls []) := by
    intro n
    induction n with
    | zero =>
      intro i hi  ls  hl
      refine lv_iload_n hx hb d_S_valueFor_4 rfl (lv_at hl 0 rfl) ?_
      refine lv_bipush (v := (nI 60)) hx hb d_S_valueFor_5 (by decide) ?_
      refine x_ge hx hb i 60 rfl rfl (by omega) (by omega) (tgt := 29) d_S_valueFor_7 (by decide) (fun c1 => ?_) (fun c1 => ?_)
      · have i0 : i = 60 := by omega
        subst i0
        refine lv_iload_n hx hb d_S_valueFor_29 rfl (lv_at hl 1 rfl) ?_
        refine x_calli (va_runSN (As := [.int (nI (sm f w 60))]) (rest := []) (host := R_C) ⟨hx, hb, hml, hown, ht⟩ (c_remainder l G A ws _) ⟨va_cnB 1 ht (TW_good k_code_C_remainder) rfl rfl rfl (hE.2.2.2.2.2.2.2 _ k_mn_S_20) (ht _ k_in_C) hv_C_remainder.2 ⟨Nat.le_of_ble_eq_true rfl, Nat.le_of_ble_eq_true rfl⟩, ht _ k_st_C_remainder, trivial⟩ ⟨x_blind, x_pre hE hA hS hP hD⟩ rfl rfl hl.1 rfl (lv_room (Nat.le_of_ble_eq_true rfl)) d_S_valueFor_30 ⟨Nat.le_of_ble_eq_true rfl, Nat.le_of_ble_eq_true rfl⟩) hS (fun r4 w3 H locs q2 hP hD hS => ?_)
        obtain ⟨rfl, rfl⟩ := q2
        exact x_iret hx hb hr hlocks hS hP hD (Nat.le_of_ble_eq_true rfl) (Nat.le_of_ble_eq_true rfl) d_S_valueFor_33 (⟨rfl, by rw [rm_nat (by have := sm_le hf6 hw3 60 (by decide); omega)]; rfl⟩)
      · exact False.elim (by omega)
    | succ n ih =>
      intro i hi  ls  hl
      refine lv_iload_n hx hb d_S_valueFor_4 rfl (lv_at hl 0 rfl) ?_
      refine lv_bipush (v := (nI 60)) hx hb d_S_valueFor_5 (by decide) ?_
      refine x_ge hx hb i 60 rfl rfl (by omega) (by omega) (tgt := 29) d_S_valueFor_7 (by decide) (fun c5 => ?_) (fun c5 => ?_)
      · exact False.elim (by omega)
      · refine lv_iload_n hx hb d_S_valueFor_10 rfl (lv_at hl 1 rfl) ?_
        refine lv_aload_n hx hb d_S_valueFor_11 rfl (lv_at hl 2 rfl) ?_
        refine va_get (D := xD G) (ci := 1) (C := R_S) (T := F_S) (N := 1) hx hb ht in_S hown hK hP k1 hf1 rfl 0 (by decide) (ht _ k_fl_S_9) (fun _ h9 => h9) rfl d_S_valueFor_12 ?_
        refine lv_iload_n hx hb d_S_valueFor_15 rfl (lv_at hl 0 rfl) ?_
        refine x_iald hx hb hK hP hf2 i rfl (by omega) (by omega) d_S_valueFor_16 ?_
        refine x_top (nI (f i)) (hf5 i (by omega)) ?_
        refine lv_aload_n hx hb d_S_valueFor_17 rfl (lv_at hl 3 rfl) ?_
        refine lv_iload_n hx hb d_S_valueFor_18 rfl (lv_at hl 0 rfl) ?_
        refine x_iald hx hb hK hP hw1 i rfl (by omega) (by omega) d_S_valueFor_19 ?_
        refine x_top (nI (w i)) (hw2 i (by omega)) ?_
        refine lv_imul hx hb d_S_valueFor_20 ?_
        refine x_top (nI ((f i) * (w i))) (pk_mul _ _) ?_
        refine lv_iadd hx hb d_S_valueFor_21 ?_
        refine x_top (nI ((sm f w i) + ((f i) * (w i)))) (nI_add _ _) ?_
        refine lv_istore_n (lv' := [(2, .int (nI ((sm f w i) + ((f i) * (w i))))), (3, .int (nI i)), (0, .ref o), (1, .ref wa)]) hx hb d_S_valueFor_22 rfl hl (by decide) rfl (fun ls hl => ?_)
        refine lv_iinc (v := nI (i + 1)) (lv' := [(3, .int (nI (i + 1))), (2, .int (nI ((sm f w i) + ((f i) * (w i))))), (0, .ref o), (1, .ref wa)]) hx hb d_S_valueFor_23 hl (k := 1) rfl (n_inc _) (by decide) rfl (fun ls hl => ?_)
        refine lv_goto (tgt := 4) hx hb d_S_valueFor_26 (by decide) ?_
        exact ih (i + 1) (by omega) ls (lv_sub hl [0, 1, 2, 3] rfl)
  exact loop 60 0 (by decide) ls hl
end
section
/-! lists -/
/-- a list at place kl, its row at place ka (none while it is the empty one), n elements, their addresses g -/
def isL (G : xG) (ws : va_W) (kl : Nat) (ka : Option Nat) (al n : Nat) (g : Nat → Nat) : Prop :=
  ∃ (mo : Int32) (ea : Nat), ws[kl]? = some (al, .inr (6, [.int mo, .ref ea, .int (nI n)])) ∧ ((ka = none ∧ n = 0 ∧ ea = xZ G) ∨ ∃ (k cap : Nat) (f : Nat → Option Nat), ka = some k ∧ ws[k]? = some (ea, aO G cap f) ∧ n ≤ cap ∧ 0 < cap ∧ cap ≤ 150 ∧ ∀ j, j < n → f j = some (g j))
/-- an object that may stand in a list -/
def isO (ws : va_W) (a : Nat) : Prop := ∃ (k ci : Nat) (fs : List Value), ws[k]? = some (a, .inr (ci, fs)) ∧ (ci = 2 ∨ ci = 3 ∨ ci = 4)
theorem isO.any {G : xG} {A : Nat → Prop} {ws : va_W} {a : Nat} {s : State} {H H1 : Heap} (hE : x_E G A s H1) (hP : va_P (xD G) CL ws H) (h : isO ws a) : va_Any "java/lang/Object" s H a := by
  obtain ⟨k, ci, fs, h1, h2⟩ := h
  have hK := hE.1
  have hN := hE.2.2.2.2.2.2.2
  rcases h2 with rfl | rfl | rfl
  · exact va_rAny hK hP h1 rfl (fun comp c0 e1 e2 => vb_asgC (C := R_V) (E := R_OJ) (hN _ k_ca_V_OJ) comp c0 e1 e2)
  · exact va_rAny hK hP h1 rfl (fun comp c0 e1 e2 => vb_asgC (C := R_E) (E := R_OJ) (hN _ k_ca_E_OJ) comp c0 e1 e2)
  · exact va_rAny hK hP h1 rfl (fun comp c0 e1 e2 => vb_asgC (C := R_K) (E := R_OJ) (hN _ k_ca_K_OJ) comp c0 e1 e2)
def keep2 (kl : Nat) (ka : Option Nat) (ws w : va_W) : Prop := (∀ (j : Nat) (x : Nat × va_E), ws[j]? = some x → j ≠ kl → ka ≠ some j → w[j]? = some x) ∧ ws.length ≤ w.length
theorem n_max {a b : Nat} (ha : a < 2 ^ 31) (hb : b < 2 ^ 31) : (if nI a < nI b then nI b else nI a) = nI (max a b) := by
  split
  · rename_i h; rw [nI_ltI ha hb] at h; rw [Nat.max_eq_right (by omega)]
  · rename_i h; rw [nI_ltI ha hb] at h; rw [Nat.max_eq_left (by omega)]
theorem n_min {a b : Nat} (ha : a < 2 ^ 31) (hb : b < 2 ^ 31) : (if nI b < nI a then nI b else nI a) = nI (min a b) := by
  split
  · rename_i h; rw [nI_ltI hb ha] at h; rw [Nat.min_eq_right (by omega)]
  · rename_i h; rw [nI_ltI hb ha] at h; rw [Nat.min_eq_left (by omega)]
section XQ
variable {p : Program} {l : Launch} {e : Env} {R : Room} {s : State} {m : MethodId} {args : Array Value} {below : List Frame} {meth : Method} {c : Code} {H : Heap} {locs : List Loc} {cells slots : Nat} {Q : State → Prop}
variable {cc : ByteArray} {pc : Nat} {ls : Array Slot} {rest : List Value} {G : xG} {A : Nat → Prop} {a : Nat} {ws : va_W} {H0 : Heap}
theorem x_aald (hexec : p.tables.exec = Jvm.exec) (hb : c.code = cc) (hK : va_K (xD G) CL (xT G) s) (hP : va_P (xD G) CL ws H) {q0 n : Nat} {f : Nat → Option Nat} (ha : ws[q0]? = some (a, aO G n f)) {i : Int32} (j : Nat) (hi : i = nI j) (hj : j < n) (hn : n < 100000) {v : Nat} (hv : f j = some v) (hdg : decode cc pc = .ok (.aaload, 1))
    (kk : W p l e R s m args below meth c H locs cells slots Q (F0 m (pc + 1) ls (.ref v :: rest))) : W p l e R s m args below meth c H locs cells slots Q (F0 m pc ls (.int i :: .ref a :: rest)) := by
  subst hi
  refine va_aldq hexec hb hK hP q0 2 ha rfl (vp_in_nI hj (by omega)) hdg ?_
  rw [nI_clamp (by omega), hv]
  exact kk
theorem x_aast (hexec : p.tables.exec = Jvm.exec) (hb : c.code = cc) (hK : va_K (xD G) CL (xT G) s) (hP : va_P (xD G) CL ws H) (hD : va_D A ws) (hS : va_S A H0 H locs) {q0 n : Nat} {f : Nat → Option Nat} (ha : ws[q0]? = some (a, aO G n f)) {v : Nat} (hr : va_Any "java/lang/Object" s H v) {i : Int32} (j : Nat) (hi : i = nI j) (hj : j < n) (hn : n < 100000) (hdg : decode cc pc = .ok (.aastore, 1))
    (kk : ∀ (H1 : Heap) (locs1 : List Loc), va_P (xD G) CL (ws.set q0 (a, aO G n (va_up f j (some v)))) H1 → va_D A (ws.set q0 (a, aO G n (va_up f j (some v)))) → va_S A H0 H1 locs1 → W p l e R s m args below meth c H1 locs1 cells slots Q (F0 m (pc + 1) ls rest)) : W p l e R s m args below meth c H locs cells slots Q (F0 m pc ls (.ref v :: .int i :: .ref a :: rest)) := by
  subst hi
  refine va_astqM hexec hb hK hP hD hS q0 2 ha rfl hr (vp_in_nI hj (by omega)) hdg ?_
  rw [nI_clamp (by omega)]
  exact kk
end XQ

set_option maxHeartbeats 4000000 in
set_option maxRecDepth 100000 in
theorem c_AC_init (l : Launch) (G : xG) (A : Nat → Prop) (ws : va_W) (a : Nat) : Met l y_AC_init (cw_AC_init :: TW) { frames := 1, cells := 0, slots := 0, locals := 26 } (va_Pc [.ref a] (x_P G A ws)) (qV G A (fun w => ws = w)) 0 0 A := by
  refine va_MetF (cc := b_AC_init) (maxL := 1) (ret := none) (by decide +kernel) rfl ?_
  intro p e s m args below meth c s₁ B hml hv
  obtain ⟨rfl, hE, hA, hP, hD⟩ := hv
  have hx := B.exec
  have hb := B.bytes
  have hr := B.returns
  have ht : ∀ w ∈ TW, w.before _ s = true := fun w h => atoms_spec (ws := cw_AC_init :: TW) B.pre w (List.mem_cons_of_mem _ h)
  have hown : s.vm.findClass R_AC = some m.cls := findClass_of_methodNamed B.named
  have hlocks := B.notSynchronized
  have hin : meth.name = "<init>" := (name_of_methodNamed B.named B.method).1
  have hK := hE.1
  have hS : va_S A s.heap s.heap [] := va_S.rf
  have hl := lv_entry ([.ref a]) (n := 1) (Nat.le_of_ble_eq_true rfl)
  rw [lg_entry_eq]
  generalize (lg_sl ([.ref a]) ++ List.replicate (1 - (lg_sl ([.ref a])).length) Slot.unset).toArray = ls at hl ⊢
  have hl : lv_has ls 1 [(0, .ref a)] := hl
  refine lv_aload_n hx hb d_AC_init_0 rfl (lv_at hl 0 rfl) ?_
  refine W.objInit hx hb hown (ht _ k_ml_AC_1) (ht _ k_im_OJ_init) (ht _ k_code_OJ_init) rfl (by rw [hml]; exact hl.1) rfl d_AC_init_1 (Nat.le_of_ble_eq_true rfl) (Nat.le_of_ble_eq_true rfl) ?_
  refine W.eq (g2 := F0 m 4 ls []) rfl ?_
  exact x_vret hx hb hr hlocks hS hP hD (Nat.le_of_ble_eq_true rfl) (Nat.le_of_ble_eq_true rfl) d_AC_init_4 (rfl)

set_option maxHeartbeats 4000000 in
set_option maxRecDepth 100000 in
theorem c_AL_init (l : Launch) (G : xG) (A : Nat → Prop) (ws : va_W) (k a : Nat) (x1 x2 : Value) (x0 : Int32) (h0 : ws[k]? = some (a, .inr (6, [.int x0, x1, x2]))) : Met l y_AL_init (cw_AL_init :: TW) { frames := 2, cells := 0, slots := 0, locals := 52 } (va_Pc [.ref a] (x_P G A ws)) (qV G A (fun w => w = ws.set k (a, .inr (6, [.int (nI 0), x1, x2])))) 0 0 A := by
  refine va_MetF (cc := b_AL_init) (maxL := 1) (ret := none) (by decide +kernel) rfl ?_
  intro p e s m args below meth c s₁ B hml hv
  obtain ⟨rfl, hE, hA, hP, hD⟩ := hv
  have hx := B.exec
  have hb := B.bytes
  have hr := B.returns
  have ht : ∀ w ∈ TW, w.before _ s = true := fun w h => atoms_spec (ws := cw_AL_init :: TW) B.pre w (List.mem_cons_of_mem _ h)
  have hown : s.vm.findClass R_AL = some m.cls := findClass_of_methodNamed B.named
  have hlocks := B.notSynchronized
  have hin : meth.name = "<init>" := (name_of_methodNamed B.named B.method).1
  have hK := hE.1
  have hS : va_S A s.heap s.heap [] := va_S.rf
  have hl := lv_entry ([.ref a]) (n := 1) (Nat.le_of_ble_eq_true rfl)
  rw [lg_entry_eq]
  generalize (lg_sl ([.ref a]) ++ List.replicate (1 - (lg_sl ([.ref a])).length) Slot.unset).toArray = ls at hl ⊢
  have hl : lv_has ls 1 [(0, .ref a)] := hl
  refine lv_aload_n hx hb d_AL_init_0 rfl (lv_at hl 0 rfl) ?_
  refine x_callv (va_runI (As := []) (rest := []) ⟨hx, hb, hml, hown, ht⟩ (c_AC_init l G A ws a) (cwI 0 ht (TW_good k_code_AC_init) rfl rfl rfl (ht _ k_in_AC) (ht _ k_ml_AL_1) (ht _ k_im_AC_init) rfl hv_AC_init.2 ⟨Nat.le_of_ble_eq_true rfl, Nat.le_of_ble_eq_true rfl⟩) ⟨x_blind, x_pre hE hA hS hP hD⟩ rfl rfl hl.1 rfl (lv_room (Nat.le_of_ble_eq_true rfl)) d_AL_init_1 ⟨Nat.le_of_ble_eq_true rfl, Nat.le_of_ble_eq_true rfl⟩) hS (fun w2 H locs q1 hP hD hS => ?_)
  subst q1
  refine lv_aload_n hx hb d_AL_init_4 rfl (lv_at hl 0 rfl) ?_
  refine lv_iconst (v := (nI 0)) hx hb d_AL_init_5 (by decide) ?_
  refine va_put (D := xD G) (ci := 6) (v := .int (nI 0)) (ty := .int) (C := R_A) (T := F_A) (N := 3) hx hb ht in_A ft_A fo_A nm_A hown hK hP hD hS k h0 rfl 0 (by decide) (ht _ k_fl_AL_7) (fun _ h9 => h9) rfl (by decide +kernel) rfl rfl (Nat.le_of_ble_eq_true rfl) d_AL_init_6 (fun H locs hP hD hS => ?_)
  have hP : va_P (xD G) CL (ws.set k (a, .inr (6, [.int (nI 0), x1, x2]))) H := hP
  have hD : va_D A (ws.set k (a, .inr (6, [.int (nI 0), x1, x2]))) := hD
  obtain ⟨w3, e_w3⟩ : ∃ zz : va_W, zz = ws.set k (a, .inr (6, [.int (nI 0), x1, x2])) := ⟨_, rfl⟩
  rw [← e_w3] at hP hD
  have h4 : w3[k]? = some (a, .inr (6, [.int (nI 0), x1, x2])) := by rw [e_w3]; exact w_eq h0
  exact x_vret hx hb hr hlocks hS hP hD (Nat.le_of_ble_eq_true rfl) (Nat.le_of_ble_eq_true rfl) d_AL_init_9 (e_w3)

set_option maxHeartbeats 4000000 in
set_option maxRecDepth 100000 in
theorem c_A_init (l : Launch) (G : xG) (A : Nat → Prop) (ws : va_W) (w0 : va_W) (a : Nat) (hw : ws = w0 ++ [(a, .inr (6, [.int 0, .null, .int 0]))]) : Met l y_A_init (cw_A_init :: TW) { frames := 3, cells := 0, slots := 0, locals := 78 } (va_Pc [.ref a] (x_P G A ws)) (qV G A (fun w => w = w0 ++ [(a, .inr (6, [.int (nI 0), .ref (xZ G), .int 0]))])) 0 0 A := by
  refine va_MetF (cc := b_A_init) (maxL := 1) (ret := none) (by decide +kernel) rfl ?_
  intro p e s m args below meth c s₁ B hml hv
  obtain ⟨rfl, hE, hA, hP, hD⟩ := hv
  have hx := B.exec
  have hb := B.bytes
  have hr := B.returns
  have ht : ∀ w ∈ TW, w.before _ s = true := fun w h => atoms_spec (ws := cw_A_init :: TW) B.pre w (List.mem_cons_of_mem _ h)
  have hown : s.vm.findClass R_A = some m.cls := findClass_of_methodNamed B.named
  have hlocks := B.notSynchronized
  have hin : meth.name = "<init>" := (name_of_methodNamed B.named B.method).1
  have hK := hE.1
  have hS : va_S A s.heap s.heap [] := va_S.rf
  have hl := lv_entry ([.ref a]) (n := 1) (Nat.le_of_ble_eq_true rfl)
  rw [lg_entry_eq]
  generalize (lg_sl ([.ref a]) ++ List.replicate (1 - (lg_sl ([.ref a])).length) Slot.unset).toArray = ls at hl ⊢
  have hl : lv_has ls 1 [(0, .ref a)] := hl
  have h0 : ws[w0.length]? = some (a, .inr (6, [.int 0, .null, .int 0])) := by rw [hw]; exact w_new0
  refine lv_aload_n hx hb d_A_init_0 rfl (lv_at hl 0 rfl) ?_
  refine x_callv (va_runI (As := []) (rest := []) ⟨hx, hb, hml, hown, ht⟩ (c_AL_init l G A ws w0.length a .null (.int 0) 0 h0) (cwI 0 ht (TW_good k_code_AL_init) rfl rfl rfl (ht _ k_in_AL) (ht _ k_ml_A_1) (ht _ k_im_AL_init) rfl hv_AL_init.2 ⟨Nat.le_of_ble_eq_true rfl, Nat.le_of_ble_eq_true rfl⟩) ⟨x_blind, x_pre hE hA hS hP hD⟩ rfl rfl hl.1 rfl (lv_room (Nat.le_of_ble_eq_true rfl)) d_A_init_1 ⟨Nat.le_of_ble_eq_true rfl, Nat.le_of_ble_eq_true rfl⟩) hS (fun w2 H locs q1 hP hD hS => ?_)
  have h1 : w2[w0.length]? = some (a, .inr (6, [.int (nI 0), .null, .int 0])) := by rw [q1]; exact w_eq h0
  refine lv_aload_n hx hb d_A_init_4 rfl (lv_at hl 0 rfl) ?_
  refine va_gets hx hb hE.2.1 hS hown (ht _ k_fl_A_39) (fun _ h9 => h9) d_A_init_5 ?_
  refine va_put (D := xD G) (ci := 6) (v := .ref (xZ G)) (ty := .array (.object "java/lang/Object")) (C := R_A) (T := F_A) (N := 3) hx hb ht in_A ft_A fo_A nm_A hown hK hP hD hS w0.length h1 rfl 1 (by decide) (ht _ k_fl_A_9) (fun _ h9 => h9) rfl (by decide +kernel) rfl rfl (Nat.le_of_ble_eq_true rfl) d_A_init_8 (fun H locs hP hD hS => ?_)
  have hP : va_P (xD G) CL (w2.set w0.length (a, .inr (6, [.int (nI 0), .ref (xZ G), .int 0]))) H := hP
  have hD : va_D A (w2.set w0.length (a, .inr (6, [.int (nI 0), .ref (xZ G), .int 0]))) := hD
  obtain ⟨w3, e_w3⟩ : ∃ zz : va_W, zz = w2.set w0.length (a, .inr (6, [.int (nI 0), .ref (xZ G), .int 0])) := ⟨_, rfl⟩
  rw [← e_w3] at hP hD
  have h4 : w3[w0.length]? = some (a, .inr (6, [.int (nI 0), .ref (xZ G), .int 0])) := by rw [e_w3]; exact w_eq h1
  exact x_vret hx hb hr hlocks hS hP hD (Nat.le_of_ble_eq_true rfl) (Nat.le_of_ble_eq_true rfl) d_A_init_11 (by rw [e_w3, q1, hw]; simp)

set_option maxHeartbeats 4000000 in
set_option maxRecDepth 100000 in
theorem c_A_size (l : Launch) (G : xG) (A : Nat → Prop) (ws : va_W) (kl : Nat) (ka : Option Nat) (al n : Nat) (g : Nat → Nat) (hL : isL G ws kl ka al n g) : Met l y_A_size (cw_A_size :: TW) { frames := 1, cells := 0, slots := 0, locals := 26 } (va_Pc [.ref al] (x_P G A ws)) (qI G A (fun r w => ws = w ∧ r = nI n)) 0 0 A := by
  refine va_MetF (cc := b_A_size) (maxL := 1) (ret := (some .int)) (by decide +kernel) rfl ?_
  intro p e s m args below meth c s₁ B hml hv
  obtain ⟨rfl, hE, hA, hP, hD⟩ := hv
  have hx := B.exec
  have hb := B.bytes
  have hr := B.returns
  have ht : ∀ w ∈ TW, w.before _ s = true := fun w h => atoms_spec (ws := cw_A_size :: TW) B.pre w (List.mem_cons_of_mem _ h)
  have hown : s.vm.findClass R_A = some m.cls := findClass_of_methodNamed B.named
  have hlocks := B.notSynchronized
  have hK := hE.1
  have hS : va_S A s.heap s.heap [] := va_S.rf
  have hl := lv_entry ([.ref al]) (n := 1) (Nat.le_of_ble_eq_true rfl)
  rw [lg_entry_eq]
  generalize (lg_sl ([.ref al]) ++ List.replicate (1 - (lg_sl ([.ref al])).length) Slot.unset).toArray = ls at hl ⊢
  have hl : lv_has ls 1 [(0, .ref al)] := hl
  obtain ⟨mo, ea, h0, -⟩ := hL
  refine lv_aload_n hx hb d_A_size_0 rfl (lv_at hl 0 rfl) ?_
  refine va_get (D := xD G) (ci := 6) (C := R_A) (T := F_A) (N := 3) hx hb ht in_A hown hK hP kl h0 rfl 2 (by decide) (ht _ k_fl_A_48) (fun _ h9 => h9) rfl d_A_size_1 ?_
  exact x_iret hx hb hr hlocks hS hP hD (Nat.le_of_ble_eq_true rfl) (Nat.le_of_ble_eq_true rfl) d_A_size_4 (⟨rfl, rfl⟩)

set_option maxHeartbeats 4000000 in
set_option maxRecDepth 100000 in
theorem c_A_el (l : Launch) (G : xG) (A : Nat → Prop) (ws : va_W) (kl : Nat) (ka : Option Nat) (al n i : Nat) (g : Nat → Nat) (hL : isL G ws kl ka al n g) (hi : i < n) : Met l y_A_elementData (cw_A_elementData :: TW) { frames := 1, cells := 0, slots := 0, locals := 26 } (va_Pc [.ref al, .int (nI i)] (x_P G A ws)) (qR G A (fun r w => ws = w ∧ r = g i)) 0 0 A := by
  refine va_MetF (cc := b_A_elementData) (maxL := 2) (ret := (some (.object "java/lang/Object"))) (by decide +kernel) rfl ?_
  intro p e s m args below meth c s₁ B hml hv
  obtain ⟨rfl, hE, hA, hP, hD⟩ := hv
  have hx := B.exec
  have hb := B.bytes
  have hr := B.returns
  have ht : ∀ w ∈ TW, w.before _ s = true := fun w h => atoms_spec (ws := cw_A_elementData :: TW) B.pre w (List.mem_cons_of_mem _ h)
  have hown : s.vm.findClass R_A = some m.cls := findClass_of_methodNamed B.named
  have hlocks := B.notSynchronized
  have hK := hE.1
  have hS : va_S A s.heap s.heap [] := va_S.rf
  have hl := lv_entry ([.ref al, .int (nI i)]) (n := 2) (Nat.le_of_ble_eq_true rfl)
  rw [lg_entry_eq]
  generalize (lg_sl ([.ref al, .int (nI i)]) ++ List.replicate (2 - (lg_sl ([.ref al, .int (nI i)])).length) Slot.unset).toArray = ls at hl ⊢
  have hl : lv_has ls 2 [(0, .ref al), (1, .int (nI i))] := hl
  obtain ⟨mo, ea, h0, ⟨-, h2, -⟩ | ⟨k, cap, f, -, h3, h4, h5, h6, h7⟩⟩ := hL
  · exact False.elim (by omega)
  refine lv_aload_n hx hb d_A_elementData_0 rfl (lv_at hl 0 rfl) ?_
  refine va_get (D := xD G) (ci := 6) (C := R_A) (T := F_A) (N := 3) hx hb ht in_A hown hK hP kl h0 rfl 1 (by decide) (ht _ k_fl_A_9) (fun _ h9 => h9) rfl d_A_elementData_1 ?_
  refine lv_iload_n hx hb d_A_elementData_4 rfl (lv_at hl 1 rfl) ?_
  refine x_aald hx hb hK hP h3 i rfl (by omega) (by omega) (h7 i hi) d_A_elementData_5 ?_
  exact x_aret hx hb hr (Or.inl ⟨_, rfl⟩) hlocks hS hP hD (Nat.le_of_ble_eq_true rfl) (Nat.le_of_ble_eq_true rfl) d_A_elementData_6 (⟨rfl, rfl⟩)

set_option maxHeartbeats 4000000 in
set_option maxRecDepth 100000 in
theorem c_PC_check (l : Launch) (G : xG) (A : Nat → Prop) (ws : va_W) (i n : Nat) (hi : i < n) (hn : n < 2 ^ 31) : Met l y_PC_checkIndex (cw_PC_checkIndex :: TW) { frames := 1, cells := 0, slots := 0, locals := 26 } (va_Pc [.int (nI i), .int (nI n), .null] (x_P G A ws)) (qI G A (fun r w => ws = w)) 0 0 A := by
  refine va_MetF (cc := b_PC_checkIndex) (maxL := 3) (ret := (some .int)) (by decide +kernel) rfl ?_
  intro p e s m args below meth c s₁ B hml hv
  obtain ⟨rfl, hE, hA, hP, hD⟩ := hv
  have hx := B.exec
  have hb := B.bytes
  have hr := B.returns
  have ht : ∀ w ∈ TW, w.before _ s = true := fun w h => atoms_spec (ws := cw_PC_checkIndex :: TW) B.pre w (List.mem_cons_of_mem _ h)
  have hown : s.vm.findClass R_PC = some m.cls := findClass_of_methodNamed B.named
  have hlocks := B.notSynchronized
  have hK := hE.1
  have hS : va_S A s.heap s.heap [] := va_S.rf
  have hl := lv_entry ([.int (nI i), .int (nI n), .null]) (n := 3) (Nat.le_of_ble_eq_true rfl)
  rw [lg_entry_eq]
  generalize (lg_sl ([.int (nI i), .int (nI n), .null]) ++ List.replicate (3 - (lg_sl ([.int (nI i), .int (nI n), .null])).length) Slot.unset).toArray = ls at hl ⊢
  have hl : lv_has ls 3 [(0, .int (nI i)), (1, .int (nI n)), (2, .null)] := hl
  refine lv_iload_n hx hb d_PC_checkIndex_0 rfl (lv_at hl 0 rfl) ?_
  refine lv_if_lt (tgt := 9) hx hb d_PC_checkIndex_1 (by decide) (fun c1 => absurd c1 (nI_pos (by omega))) (fun c1 => ?_)
  refine lv_iload_n hx hb d_PC_checkIndex_4 rfl (lv_at hl 0 rfl) ?_
  refine lv_iload_n hx hb d_PC_checkIndex_5 rfl (lv_at hl 1 rfl) ?_
  refine x_lt hx hb i n rfl rfl (by omega) (by omega) (tgt := 16) d_PC_checkIndex_6 (by decide) (fun c1 => ?_) (fun c1 => ?_)
  · refine lv_iload_n hx hb d_PC_checkIndex_16 rfl (lv_at hl 0 rfl) ?_
    exact x_iret hx hb hr hlocks hS hP hD (Nat.le_of_ble_eq_true rfl) (Nat.le_of_ble_eq_true rfl) d_PC_checkIndex_17 (rfl)
  · exact False.elim (by omega)

set_option maxHeartbeats 4000000 in
set_option maxRecDepth 100000 in
theorem c_OB_check (l : Launch) (G : xG) (A : Nat → Prop) (ws : va_W) (i n : Nat) (hi : i < n) (hn : n < 2 ^ 31) : Met l y_OB_checkIndex (cw_OB_checkIndex :: TW) { frames := 2, cells := 0, slots := 0, locals := 52 } (va_Pc [.int (nI i), .int (nI n)] (x_P G A ws)) (qI G A (fun r w => ws = w)) 0 0 A := by
  refine va_MetF (cc := b_OB_checkIndex) (maxL := 2) (ret := (some .int)) (by decide +kernel) rfl ?_
  intro p e s m args below meth c s₁ B hml hv
  obtain ⟨rfl, hE, hA, hP, hD⟩ := hv
  have hx := B.exec
  have hb := B.bytes
  have hr := B.returns
  have ht : ∀ w ∈ TW, w.before _ s = true := fun w h => atoms_spec (ws := cw_OB_checkIndex :: TW) B.pre w (List.mem_cons_of_mem _ h)
  have hown : s.vm.findClass R_OB = some m.cls := findClass_of_methodNamed B.named
  have hlocks := B.notSynchronized
  have hK := hE.1
  have hS : va_S A s.heap s.heap [] := va_S.rf
  have hl := lv_entry ([.int (nI i), .int (nI n)]) (n := 2) (Nat.le_of_ble_eq_true rfl)
  rw [lg_entry_eq]
  generalize (lg_sl ([.int (nI i), .int (nI n)]) ++ List.replicate (2 - (lg_sl ([.int (nI i), .int (nI n)])).length) Slot.unset).toArray = ls at hl ⊢
  have hl : lv_has ls 2 [(0, .int (nI i)), (1, .int (nI n))] := hl
  refine lv_iload_n hx hb d_OB_checkIndex_0 rfl (lv_at hl 0 rfl) ?_
  refine lv_iload_n hx hb d_OB_checkIndex_1 rfl (lv_at hl 1 rfl) ?_
  refine lv_null hx hb d_OB_checkIndex_2 ?_
  refine x_calli (va_runS (As := [.int (nI i), .int (nI n), .null]) (rest := []) ⟨hx, hb, hml, hown, ht⟩ (c_PC_check l G A ws i n hi hn) (va_cwS 3 ht (TW_S k_ml_OB_105 k_st_PC_checkIndex k_in_PC k_code_PC_checkIndex) rfl rfl rfl hv_PC_checkIndex.2 ⟨Nat.le_of_ble_eq_true rfl, Nat.le_of_ble_eq_true rfl⟩) ⟨x_blind, x_pre hE hA hS hP hD⟩ rfl rfl hl.1 rfl (lv_room (Nat.le_of_ble_eq_true rfl)) d_OB_checkIndex_3 ⟨Nat.le_of_ble_eq_true rfl, Nat.le_of_ble_eq_true rfl⟩) hS (fun r3 w2 H locs q1 hP hD hS => ?_)
  subst q1
  exact x_iret hx hb hr hlocks hS hP hD (Nat.le_of_ble_eq_true rfl) (Nat.le_of_ble_eq_true rfl) d_OB_checkIndex_6 (rfl)

set_option maxHeartbeats 4000000 in
set_option maxRecDepth 100000 in
theorem c_A_get (l : Launch) (G : xG) (A : Nat → Prop) (ws : va_W) (kl : Nat) (ka : Option Nat) (al n i : Nat) (g : Nat → Nat) (hL : isL G ws kl ka al n g) (hi : i < n) (hn : n < 2 ^ 31) : Met l y_A_get (cw_A_get :: TW) { frames := 3, cells := 0, slots := 0, locals := 78 } (va_Pc [.ref al, .int (nI i)] (x_P G A ws)) (qR G A (fun r w => ws = w ∧ r = g i)) 0 0 A := by
  refine va_MetF (cc := b_A_get) (maxL := 2) (ret := (some (.object "java/lang/Object"))) (by decide +kernel) rfl ?_
  intro p e s m args below meth c s₁ B hml hv
  obtain ⟨rfl, hE, hA, hP, hD⟩ := hv
  have hx := B.exec
  have hb := B.bytes
  have hr := B.returns
  have ht : ∀ w ∈ TW, w.before _ s = true := fun w h => atoms_spec (ws := cw_A_get :: TW) B.pre w (List.mem_cons_of_mem _ h)
  have hown : s.vm.findClass R_A = some m.cls := findClass_of_methodNamed B.named
  have hlocks := B.notSynchronized
  have hK := hE.1
  have hS : va_S A s.heap s.heap [] := va_S.rf
  have hl := lv_entry ([.ref al, .int (nI i)]) (n := 2) (Nat.le_of_ble_eq_true rfl)
  rw [lg_entry_eq]
  generalize (lg_sl ([.ref al, .int (nI i)]) ++ List.replicate (2 - (lg_sl ([.ref al, .int (nI i)])).length) Slot.unset).toArray = ls at hl ⊢
  have hl : lv_has ls 2 [(0, .ref al), (1, .int (nI i))] := hl
  obtain ⟨mo, ea, h0, -⟩ := id hL
  refine lv_iload_n hx hb d_A_get_0 rfl (lv_at hl 1 rfl) ?_
  refine lv_aload_n hx hb d_A_get_1 rfl (lv_at hl 0 rfl) ?_
  refine va_get (D := xD G) (ci := 6) (C := R_A) (T := F_A) (N := 3) hx hb ht in_A hown hK hP kl h0 rfl 2 (by decide) (ht _ k_fl_A_48) (fun _ h9 => h9) rfl d_A_get_2 ?_
  refine x_calli (va_runS (As := [.int (nI i), .int (nI n)]) (rest := []) ⟨hx, hb, hml, hown, ht⟩ (c_OB_check l G A ws i n hi hn) (va_cwS 2 ht (TW_S k_ml_A_118 k_st_OB_checkIndex k_in_OB k_code_OB_checkIndex) rfl rfl rfl hv_OB_checkIndex.2 ⟨Nat.le_of_ble_eq_true rfl, Nat.le_of_ble_eq_true rfl⟩) ⟨x_blind, x_pre hE hA hS hP hD⟩ rfl rfl hl.1 rfl (lv_room (Nat.le_of_ble_eq_true rfl)) d_A_get_5 ⟨Nat.le_of_ble_eq_true rfl, Nat.le_of_ble_eq_true rfl⟩) hS (fun r3 w2 H locs q1 hP hD hS => ?_)
  subst q1
  refine lv_pop hx hb d_A_get_8 rfl ?_
  refine lv_aload_n hx hb d_A_get_9 rfl (lv_at hl 0 rfl) ?_
  refine lv_iload_n hx hb d_A_get_10 rfl (lv_at hl 1 rfl) ?_
  refine x_callr (va_runV (As := [.int (nI i)]) (rest := []) ⟨hx, hb, hml, hown, ht⟩ (c_A_el l G A ws kl ka al n i g hL hi) (cwV 1 ht (TW_V k_ml_A_123 k_im_A_elementData k_se_A_elementData k_in_A k_code_A_elementData) rfl rfl rfl hv_A_elementData ⟨Nat.le_of_ble_eq_true rfl, Nat.le_of_ble_eq_true rfl⟩) ⟨x_blind, va_recv hK hP rfl h0, x_pre hE hA hS hP hD⟩ rfl rfl hl.1 rfl (lv_room (Nat.le_of_ble_eq_true rfl)) d_A_get_11 ⟨Nat.le_of_ble_eq_true rfl, Nat.le_of_ble_eq_true rfl⟩) hS (fun r6 w5 H locs q4 hP hD hS => ?_)
  exact x_aret hx hb hr (Or.inl ⟨_, rfl⟩) hlocks hS hP hD (Nat.le_of_ble_eq_true rfl) (Nat.le_of_ble_eq_true rfl) d_A_get_14 (q4)

set_option maxHeartbeats 4000000 in
set_option maxRecDepth 100000 in
theorem c_newLength (l : Launch) (G : xG) (A : Nat → Prop) (ws : va_W) (o k : Nat) (ho : o ≤ 1000) (hk : k ≤ 1000) : Met l y_AS_newLength (cw_AS_newLength :: TW) { frames := 2, cells := 0, slots := 0, locals := 52 } (va_Pc [.int (nI o), .int (nI 1), .int (nI k)] (x_P G A ws)) (qI G A (fun r w => ws = w ∧ r = nI (o + max 1 k))) 0 0 A := by
  refine va_MetF (cc := b_AS_newLength) (maxL := 4) (ret := (some .int)) (by decide +kernel) rfl ?_
  intro p e s m args below meth c s₁ B hml hv
  obtain ⟨rfl, hE, hA, hP, hD⟩ := hv
  have hx := B.exec
  have hb := B.bytes
  have hr := B.returns
  have ht : ∀ w ∈ TW, w.before _ s = true := fun w h => atoms_spec (ws := cw_AS_newLength :: TW) B.pre w (List.mem_cons_of_mem _ h)
  have hown : s.vm.findClass R_AS = some m.cls := findClass_of_methodNamed B.named
  have hlocks := B.notSynchronized
  have hK := hE.1
  have hS : va_S A s.heap s.heap [] := va_S.rf
  have hl := lv_entry ([.int (nI o), .int (nI 1), .int (nI k)]) (n := 4) (Nat.le_of_ble_eq_true rfl)
  rw [lg_entry_eq]
  generalize (lg_sl ([.int (nI o), .int (nI 1), .int (nI k)]) ++ List.replicate (4 - (lg_sl ([.int (nI o), .int (nI 1), .int (nI k)])).length) Slot.unset).toArray = ls at hl ⊢
  have hl : lv_has ls 4 [(0, .int (nI o)), (1, .int (nI 1)), (2, .int (nI k))] := hl
  refine lv_iload_n hx hb d_AS_newLength_0 rfl (lv_at hl 0 rfl) ?_
  refine lv_iload_n hx hb d_AS_newLength_1 rfl (lv_at hl 1 rfl) ?_
  refine lv_iload_n hx hb d_AS_newLength_2 rfl (lv_at hl 2 rfl) ?_
  refine va_mmax hx hb (by rw [hml]; exact hl.1.symm) hown (ht _ k_ml_AS_194) (ht _ k_st_MA_max) (ht _ k_in_MA) (ht _ k_code_MA_max) (Nat.le_of_ble_eq_true rfl) (Nat.le_of_ble_eq_true rfl) (Nat.le_of_ble_eq_true rfl) (Nat.le_of_ble_eq_true rfl) d_AS_newLength_3 ?_
  refine x_top (nI (max 1 k)) (n_max (by decide) (by omega)) ?_
  refine lv_iadd hx hb d_AS_newLength_6 ?_
  refine x_top (nI (o + (max 1 k))) (nI_add _ _) ?_
  refine lv_istore_n (lv' := [(3, .int (nI (o + (max 1 k)))), (0, .int (nI o)), (1, .int (nI 1)), (2, .int (nI k))]) hx hb d_AS_newLength_7 rfl hl (by decide) rfl (fun ls hl => ?_)
  refine lv_iconst (v := (nI 0)) hx hb d_AS_newLength_8 (by decide) ?_
  refine lv_iload_n hx hb d_AS_newLength_9 rfl (lv_at hl 0 rfl) ?_
  refine x_ge hx hb 0 (o + (max 1 k)) rfl rfl (by omega) (by omega) (tgt := 21) d_AS_newLength_10 (by decide) (fun c1 => ?_) (fun c1 => ?_)
  · exact False.elim (by omega)
  · refine lv_iload_n hx hb d_AS_newLength_13 rfl (lv_at hl 0 rfl) ?_
    refine lv_ldc (v := nI 2147483639) hx hb hown (ht _ k_co_AS_200) d_AS_newLength_14 ?_
    refine x_gt hx hb (o + (max 1 k)) 2147483639 rfl rfl (by omega) (by omega) (tgt := 21) d_AS_newLength_16 (by decide) (fun c2 => ?_) (fun c2 => ?_)
    · exact False.elim (by omega)
    · refine lv_iload_n hx hb d_AS_newLength_19 rfl (lv_at hl 0 rfl) ?_
      exact x_iret hx hb hr hlocks hS hP hD (Nat.le_of_ble_eq_true rfl) (Nat.le_of_ble_eq_true rfl) d_AS_newLength_20 (⟨rfl, rfl⟩)

set_option maxHeartbeats 4000000 in
set_option maxRecDepth 100000 in
theorem c_copyOf3 (l : Launch) (G : xG) (A : Nat → Prop) (ws : va_W) (k ea cap nc : Nat) (f : Nat → Option Nat) (h0 : ws[k]? = some (ea, aO G cap f)) (hc : cap ≤ nc) (hn : nc ≤ 150) (hel : ∀ j y, j < cap → f j = some y → isO ws y) : Met l y_AR_copyOf3 (cw_AR_copyOf3 :: TW) { frames := 2, cells := 1, slots := 150, locals := 52 } (va_Pc [.ref ea, .int (nI nc), .ref (xM G)] (x_P G A ws)) (qR G A (fun r w => w = ws ++ [(r, aO G nc (va_cpy f (fun _ => none) 0 0 cap))])) 1 150 A := by
  refine va_MetF (cc := b_AR_copyOf3) (maxL := 4) (ret := (some (.array (.object "java/lang/Object")))) (by decide +kernel) rfl ?_
  intro p e s m args below meth c s₁ B hml hv
  obtain ⟨rfl, hE, hA, hP, hD⟩ := hv
  have hx := B.exec
  have hb := B.bytes
  have hr := B.returns
  have ht : ∀ w ∈ TW, w.before _ s = true := fun w h => atoms_spec (ws := cw_AR_copyOf3 :: TW) B.pre w (List.mem_cons_of_mem _ h)
  have hown : s.vm.findClass R_AR = some m.cls := findClass_of_methodNamed B.named
  have hlocks := B.notSynchronized
  have hK := hE.1
  have hS : va_S A s.heap s.heap [] := va_S.rf
  have hl := lv_entry ([.ref ea, .int (nI nc), .ref (xM G)]) (n := 4) (Nat.le_of_ble_eq_true rfl)
  rw [lg_entry_eq]
  generalize (lg_sl ([.ref ea, .int (nI nc), .ref (xM G)]) ++ List.replicate (4 - (lg_sl ([.ref ea, .int (nI nc), .ref (xM G)])).length) Slot.unset).toArray = ls at hl ⊢
  have hl : lv_has ls 4 [(0, .ref ea), (1, .int (nI nc)), (2, .ref (xM G))] := hl
  refine lv_aload_n hx hb d_AR_copyOf3_0 rfl (lv_at hl 2 rfl) ?_
  refine va_ldcM hx hb hown (ht _ k_cl_AR_110) hE.2.2.2.1 d_AR_copyOf3_1 ?_
  refine lv_acmp_ne (rx := some (xM G)) (ry := some (xM G)) (tgt := 13) hx hb d_AR_copyOf3_3 (by decide) (fun c1 => absurd rfl c1) (fun _ => ?_)
  refine lv_iload_n hx hb d_AR_copyOf3_6 rfl (lv_at hl 1 rfl) ?_
  refine x_newq hx hb hown (ht _ k_cl_AR_2) hE.2.2.2.2.1 hK hP hD hS hA nc rfl (by omega) (Nat.le_of_ble_eq_true rfl) (by show 0 + nc ≤ 150; omega) d_AR_copyOf3_7 (fun q H hP hD hS => ?_)
  refine W.widen (k := 1) (n := 150) (Nat.le_of_ble_eq_true rfl) (by omega) ?_
  have hP : va_P (xD G) CL (ws ++ [(q, aO G nc (fun _ => none))]) H := hP
  have hD : va_D A (ws ++ [(q, aO G nc (fun _ => none))]) := hD
  obtain ⟨w1, e_w1⟩ : ∃ zz : va_W, zz = ws ++ [(q, aO G nc (fun _ => none))] := ⟨_, rfl⟩
  rw [← e_w1] at hP hD
  have h2 : w1[k]? = some (ea, aO G cap f) := by rw [e_w1]; exact w_app h0
  have h9 : w1[ws.length]? = some (q, aO G nc (fun _ => none)) := by rw [e_w1]; exact w_new0
  refine lv_goto (tgt := 24) hx hb d_AR_copyOf3_10 (by decide) ?_
  refine lv_astore_n (lv' := [(3, .ref q), (0, .ref ea), (1, .int (nI nc)), (2, .ref (xM G))]) hx hb d_AR_copyOf3_24 rfl hl (by decide) rfl (fun ls hl => ?_)
  refine lv_aload_n hx hb d_AR_copyOf3_25 rfl (lv_at hl 1 rfl) ?_
  refine lv_iconst (v := (nI 0)) hx hb d_AR_copyOf3_26 (by decide) ?_
  refine lv_aload_n hx hb d_AR_copyOf3_27 rfl (lv_at hl 0 rfl) ?_
  refine lv_iconst (v := (nI 0)) hx hb d_AR_copyOf3_28 (by decide) ?_
  refine lv_aload_n hx hb d_AR_copyOf3_29 rfl (lv_at hl 1 rfl) ?_
  refine va_alen hx hb hK hP k 2 h2 rfl (v := nI cap) rfl d_AR_copyOf3_30 ?_
  refine lv_iload_n hx hb d_AR_copyOf3_31 rfl (lv_at hl 2 rfl) ?_
  refine va_mmin hx hb (by rw [hml]; exact hl.1.symm) hown (ht _ k_ml_AR_304) (ht _ k_st_MA_min) (ht _ k_in_MA) (ht _ k_code_MA_min) (Nat.le_of_ble_eq_true rfl) (Nat.le_of_ble_eq_true rfl) (Nat.le_of_ble_eq_true rfl) (Nat.le_of_ble_eq_true rfl) d_AR_copyOf3_32 ?_
  refine x_top (nI cap) (by rw [n_min (by omega) (by omega), Nat.min_eq_left hc]) ?_
  refine va_copyM hx hb (by rw [hml]; exact hl.1.symm) hown (ht _ k_ml_AR_150) (ht _ k_na_arraycopy) (ht _ k_st_arraycopy) (ht _ k_in_System) hK hP hD hS k ws.length 2 2 h2 h9 rfl rfl (nI_pos (by decide)) (nI_pos (by decide)) (nI_pos (by omega)) (by rw [nI_clamp (by decide), nI_clamp (by omega)]; omega) (by rw [nI_clamp (by decide), nI_clamp (by omega)]; omega) ?_ (Nat.le_of_ble_eq_true rfl) (Nat.le_of_ble_eq_true rfl) d_AR_copyOf3_35 (fun H locs hP hD hS => ?_)
  · intro i hi y hy
    rw [nI_clamp (by decide), Nat.zero_add] at hy
    rw [nI_clamp (by omega)] at hi
    obtain ⟨k9, ci9, fs9, e1, e2⟩ := hel i y hi hy
    exact isO.any hE hP ⟨k9, ci9, fs9, by rw [e_w1]; exact w_app e1, e2⟩
  rw [nI_clamp (by decide), nI_clamp (by omega)] at hP hD
  refine lv_aload_n hx hb d_AR_copyOf3_38 rfl (lv_at hl 0 rfl) ?_
  exact x_aret hx hb hr (Or.inr ⟨_, rfl⟩) hlocks hS hP hD (Nat.le_of_ble_eq_true rfl) (Nat.le_of_ble_eq_true rfl) d_AR_copyOf3_39 (by rw [e_w1]; simp)

set_option maxHeartbeats 4000000 in
set_option maxRecDepth 100000 in
theorem c_copyOf2 (l : Launch) (G : xG) (A : Nat → Prop) (ws : va_W) (k ea cap nc : Nat) (f : Nat → Option Nat) (h0 : ws[k]? = some (ea, aO G cap f)) (hc : cap ≤ nc) (hn : nc ≤ 150) (hel : ∀ j y, j < cap → f j = some y → isO ws y) : Met l y_AR_copyOf2 (cw_AR_copyOf2 :: TW) { frames := 3, cells := 1, slots := 150, locals := 78 } (va_Pc [.ref ea, .int (nI nc)] (x_P G A ws)) (qR G A (fun r w => w = ws ++ [(r, aO G nc (va_cpy f (fun _ => none) 0 0 cap))])) 1 150 A := by
  refine va_MetF (cc := b_AR_copyOf2) (maxL := 2) (ret := (some (.array (.object "java/lang/Object")))) (by decide +kernel) rfl ?_
  intro p e s m args below meth c s₁ B hml hv
  obtain ⟨rfl, hE, hA, hP, hD⟩ := hv
  have hx := B.exec
  have hb := B.bytes
  have hr := B.returns
  have ht : ∀ w ∈ TW, w.before _ s = true := fun w h => atoms_spec (ws := cw_AR_copyOf2 :: TW) B.pre w (List.mem_cons_of_mem _ h)
  have hown : s.vm.findClass R_AR = some m.cls := findClass_of_methodNamed B.named
  have hlocks := B.notSynchronized
  have hK := hE.1
  have hS : va_S A s.heap s.heap [] := va_S.rf
  have hl := lv_entry ([.ref ea, .int (nI nc)]) (n := 2) (Nat.le_of_ble_eq_true rfl)
  rw [lg_entry_eq]
  generalize (lg_sl ([.ref ea, .int (nI nc)]) ++ List.replicate (2 - (lg_sl ([.ref ea, .int (nI nc)])).length) Slot.unset).toArray = ls at hl ⊢
  have hl : lv_has ls 2 [(0, .ref ea), (1, .int (nI nc))] := hl
  refine lv_aload_n hx hb d_AR_copyOf2_0 rfl (lv_at hl 0 rfl) ?_
  refine lv_iload_n hx hb d_AR_copyOf2_1 rfl (lv_at hl 1 rfl) ?_
  refine lv_aload_n hx hb d_AR_copyOf2_2 rfl (lv_at hl 0 rfl) ?_
  refine va_getC hx hb (by rw [hml]; exact hl.1.symm) hown (ht _ k_ml_AR_86) (va_Nw.use rfl (hE.2.2.2.2.2.2.2 _ k_de_getClass)) (ht _ k_se_getClass) (ht _ k_im_getClass) (ht _ k_na_getClass) hE.2.2.2.1 ⟨_, hP k _ h0, rfl, va_nmO (hK.2 2 (xO G, .object "java/lang/Object") rfl).2 (by decide)⟩ (Nat.le_of_ble_eq_true rfl) (Nat.le_of_ble_eq_true rfl) d_AR_copyOf2_3 ?_
  refine x_callr (va_runS (As := [.ref ea, .int (nI nc), .ref (xM G)]) (rest := []) ⟨hx, hb, hml, hown, ht⟩ (c_copyOf3 l G A ws k ea cap nc f h0 hc hn hel) (va_cwS 3 ht (TW_S k_ml_AR_300 k_st_AR_copyOf3 k_in_AR k_code_AR_copyOf3) rfl rfl rfl hv_AR_copyOf3.2 ⟨Nat.le_of_ble_eq_true rfl, Nat.le_of_ble_eq_true rfl⟩) ⟨x_blind, x_pre hE hA hS hP hD⟩ rfl rfl hl.1 rfl (lv_room (Nat.le_of_ble_eq_true rfl)) d_AR_copyOf2_6 ⟨Nat.le_of_ble_eq_true rfl, Nat.le_of_ble_eq_true rfl⟩) hS (fun r3 w2 H locs q1 hP hD hS => ?_)
  refine W.widen (k := 1) (n := 150) (Nat.le_of_ble_eq_true rfl) (Nat.le_of_ble_eq_true rfl) ?_
  exact x_aret hx hb hr (Or.inr ⟨_, rfl⟩) hlocks hS hP hD (Nat.le_of_ble_eq_true rfl) (Nat.le_of_ble_eq_true rfl) d_AR_copyOf2_9 (q1)
end
section
theorem n_half {n : Nat} (h : n < 2 ^ 31) : nI n >>> (nI 1 &&& 31) = nI (n / 2) := pk_shrN h (nI 1 &&& 31) 1 (by decide)
theorem w_setapp {ws : va_W} {k : Nat} {x y z : Nat × va_E} (h : ws[k]? = some x) : (ws ++ [y]).set k z = ws.set k z ++ [y] := List.set_append_left k z (List.getElem?_eq_some_iff.mp h).1

set_option maxHeartbeats 4000000 in
set_option maxRecDepth 100000 in
theorem c_grow1 (l : Launch) (G : xG) (A : Nat → Prop) (ws : va_W) (kl al n : Nat) (mo : Int32) (ea : Nat) (g : Nat → Nat) (h0 : ws[kl]? = some (al, .inr (6, [.int mo, .ref ea, .int (nI n)]))) (hn : n ≤ 100) (hd : (n = 0 ∧ ea = xZ G) ∨ ∃ (k : Nat) (f : Nat → Option Nat), ws[k]? = some (ea, aO G n f) ∧ 0 < n ∧ ∀ j, j < n → f j = some (g j)) (hel : ∀ j, j < n → isO ws (g j)) : Met l y_A_grow1 (cw_A_grow1 :: TW) { frames := 4, cells := 1, slots := 150, locals := 104 } (va_Pc [.ref al, .int (nI (n + 1))] (x_P G A ws)) (qR G A (fun r w => ∃ (ncap : Nat) (f' : Nat → Option Nat), w = (ws ++ [(r, aO G ncap f')]).set kl (al, .inr (6, [.int mo, .ref r, .int (nI n)])) ∧ n < ncap ∧ ncap ≤ 150 ∧ ∀ j, j < n → f' j = some (g j))) 1 150 A := by
  refine va_MetF (cc := b_A_grow1) (maxL := 4) (ret := (some (.array (.object "java/lang/Object")))) (by decide +kernel) rfl ?_
  intro p e s m args below meth c s₁ B hml hv
  obtain ⟨rfl, hE, hA, hP, hD⟩ := hv
  have hx := B.exec
  have hb := B.bytes
  have hr := B.returns
  have ht : ∀ w ∈ TW, w.before _ s = true := fun w h => atoms_spec (ws := cw_A_grow1 :: TW) B.pre w (List.mem_cons_of_mem _ h)
  have hown : s.vm.findClass R_A = some m.cls := findClass_of_methodNamed B.named
  have hlocks := B.notSynchronized
  have hK := hE.1
  have hS : va_S A s.heap s.heap [] := va_S.rf
  have hl := lv_entry ([.ref al, .int (nI (n + 1))]) (n := 4) (Nat.le_of_ble_eq_true rfl)
  rw [lg_entry_eq]
  generalize (lg_sl ([.ref al, .int (nI (n + 1))]) ++ List.replicate (4 - (lg_sl ([.ref al, .int (nI (n + 1))])).length) Slot.unset).toArray = ls at hl ⊢
  have hl : lv_has ls 4 [(0, .ref al), (1, .int (nI (n + 1)))] := hl
  refine lv_aload_n hx hb d_A_grow1_0 rfl (lv_at hl 0 rfl) ?_
  refine va_get (D := xD G) (ci := 6) (C := R_A) (T := F_A) (N := 3) hx hb ht in_A hown hK hP kl h0 rfl 1 (by decide) (ht _ k_fl_A_9) (fun _ h9 => h9) rfl d_A_grow1_1 ?_
  rcases hd with ⟨rfl, rfl⟩ | ⟨k, f, h1, h2, h3⟩
  · refine va_tlen hx hb hE.2.2.1 hS (v := nI 0) rfl d_A_grow1_4 ?_
    refine lv_istore_n (lv' := [(2, .int (nI 0)), (0, .ref al), (1, .int (nI (0 + 1)))]) hx hb d_A_grow1_5 rfl hl (by decide) rfl (fun ls hl => ?_)
    refine lv_iload_n hx hb d_A_grow1_6 rfl (lv_at hl 0 rfl) ?_
    refine x_if_gt hx hb 0 rfl (by omega) (tgt := 20) d_A_grow1_7 (by decide) (fun c1 => ?_) (fun c1 => ?_)
    · exact False.elim (by omega)
    · refine lv_aload_n hx hb d_A_grow1_10 rfl (lv_at hl 1 rfl) ?_
      refine va_get (D := xD G) (ci := 6) (C := R_A) (T := F_A) (N := 3) hx hb ht in_A hown hK hP kl h0 rfl 1 (by decide) (ht _ k_fl_A_9) (fun _ h9 => h9) rfl d_A_grow1_11 ?_
      refine va_gets hx hb hE.2.1 hS hown (ht _ k_fl_A_39) (fun _ h9 => h9) d_A_grow1_14 ?_
      refine lv_acmp_eq (rx := some (xZ G)) (ry := some (xZ G)) (tgt := 45) hx hb d_A_grow1_17 (by decide) (fun _ => ?_) (fun c1 => absurd rfl c1)
      refine lv_aload_n hx hb d_A_grow1_45 rfl (lv_at hl 1 rfl) ?_
      refine lv_bipush (v := (nI 10)) hx hb d_A_grow1_46 (by decide) ?_
      refine lv_iload_n hx hb d_A_grow1_48 rfl (lv_at hl 2 rfl) ?_
      refine va_mmax hx hb (by rw [hml]; exact hl.1.symm) hown (ht _ k_ml_A_79) (ht _ k_st_MA_max) (ht _ k_in_MA) (ht _ k_code_MA_max) (Nat.le_of_ble_eq_true rfl) (Nat.le_of_ble_eq_true rfl) (Nat.le_of_ble_eq_true rfl) (Nat.le_of_ble_eq_true rfl) d_A_grow1_49 ?_
      refine x_top (nI 10) (by decide) ?_
      refine x_newq hx hb hown (ht _ k_cl_A_7) hE.2.2.2.2.1 hK hP hD hS hA 10 rfl (by decide) (Nat.le_of_ble_eq_true rfl) (Nat.le_of_ble_eq_true rfl) d_A_grow1_52 (fun q H hP hD hS => ?_)
      refine W.widen (k := 1) (n := 150) (Nat.le_of_ble_eq_true rfl) (Nat.le_of_ble_eq_true rfl) ?_
      have hP : va_P (xD G) CL (ws ++ [(q, aO G 10 (fun _ => none))]) H := hP
      have hD : va_D A (ws ++ [(q, aO G 10 (fun _ => none))]) := hD
      obtain ⟨w2, e_w2⟩ : ∃ zz : va_W, zz = ws ++ [(q, aO G 10 (fun _ => none))] := ⟨_, rfl⟩
      rw [← e_w2] at hP hD
      have h3 : w2[kl]? = some (al, .inr (6, [.int mo, .ref (xZ G), .int (nI 0)])) := by rw [e_w2]; exact w_app h0
      refine lv_dup_x1 hx hb d_A_grow1_55 rfl rfl ?_
      refine va_put (D := xD G) (ci := 6) (v := .ref q) (ty := .array (.object "java/lang/Object")) (C := R_A) (T := F_A) (N := 3) hx hb ht in_A ft_A fo_A nm_A hown hK hP hD hS kl h3 rfl 1 (by decide) (ht _ k_fl_A_9) (fun _ h9 => h9) rfl (by decide +kernel) rfl rfl (Nat.le_of_ble_eq_true rfl) d_A_grow1_56 (fun H locs hP hD hS => ?_)
      have hP : va_P (xD G) CL (w2.set kl (al, .inr (6, [.int mo, .ref q, .int (nI 0)]))) H := hP
      have hD : va_D A (w2.set kl (al, .inr (6, [.int mo, .ref q, .int (nI 0)]))) := hD
      obtain ⟨w4, e_w4⟩ : ∃ zz : va_W, zz = w2.set kl (al, .inr (6, [.int mo, .ref q, .int (nI 0)])) := ⟨_, rfl⟩
      rw [← e_w4] at hP hD
      have h5 : w4[kl]? = some (al, .inr (6, [.int mo, .ref q, .int (nI 0)])) := by rw [e_w4]; exact w_eq h3
      exact x_aret hx hb hr (Or.inr ⟨_, rfl⟩) hlocks hS hP hD (Nat.le_of_ble_eq_true rfl) (Nat.le_of_ble_eq_true rfl) d_A_grow1_59 (⟨10, fun _ => none, by rw [e_w4, e_w2], by decide, by decide, fun j hj => by omega⟩)
  · refine va_alen hx hb hK hP k 2 h1 rfl (v := nI n) rfl d_A_grow1_4 ?_
    refine lv_istore_n (lv' := [(2, .int (nI n)), (0, .ref al), (1, .int (nI (n + 1)))]) hx hb d_A_grow1_5 rfl hl (by decide) rfl (fun ls hl => ?_)
    refine lv_iload_n hx hb d_A_grow1_6 rfl (lv_at hl 0 rfl) ?_
    refine x_if_gt hx hb n rfl (by omega) (tgt := 20) d_A_grow1_7 (by decide) (fun c6 => ?_) (fun c6 => ?_)
    · refine lv_iload_n hx hb d_A_grow1_20 rfl (lv_at hl 0 rfl) ?_
      refine lv_iload_n hx hb d_A_grow1_21 rfl (lv_at hl 2 rfl) ?_
      refine lv_iload_n hx hb d_A_grow1_22 rfl (lv_at hl 0 rfl) ?_
      refine lv_isub hx hb d_A_grow1_23 ?_
      refine x_top (nI ((n + 1) - n)) (pk_sub (by omega)) ?_
      refine lv_iload_n hx hb d_A_grow1_24 rfl (lv_at hl 0 rfl) ?_
      refine lv_iconst (v := (nI 1)) hx hb d_A_grow1_25 (by decide) ?_
      refine lv_ishr hx hb d_A_grow1_26 ?_
      refine x_top (nI (n / 2)) (n_half (by omega)) ?_
      have e8 : n + 1 - n = 1 := by omega
      rw [e8]
      refine x_calli (va_runS (As := [.int (nI n), .int (nI 1), .int (nI (n / 2))]) (rest := []) ⟨hx, hb, hml, hown, ht⟩ (c_newLength l G A ws n (n / 2) (by omega) (by omega)) (va_cwS 3 ht (TW_S k_ml_A_73 k_st_AS_newLength k_in_AS k_code_AS_newLength) rfl rfl rfl hv_AS_newLength.2 ⟨Nat.le_of_ble_eq_true rfl, Nat.le_of_ble_eq_true rfl⟩) ⟨x_blind, x_pre hE hA hS hP hD⟩ rfl rfl hl.1 rfl (lv_room (Nat.le_of_ble_eq_true rfl)) d_A_grow1_27 ⟨Nat.le_of_ble_eq_true rfl, Nat.le_of_ble_eq_true rfl⟩) hS (fun r9 w8 H locs q7 hP hD hS => ?_)
      obtain ⟨rfl, rfl⟩ := q7
      obtain ⟨nc, e7⟩ : ∃ nc, nc = n + max 1 (n / 2) := ⟨_, rfl⟩
      rw [← e7]
      have e6 : n < nc ∧ nc ≤ 150 := by omega
      refine lv_istore_n (lv' := [(3, .int (nI nc)), (2, .int (nI n)), (0, .ref al), (1, .int (nI (n + 1)))]) hx hb d_A_grow1_30 rfl hl (by decide) rfl (fun ls hl => ?_)
      refine lv_aload_n hx hb d_A_grow1_31 rfl (lv_at hl 2 rfl) ?_
      refine lv_aload_n hx hb d_A_grow1_32 rfl (lv_at hl 2 rfl) ?_
      refine va_get (D := xD G) (ci := 6) (C := R_A) (T := F_A) (N := 3) hx hb ht in_A hown hK hP kl h0 rfl 1 (by decide) (ht _ k_fl_A_9) (fun _ h9 => h9) rfl d_A_grow1_33 ?_
      refine lv_iload_n hx hb d_A_grow1_36 rfl (lv_at hl 0 rfl) ?_
      refine x_callr (va_runS (As := [.ref ea, .int (nI nc)]) (rest := [.ref al]) ⟨hx, hb, hml, hown, ht⟩ (c_copyOf2 l G A ws k ea n nc f h1 (by omega) (by omega) (fun j y hj hy => by rw [h3 j hj] at hy; cases hy; exact hel j hj)) (va_cwS 2 ht (TW_S k_ml_A_66 k_st_AR_copyOf2 k_in_AR k_code_AR_copyOf2) rfl rfl rfl hv_AR_copyOf2.2 ⟨Nat.le_of_ble_eq_true rfl, Nat.le_of_ble_eq_true rfl⟩) ⟨x_blind, x_pre hE hA hS hP hD⟩ rfl rfl hl.1 rfl (lv_room (Nat.le_of_ble_eq_true rfl)) d_A_grow1_37 ⟨Nat.le_of_ble_eq_true rfl, Nat.le_of_ble_eq_true rfl⟩) hS (fun r12 w11 H locs q10 hP hD hS => ?_)
      refine W.widen (k := 1) (n := 150) (Nat.le_of_ble_eq_true rfl) (Nat.le_of_ble_eq_true rfl) ?_
      have hk : w11[kl]? = some (al, .inr (6, [.int mo, .ref ea, .int (nI n)])) := by rw [q10]; exact w_app h0
      refine lv_dup_x1 hx hb d_A_grow1_40 rfl rfl ?_
      refine va_put (D := xD G) (ci := 6) (v := .ref r12) (ty := .array (.object "java/lang/Object")) (C := R_A) (T := F_A) (N := 3) hx hb ht in_A ft_A fo_A nm_A hown hK hP hD hS kl hk rfl 1 (by decide) (ht _ k_fl_A_9) (fun _ h9 => h9) rfl (by decide +kernel) rfl rfl (Nat.le_of_ble_eq_true rfl) d_A_grow1_41 (fun H locs hP hD hS => ?_)
      have hP : va_P (xD G) CL (w11.set kl (al, .inr (6, [.int mo, .ref r12, .int (nI n)]))) H := hP
      have hD : va_D A (w11.set kl (al, .inr (6, [.int mo, .ref r12, .int (nI n)]))) := hD
      obtain ⟨w13, e_w13⟩ : ∃ zz : va_W, zz = w11.set kl (al, .inr (6, [.int mo, .ref r12, .int (nI n)])) := ⟨_, rfl⟩
      rw [← e_w13] at hP hD
      have h14 : w13[kl]? = some (al, .inr (6, [.int mo, .ref r12, .int (nI n)])) := by rw [e_w13]; exact w_eq hk
      exact x_aret hx hb hr (Or.inr ⟨_, rfl⟩) hlocks hS hP hD (Nat.le_of_ble_eq_true rfl) (Nat.le_of_ble_eq_true rfl) d_A_grow1_44 (⟨nc, _, by rw [e_w13, q10], e6.1, e6.2, fun j hj => by rw [pk_cpy_in (by omega) (by omega), Nat.zero_add]; exact h3 j hj⟩)
    · exact False.elim (by omega)

set_option maxHeartbeats 4000000 in
set_option maxRecDepth 100000 in
theorem c_grow0 (l : Launch) (G : xG) (A : Nat → Prop) (ws : va_W) (kl al n : Nat) (mo : Int32) (ea : Nat) (g : Nat → Nat) (h0 : ws[kl]? = some (al, .inr (6, [.int mo, .ref ea, .int (nI n)]))) (hn : n ≤ 100) (hd : (n = 0 ∧ ea = xZ G) ∨ ∃ (k : Nat) (f : Nat → Option Nat), ws[k]? = some (ea, aO G n f) ∧ 0 < n ∧ ∀ j, j < n → f j = some (g j)) (hel : ∀ j, j < n → isO ws (g j)) : Met l y_A_grow0 (cw_A_grow0 :: TW) { frames := 5, cells := 1, slots := 150, locals := 130 } (va_Pc [.ref al] (x_P G A ws)) (qR G A (fun r w => ∃ (ncap : Nat) (f' : Nat → Option Nat), w = (ws ++ [(r, aO G ncap f')]).set kl (al, .inr (6, [.int mo, .ref r, .int (nI n)])) ∧ n < ncap ∧ ncap ≤ 150 ∧ ∀ j, j < n → f' j = some (g j))) 1 150 A := by
  refine va_MetF (cc := b_A_grow0) (maxL := 1) (ret := (some (.array (.object "java/lang/Object")))) (by decide +kernel) rfl ?_
  intro p e s m args below meth c s₁ B hml hv
  obtain ⟨rfl, hE, hA, hP, hD⟩ := hv
  have hx := B.exec
  have hb := B.bytes
  have hr := B.returns
  have ht : ∀ w ∈ TW, w.before _ s = true := fun w h => atoms_spec (ws := cw_A_grow0 :: TW) B.pre w (List.mem_cons_of_mem _ h)
  have hown : s.vm.findClass R_A = some m.cls := findClass_of_methodNamed B.named
  have hlocks := B.notSynchronized
  have hK := hE.1
  have hS : va_S A s.heap s.heap [] := va_S.rf
  have hl := lv_entry ([.ref al]) (n := 1) (Nat.le_of_ble_eq_true rfl)
  rw [lg_entry_eq]
  generalize (lg_sl ([.ref al]) ++ List.replicate (1 - (lg_sl ([.ref al])).length) Slot.unset).toArray = ls at hl ⊢
  have hl : lv_has ls 1 [(0, .ref al)] := hl
  refine lv_aload_n hx hb d_A_grow0_0 rfl (lv_at hl 0 rfl) ?_
  refine lv_aload_n hx hb d_A_grow0_1 rfl (lv_at hl 0 rfl) ?_
  refine va_get (D := xD G) (ci := 6) (C := R_A) (T := F_A) (N := 3) hx hb ht in_A hown hK hP kl h0 rfl 2 (by decide) (ht _ k_fl_A_48) (fun _ h9 => h9) rfl d_A_grow0_2 ?_
  refine lv_iconst (v := (nI 1)) hx hb d_A_grow0_5 (by decide) ?_
  refine lv_iadd hx hb d_A_grow0_6 ?_
  refine x_top (nI (n + 1)) (nI_add _ _) ?_
  refine x_callr (va_runV (As := [.int (nI (n + 1))]) (rest := []) ⟨hx, hb, hml, hown, ht⟩ (c_grow1 l G A ws kl al n mo ea g h0 hn hd hel) (cwV 1 ht (TW_V k_ml_A_69 k_im_A_grow1 k_se_A_grow1 k_in_A k_code_A_grow1) rfl rfl rfl hv_A_grow1 ⟨Nat.le_of_ble_eq_true rfl, Nat.le_of_ble_eq_true rfl⟩) ⟨x_blind, va_recv hK hP rfl h0, x_pre hE hA hS hP hD⟩ rfl rfl hl.1 rfl (lv_room (Nat.le_of_ble_eq_true rfl)) d_A_grow0_7 ⟨Nat.le_of_ble_eq_true rfl, Nat.le_of_ble_eq_true rfl⟩) hS (fun r3 w2 H locs q1 hP hD hS => ?_)
  refine W.widen (k := 1) (n := 150) (Nat.le_of_ble_eq_true rfl) (Nat.le_of_ble_eq_true rfl) ?_
  exact x_aret hx hb hr (Or.inr ⟨_, rfl⟩) hlocks hS hP hD (Nat.le_of_ble_eq_true rfl) (Nat.le_of_ble_eq_true rfl) d_A_grow0_10 (q1)

set_option maxHeartbeats 4000000 in
set_option maxRecDepth 100000 in
theorem c_add3 (l : Launch) (G : xG) (A : Nat → Prop) (ws : va_W) (kl : Nat) (ka : Option Nat) (al n v : Nat) (mo : Int32) (ea : Nat) (g : Nat → Nat) (h0 : ws[kl]? = some (al, .inr (6, [.int mo, .ref ea, .int (nI n)]))) (hn : n ≤ 100) (hd : (ka = none ∧ n = 0 ∧ ea = xZ G) ∨ ∃ (k cap : Nat) (f : Nat → Option Nat), ka = some k ∧ ws[k]? = some (ea, aO G cap f) ∧ n ≤ cap ∧ 0 < cap ∧ cap ≤ 150 ∧ ∀ j, j < n → f j = some (g j)) (hel : ∀ j, j < n → isO ws (g j)) (hv : isO ws v) : Met l y_A_add3 (cw_A_add3 :: TW) { frames := 6, cells := 1, slots := 150, locals := 156 } (va_Pc [.ref al, .ref v, .ref ea, .int (nI n)] (x_P G A ws)) (qV G A (fun w => ∃ ka' : Option Nat, isL G w kl ka' al (n + 1) (va_up g n v) ∧ keep2 kl ka ws w ∧ (ka' = ka ∨ ka' = some ws.length) ∧ ka' ≠ none)) 1 150 A := by
  refine va_MetF (cc := b_A_add3) (maxL := 4) (ret := none) (by decide +kernel) rfl ?_
  intro p e s m args below meth c s₁ B hml hv
  obtain ⟨rfl, hE, hA, hP, hD⟩ := hv
  have hx := B.exec
  have hb := B.bytes
  have hr := B.returns
  have ht : ∀ w ∈ TW, w.before _ s = true := fun w h => atoms_spec (ws := cw_A_add3 :: TW) B.pre w (List.mem_cons_of_mem _ h)
  have hown : s.vm.findClass R_A = some m.cls := findClass_of_methodNamed B.named
  have hlocks := B.notSynchronized
  have hK := hE.1
  have hS : va_S A s.heap s.heap [] := va_S.rf
  have hl := lv_entry ([.ref al, .ref v, .ref ea, .int (nI n)]) (n := 4) (Nat.le_of_ble_eq_true rfl)
  rw [lg_entry_eq]
  generalize (lg_sl ([.ref al, .ref v, .ref ea, .int (nI n)]) ++ List.replicate (4 - (lg_sl ([.ref al, .ref v, .ref ea, .int (nI n)])).length) Slot.unset).toArray = ls at hl ⊢
  have hl : lv_has ls 4 [(0, .ref al), (1, .ref v), (2, .ref ea), (3, .int (nI n))] := hl
  have kl9 : kl < ws.length := w_lt h0
  refine lv_iload_n hx hb d_A_add3_0 rfl (lv_at hl 3 rfl) ?_
  refine lv_aload_n hx hb d_A_add3_1 rfl (lv_at hl 2 rfl) ?_
  have gr : ∀ (q ncap : Nat) (f' : Nat → Option Nat) (w : va_W) (H : Heap) (locs : List Loc) (ls : Array Slot), w = (ws ++ [(q, aO G ncap f')]).set kl (al, .inr (6, [.int mo, .ref q, .int (nI n)])) → n < ncap → ncap ≤ 150 → (∀ j, j < n → f' j = some (g j)) → va_P (xD G) CL w H → va_D A w → va_S A s.heap H locs → lv_has ls 4 [(2, .ref q), (0, .ref al), (1, .ref v), (3, .int (nI n))] → W p l e (headSpec (cw_A_add3 :: TW) { frames := 6, cells := 1, slots := 150, locals := 156 }).room s m ([.ref al, .ref v, .ref ea, .int (nI n)] : List Value).toArray below meth c H locs 1 150 (MQ below (qV G A (fun w => ∃ ka' : Option Nat, isL G w kl ka' al (n + 1) (va_up g n v) ∧ keep2 kl ka ws w ∧ (ka' = ka ∨ ka' = some ws.length) ∧ ka' ≠ none)) ([.ref al, .ref v, .ref ea, .int (nI n)] : List Value).toArray s 1 150 A) (F0 m 11 ls []) := by
    intro q ncap f' w H locs ls ew hc1 hc2 hf hP hD hS hl
    have r0 : w[kl]? = some (al, .inr (6, [.int mo, .ref q, .int (nI n)])) := by rw [ew]; exact w_eq (w_app h0)
    have r1 : w[ws.length]? = some (q, aO G ncap f') := by rw [ew]; exact w_ne (by omega) w_new0
    have r2 : isO w v := by obtain ⟨k9, ci9, fs9, e1, e2⟩ := hv; exact ⟨k9, ci9, fs9, by rw [ew]; exact w_ne (w_dif h0 e1 (by rcases e2 with rfl | rfl | rfl <;> simp)) (w_app e1), e2⟩
    refine lv_aload_n hx hb d_A_add3_11 rfl (lv_at hl 0 rfl) ?_
    refine lv_iload_n hx hb d_A_add3_12 rfl (lv_at hl 3 rfl) ?_
    refine lv_aload_n hx hb d_A_add3_13 rfl (lv_at hl 2 rfl) ?_
    refine x_aast hx hb hK hP hD hS r1 (isO.any hE hP r2) n rfl (by omega) (by omega) d_A_add3_14 (fun H locs hP hD hS => ?_)
    have hP : va_P (xD G) CL (w.set ws.length (q, aO G ncap (va_up f' n (some v)))) H := hP
    have hD : va_D A (w.set ws.length (q, aO G ncap (va_up f' n (some v)))) := hD
    obtain ⟨w1, e_w1⟩ : ∃ zz : va_W, zz = w.set ws.length (q, aO G ncap (va_up f' n (some v))) := ⟨_, rfl⟩
    rw [← e_w1] at hP hD
    have h2 : w1[kl]? = some (al, .inr (6, [.int mo, .ref q, .int (nI n)])) := by rw [e_w1]; exact w_ne (by omega) r0
    have h3 : w1[ws.length]? = some (q, aO G ncap (va_up f' n (some v))) := by rw [e_w1]; exact w_eq r1
    refine lv_aload_n hx hb d_A_add3_15 rfl (lv_at hl 1 rfl) ?_
    refine lv_iload_n hx hb d_A_add3_16 rfl (lv_at hl 3 rfl) ?_
    refine lv_iconst (v := (nI 1)) hx hb d_A_add3_17 (by decide) ?_
    refine lv_iadd hx hb d_A_add3_18 ?_
    refine x_top (nI (n + 1)) (nI_add _ _) ?_
    refine va_put (D := xD G) (ci := 6) (v := .int (nI (n + 1))) (ty := .int) (C := R_A) (T := F_A) (N := 3) hx hb ht in_A ft_A fo_A nm_A hown hK hP hD hS kl h2 rfl 2 (by decide) (ht _ k_fl_A_48) (fun _ h9 => h9) rfl (by decide +kernel) rfl rfl (Nat.le_of_ble_eq_true rfl) d_A_add3_19 (fun H locs hP hD hS => ?_)
    have hP : va_P (xD G) CL (w1.set kl (al, .inr (6, [.int mo, .ref q, .int (nI (n + 1))]))) H := hP
    have hD : va_D A (w1.set kl (al, .inr (6, [.int mo, .ref q, .int (nI (n + 1))]))) := hD
    obtain ⟨w4, e_w4⟩ : ∃ zz : va_W, zz = w1.set kl (al, .inr (6, [.int mo, .ref q, .int (nI (n + 1))])) := ⟨_, rfl⟩
    rw [← e_w4] at hP hD
    have h5 : w4[kl]? = some (al, .inr (6, [.int mo, .ref q, .int (nI (n + 1))])) := by rw [e_w4]; exact w_eq h2
    have h6 : w4[ws.length]? = some (q, aO G ncap (va_up f' n (some v))) := by rw [e_w4]; exact w_ne (by omega) h3
    refine x_vret hx hb hr hlocks hS hP hD (Nat.le_of_ble_eq_true rfl) (Nat.le_of_ble_eq_true rfl) d_A_add3_22 (⟨some ws.length, ⟨mo, q, h5, Or.inr ⟨ws.length, ncap, va_up f' n (some v), rfl, h6, by omega, by omega, hc2, ?_⟩⟩, ⟨fun j x hx1 hx2 hx3 => ?_, ?_⟩, Or.inr rfl, by simp⟩)
    · intro j hj
      unfold va_up
      split
      · rfl
      · exact hf j (by omega)
    · rw [e_w4, e_w1, ew]
      exact w_ne (Ne.symm hx2) (w_ne (by have := w_lt hx1; omega) (w_ne (Ne.symm hx2) (w_app hx1)))
    · rw [e_w4, e_w1, ew]
      simp
  rcases hd with ⟨hk, rfl, rfl⟩ | ⟨k, cap, f, hk, h1, h2, h3, h4, h5⟩
  · refine va_tlen hx hb hE.2.2.1 hS (v := nI 0) rfl d_A_add3_2 ?_
    refine x_ne hx hb 0 0 rfl rfl (by omega) (by omega) (tgt := 11) d_A_add3_3 (by decide) (fun c7 => ?_) (fun c7 => ?_)
    · exact False.elim (by omega)
    · refine lv_aload_n hx hb d_A_add3_6 rfl (lv_at hl 0 rfl) ?_
      refine x_callr (va_runV (As := []) (rest := []) ⟨hx, hb, hml, hown, ht⟩ (c_grow0 l G A ws kl al 0 mo (xZ G) g h0 hn (Or.inl ⟨rfl, rfl⟩) hel) (cwV 0 ht (TW_V k_ml_A_129 k_im_A_grow0 k_se_A_grow0 k_in_A k_code_A_grow0) rfl rfl rfl hv_A_grow0 ⟨Nat.le_of_ble_eq_true rfl, Nat.le_of_ble_eq_true rfl⟩) ⟨x_blind, va_recv hK hP rfl h0, x_pre hE hA hS hP hD⟩ rfl rfl hl.1 rfl (lv_room (Nat.le_of_ble_eq_true rfl)) d_A_add3_7 ⟨Nat.le_of_ble_eq_true rfl, Nat.le_of_ble_eq_true rfl⟩) hS (fun r10 w9 H locs q8 hP hD hS => ?_)
      refine W.widen (k := 1) (n := 150) (Nat.le_of_ble_eq_true rfl) (Nat.le_of_ble_eq_true rfl) ?_
      refine lv_astore_n (lv' := [(2, .ref r10), (0, .ref al), (1, .ref v), (3, .int (nI 0))]) hx hb d_A_add3_10 rfl hl (by decide) rfl (fun ls hl => ?_)
      obtain ⟨ncap, f', e1, e2, e3, e4⟩ := q8
      exact gr r10 ncap f' w9 H locs ls e1 e2 e3 e4 hP hD hS hl
  · refine va_alen hx hb hK hP k 2 h1 rfl (v := nI cap) rfl d_A_add3_2 ?_
    refine x_ne hx hb n cap rfl rfl (by omega) (by omega) (tgt := 11) d_A_add3_3 (by decide) (fun c11 => ?_) (fun c11 => ?_)
    · refine lv_aload_n hx hb d_A_add3_11 rfl (lv_at hl 2 rfl) ?_
      refine lv_iload_n hx hb d_A_add3_12 rfl (lv_at hl 3 rfl) ?_
      refine lv_aload_n hx hb d_A_add3_13 rfl (lv_at hl 1 rfl) ?_
      refine x_aast hx hb hK hP hD hS h1 (isO.any hE hP hv) n rfl (by omega) (by omega) d_A_add3_14 (fun H locs hP hD hS => ?_)
      have kk9 : k ≠ kl := w_dif h1 h0 (by simp)
      have hP : va_P (xD G) CL (ws.set k (ea, aO G cap (va_up f n (some v)))) H := hP
      have hD : va_D A (ws.set k (ea, aO G cap (va_up f n (some v)))) := hD
      obtain ⟨w12, e_w12⟩ : ∃ zz : va_W, zz = ws.set k (ea, aO G cap (va_up f n (some v))) := ⟨_, rfl⟩
      rw [← e_w12] at hP hD
      have h13 : w12[kl]? = some (al, .inr (6, [.int mo, .ref ea, .int (nI n)])) := by rw [e_w12]; exact w_ne kk9 h0
      have h14 : w12[k]? = some (ea, aO G cap (va_up f n (some v))) := by rw [e_w12]; exact w_eq h1
      refine lv_aload_n hx hb d_A_add3_15 rfl (lv_at hl 0 rfl) ?_
      refine lv_iload_n hx hb d_A_add3_16 rfl (lv_at hl 3 rfl) ?_
      refine lv_iconst (v := (nI 1)) hx hb d_A_add3_17 (by decide) ?_
      refine lv_iadd hx hb d_A_add3_18 ?_
      refine x_top (nI (n + 1)) (nI_add _ _) ?_
      refine va_put (D := xD G) (ci := 6) (v := .int (nI (n + 1))) (ty := .int) (C := R_A) (T := F_A) (N := 3) hx hb ht in_A ft_A fo_A nm_A hown hK hP hD hS kl h13 rfl 2 (by decide) (ht _ k_fl_A_48) (fun _ h9 => h9) rfl (by decide +kernel) rfl rfl (Nat.le_of_ble_eq_true rfl) d_A_add3_19 (fun H locs hP hD hS => ?_)
      have hP : va_P (xD G) CL (w12.set kl (al, .inr (6, [.int mo, .ref ea, .int (nI (n + 1))]))) H := hP
      have hD : va_D A (w12.set kl (al, .inr (6, [.int mo, .ref ea, .int (nI (n + 1))]))) := hD
      obtain ⟨w15, e_w15⟩ : ∃ zz : va_W, zz = w12.set kl (al, .inr (6, [.int mo, .ref ea, .int (nI (n + 1))])) := ⟨_, rfl⟩
      rw [← e_w15] at hP hD
      have h16 : w15[kl]? = some (al, .inr (6, [.int mo, .ref ea, .int (nI (n + 1))])) := by rw [e_w15]; exact w_eq h13
      have h17 : w15[k]? = some (ea, aO G cap (va_up f n (some v))) := by rw [e_w15]; exact w_ne (Ne.symm kk9) h14
      refine x_vret hx hb hr hlocks hS hP hD (Nat.le_of_ble_eq_true rfl) (Nat.le_of_ble_eq_true rfl) d_A_add3_22 (⟨ka, ⟨mo, ea, h16, Or.inr ⟨k, cap, va_up f n (some v), hk, h17, by omega, h3, h4, ?_⟩⟩, ⟨fun j x hx1 hx2 hx3 => ?_, ?_⟩, Or.inl rfl, by rw [hk]; simp⟩)
      · intro j hj
        unfold va_up
        split
        · rfl
        · exact h5 j (by omega)
      · rw [e_w15, e_w12]
        exact w_ne (Ne.symm hx2) (w_ne (fun e => hx3 (by rw [hk, e])) hx1)
      · rw [e_w15, e_w12]
        simp
    · refine lv_aload_n hx hb d_A_add3_6 rfl (lv_at hl 0 rfl) ?_
      subst c11
      refine x_callr (va_runV (As := []) (rest := []) ⟨hx, hb, hml, hown, ht⟩ (c_grow0 l G A ws kl al n mo ea g h0 hn (Or.inr ⟨k, f, h1, by omega, h5⟩) hel) (cwV 0 ht (TW_V k_ml_A_129 k_im_A_grow0 k_se_A_grow0 k_in_A k_code_A_grow0) rfl rfl rfl hv_A_grow0 ⟨Nat.le_of_ble_eq_true rfl, Nat.le_of_ble_eq_true rfl⟩) ⟨x_blind, va_recv hK hP rfl h0, x_pre hE hA hS hP hD⟩ rfl rfl hl.1 rfl (lv_room (Nat.le_of_ble_eq_true rfl)) d_A_add3_7 ⟨Nat.le_of_ble_eq_true rfl, Nat.le_of_ble_eq_true rfl⟩) hS (fun r20 w19 H locs q18 hP hD hS => ?_)
      refine W.widen (k := 1) (n := 150) (Nat.le_of_ble_eq_true rfl) (Nat.le_of_ble_eq_true rfl) ?_
      refine lv_astore_n (lv' := [(2, .ref r20), (0, .ref al), (1, .ref v), (3, .int (nI n))]) hx hb d_A_add3_10 rfl hl (by decide) rfl (fun ls hl => ?_)
      obtain ⟨ncap, f', e1, e2, e3, e4⟩ := q18
      exact gr r20 ncap f' w19 H locs ls e1 e2 e3 e4 hP hD hS hl

set_option maxHeartbeats 4000000 in
set_option maxRecDepth 100000 in
theorem c_add (l : Launch) (G : xG) (A : Nat → Prop) (ws : va_W) (kl : Nat) (ka : Option Nat) (al n v : Nat) (g : Nat → Nat) (hL : isL G ws kl ka al n g) (hn : n ≤ 100) (hel : ∀ j, j < n → isO ws (g j)) (hv : isO ws v) : Met l y_A_add1 (cw_A_add1 :: TW) { frames := 7, cells := 1, slots := 150, locals := 182 } (va_Pc [.ref al, .ref v] (x_P G A ws)) (qI G A (fun _ w => ∃ ka' : Option Nat, isL G w kl ka' al (n + 1) (va_up g n v) ∧ keep2 kl ka ws w ∧ (ka' = ka ∨ ka' = some ws.length) ∧ ka' ≠ none)) 1 150 A := by
  refine va_MetF (cc := b_A_add1) (maxL := 2) (ret := (some .boolean)) (by decide +kernel) rfl ?_
  intro p e s m args below meth c s₁ B hml hv
  obtain ⟨rfl, hE, hA, hP, hD⟩ := hv
  have hx := B.exec
  have hb := B.bytes
  have hr := B.returns
  have ht : ∀ w ∈ TW, w.before _ s = true := fun w h => atoms_spec (ws := cw_A_add1 :: TW) B.pre w (List.mem_cons_of_mem _ h)
  have hown : s.vm.findClass R_A = some m.cls := findClass_of_methodNamed B.named
  have hlocks := B.notSynchronized
  have hK := hE.1
  have hS : va_S A s.heap s.heap [] := va_S.rf
  have hl := lv_entry ([.ref al, .ref v]) (n := 2) (Nat.le_of_ble_eq_true rfl)
  rw [lg_entry_eq]
  generalize (lg_sl ([.ref al, .ref v]) ++ List.replicate (2 - (lg_sl ([.ref al, .ref v])).length) Slot.unset).toArray = ls at hl ⊢
  have hl : lv_has ls 2 [(0, .ref al), (1, .ref v)] := hl
  obtain ⟨mo, ea, h0, hd⟩ := hL
  refine lv_aload_n hx hb d_A_add1_0 rfl (lv_at hl 0 rfl) ?_
  refine lv_dup hx hb d_A_add1_1 rfl ?_
  refine va_get (D := xD G) (ci := 6) (C := R_A) (T := F_A) (N := 3) hx hb ht in_A hown hK hP kl h0 rfl 0 (by decide) (ht _ k_fl_A_63) (fun x9 h9 => u_same (ht _ k_sf) x9 h9) rfl d_A_add1_2 ?_
  refine lv_iconst (v := (nI 1)) hx hb d_A_add1_5 (by decide) ?_
  refine lv_iadd hx hb d_A_add1_6 ?_
  refine lv_topi (fun mo2 _ => ?_)
  refine va_put (D := xD G) (ci := 6) (v := .int mo2) (ty := .int) (C := R_A) (T := F_A) (N := 3) hx hb ht in_A ft_A fo_A nm_A hown hK hP hD hS kl h0 rfl 0 (by decide) (ht _ k_fl_A_63) (fun x9 h9 => u_same (ht _ k_sf) x9 h9) rfl (by decide +kernel) rfl rfl (Nat.le_of_ble_eq_true rfl) d_A_add1_7 (fun H locs hP hD hS => ?_)
  have hP : va_P (xD G) CL (ws.set kl (al, .inr (6, [.int mo2, .ref ea, .int (nI n)]))) H := hP
  have hD : va_D A (ws.set kl (al, .inr (6, [.int mo2, .ref ea, .int (nI n)]))) := hD
  obtain ⟨w1, e_w1⟩ : ∃ zz : va_W, zz = ws.set kl (al, .inr (6, [.int mo2, .ref ea, .int (nI n)])) := ⟨_, rfl⟩
  rw [← e_w1] at hP hD
  have h2 : w1[kl]? = some (al, .inr (6, [.int mo2, .ref ea, .int (nI n)])) := by rw [e_w1]; exact w_eq h0
  have mv : ∀ a, isO ws a → isO w1 a := fun a h => by obtain ⟨k9, ci9, fs9, e1, e2⟩ := h; exact ⟨k9, ci9, fs9, by rw [e_w1]; exact w_ne (w_dif h0 e1 (by rcases e2 with rfl | rfl | rfl <;> simp)) e1, e2⟩
  refine lv_aload_n hx hb d_A_add1_10 rfl (lv_at hl 0 rfl) ?_
  refine lv_aload_n hx hb d_A_add1_11 rfl (lv_at hl 1 rfl) ?_
  refine lv_aload_n hx hb d_A_add1_12 rfl (lv_at hl 0 rfl) ?_
  refine va_get (D := xD G) (ci := 6) (C := R_A) (T := F_A) (N := 3) hx hb ht in_A hown hK hP kl h2 rfl 1 (by decide) (ht _ k_fl_A_9) (fun _ h9 => h9) rfl d_A_add1_13 ?_
  refine lv_aload_n hx hb d_A_add1_16 rfl (lv_at hl 0 rfl) ?_
  refine va_get (D := xD G) (ci := 6) (C := R_A) (T := F_A) (N := 3) hx hb ht in_A hown hK hP kl h2 rfl 2 (by decide) (ht _ k_fl_A_48) (fun _ h9 => h9) rfl d_A_add1_17 ?_
  have hd9 : (ka = none ∧ n = 0 ∧ ea = xZ G) ∨ ∃ (k cap : Nat) (f : Nat → Option Nat), ka = some k ∧ w1[k]? = some (ea, aO G cap f) ∧ n ≤ cap ∧ 0 < cap ∧ cap ≤ 150 ∧ ∀ j, j < n → f j = some (g j) := by
    rcases hd with h | ⟨k, cap, f, e1, e2, e3⟩
    · exact Or.inl h
    · exact Or.inr ⟨k, cap, f, e1, by rw [e_w1]; exact w_ne (w_dif h0 e2 (by simp)) e2, e3⟩
  refine x_callv (va_runV (As := [.ref v, .ref ea, .int (nI n)]) (rest := []) ⟨hx, hb, hml, hown, ht⟩ (c_add3 l G A w1 kl ka al n v mo2 ea g h2 hn hd9 (fun j hj => mv _ (hel j hj)) (mv v hv)) (cwV 3 ht (TW_V k_ml_A_131 k_im_A_add3 k_se_A_add3 k_in_A k_code_A_add3) rfl rfl rfl hv_A_add3 ⟨Nat.le_of_ble_eq_true rfl, Nat.le_of_ble_eq_true rfl⟩) ⟨x_blind, va_recv hK hP rfl h2, x_pre hE hA hS hP hD⟩ rfl rfl hl.1 rfl (lv_room (Nat.le_of_ble_eq_true rfl)) d_A_add1_20 ⟨Nat.le_of_ble_eq_true rfl, Nat.le_of_ble_eq_true rfl⟩) hS (fun w4 H locs q3 hP hD hS => ?_)
  refine W.widen (k := 1) (n := 150) (Nat.le_of_ble_eq_true rfl) (Nat.le_of_ble_eq_true rfl) ?_
  refine lv_iconst (v := (nI 1)) hx hb d_A_add1_23 (by decide) ?_
  obtain ⟨ka', e1, e2, e3, e4⟩ := q3
  have ln : w1.length = ws.length := by rw [e_w1]; exact w_setlen
  exact x_zret hx hb hr hlocks hS hP hD (Nat.le_of_ble_eq_true rfl) (Nat.le_of_ble_eq_true rfl) d_A_add1_24 rfl (⟨ka', e1, ⟨fun j x hx1 hx2 hx3 => e2.1 j x (by rw [e_w1]; exact w_ne (Ne.symm hx2) hx1) hx2 hx3, by rw [← ln]; exact e2.2⟩, by rw [← ln]; exact e3, e4⟩)
end
section
/-! the compiler's state: V its variables (rule, two sums, what was given), E its expressions (sum, input or 0), K its constraints, w the witness, d the draft -/
abbrev VV : Type := Nat × (Nat → Nat) × (Nat → Nat) × Nat
abbrev EE : Type := (Nat → Nat) × Nat
abbrev KK : Type := (Nat → Nat) × (Nat → Nat) × (Nat → Nat)
def hard (k : Nat) (e : va_E) : Prop := (∃ (ci : Nat) (fs : List Value), e = .inr (ci, fs) ∧ (ci = 1 ∨ ci = 2 ∨ ci = 3 ∨ ci = 4)) ∨ (∃ (c : ClassId) (n : Nat) (f : Nat → Int32), e = .inl (c, n, .inl f) ∧ k ≠ 8 ∧ k ≠ 9)
def kp (ws w : va_W) : Prop := ∀ (k a : Nat) (e : va_E), ws[k]? = some (a, e) → hard k e → w[k]? = some (a, e)
theorem kp.rf {ws : va_W} : kp ws ws := fun _ _ _ h _ => h
theorem kp.tr {ws w v : va_W} (h1 : kp ws w) (h2 : kp w v) : kp ws v := fun k a e h hh => h2 k a e (h1 k a e h hh) hh
theorem kp.app {ws n : va_W} : kp ws (ws ++ n) := fun _ _ _ h _ => w_app h
theorem hard_o {k ci : Nat} {fs : List Value} (h : ci = 1 ∨ ci = 2 ∨ ci = 3 ∨ ci = 4) : hard k (.inr (ci, fs)) := Or.inl ⟨ci, fs, rfl, h⟩
theorem isS.kp {G : xG} {ws w : va_W} {a : Nat} {f : Nat → Nat} (hk : kp ws w) (h : isS G ws a f) : isS G w a f := by
  obtain ⟨k, k', ca, h0, h1, h2, h3, h4, h5⟩ := h
  exact ⟨k, k', ca, h0, hk _ _ _ h1 (hard_o (Or.inl rfl)), hk _ _ _ h2 (Or.inr ⟨_, _, _, rfl, h3, h4⟩), h3, h4, h5⟩
def isV (G : xG) (ws : va_W) (a : Nat) (x : VV) : Prop := ∃ (k la ra : Nat), ws[k]? = some (a, .inr (2, [.int (nI x.1), .ref la, .ref ra, .int (nI x.2.2.2)])) ∧ isS G ws la x.2.1 ∧ isS G ws ra x.2.2.1
def isE (G : xG) (ws : va_W) (a : Nat) (x : EE) : Prop := ∃ (k sa : Nat), ws[k]? = some (a, .inr (3, [.ref sa, .int (nI x.2)])) ∧ isS G ws sa x.1
def isC (G : xG) (ws : va_W) (a : Nat) (x : KK) : Prop := ∃ (k xa ya za : Nat), ws[k]? = some (a, .inr (4, [.ref xa, .ref ya, .ref za])) ∧ isS G ws xa x.1 ∧ isS G ws ya x.2.1 ∧ isS G ws za x.2.2
theorem isV.kp {G : xG} {ws w : va_W} {a : Nat} {x : VV} (hk : kp ws w) (h : isV G ws a x) : isV G w a x := by
  obtain ⟨k, la, ra, h1, h2, h3⟩ := h
  exact ⟨k, la, ra, hk _ _ _ h1 (hard_o (Or.inr (Or.inl rfl))), h2.kp hk, h3.kp hk⟩
theorem isE.kp {G : xG} {ws w : va_W} {a : Nat} {x : EE} (hk : kp ws w) (h : isE G ws a x) : isE G w a x := by
  obtain ⟨k, sa, h1, h2⟩ := h
  exact ⟨k, sa, hk _ _ _ h1 (hard_o (Or.inr (Or.inr (Or.inl rfl)))), h2.kp hk⟩
theorem isC.kp {G : xG} {ws w : va_W} {a : Nat} {x : KK} (hk : kp ws w) (h : isC G ws a x) : isC G w a x := by
  obtain ⟨k, xa, ya, za, h1, h2, h3, h4⟩ := h
  exact ⟨k, xa, ya, za, hk _ _ _ h1 (hard_o (Or.inr (Or.inr (Or.inr rfl)))), h2.kp hk, h3.kp hk, h4.kp hk⟩
theorem isV.O {G : xG} {ws : va_W} {a : Nat} {x : VV} (h : isV G ws a x) : isO ws a := by obtain ⟨k, la, ra, h1, -⟩ := h; exact ⟨k, 2, _, h1, Or.inl rfl⟩
theorem isE.O {G : xG} {ws : va_W} {a : Nat} {x : EE} (h : isE G ws a x) : isO ws a := by obtain ⟨k, sa, h1, -⟩ := h; exact ⟨k, 3, _, h1, Or.inr (Or.inl rfl)⟩
theorem isC.O {G : xG} {ws : va_W} {a : Nat} {x : KK} (h : isC G ws a x) : isO ws a := by obtain ⟨k, xa, ya, za, h1, -⟩ := h; exact ⟨k, 4, _, h1, Or.inr (Or.inr rfl)⟩
theorem keep2.kp {G : xG} {ws w : va_W} {kl : Nat} {ka : Option Nat} {al n : Nat} {g : Nat → Nat} (hL : isL G ws kl ka al n g) (h : keep2 kl ka ws w) : kp ws w := by
  obtain ⟨mo, ea, h0, hd⟩ := hL
  intro k a e hk hh
  refine h.1 k _ hk ?_ ?_
  · rintro rfl
    have := w_fn hk h0
    cases this
    rcases hh with ⟨ci, fs, e1, e2⟩ | ⟨c, m, f, e1, -⟩
    · cases e1; omega
    · cases e1
  · rintro rfl
    rcases hd with ⟨e1, -⟩ | ⟨k2, cap, f2, e1, e2, -⟩
    · cases e1
    · cases e1
      have := w_fn hk e2
      cases this
      rcases hh with ⟨ci, fs, e3, e4⟩ | ⟨c, m, f, e3, -⟩
      · cases e3
      · cases e3
theorem isL.app {G : xG} {ws m : va_W} {kl : Nat} {ka : Option Nat} {al n : Nat} {g : Nat → Nat} (h : isL G ws kl ka al n g) : isL G (ws ++ m) kl ka al n g := by
  obtain ⟨mo, ea, h0, hd⟩ := h
  refine ⟨mo, ea, w_app h0, ?_⟩
  rcases hd with h | ⟨k, cap, f, h1, h2, h3⟩
  · exact Or.inl h
  · exact Or.inr ⟨k, cap, f, h1, w_app h2, h3⟩
/-- another list, while one grows -/
theorem isL.other {G : xG} {ws w : va_W} {kl kl2 : Nat} {ka ka2 : Option Nat} {al al2 n n2 : Nat} {g g2 : Nat → Nat} (hL : isL G ws kl ka al n g) (h : isL G ws kl2 ka2 al2 n2 g2) (hk : keep2 kl ka ws w) (h1 : kl2 ≠ kl) (h2 : ∀ k, ka2 = some k → ka ≠ some k) : isL G w kl2 ka2 al2 n2 g2 := by
  obtain ⟨mo, ea, h0, hd⟩ := hL
  obtain ⟨mo2, ea2, h02, hd2⟩ := h
  refine ⟨mo2, ea2, hk.1 _ _ h02 h1 ?_, ?_⟩
  · rintro rfl
    rcases hd with ⟨e1, -⟩ | ⟨k, cap, f, e1, e2, -⟩
    · cases e1
    · cases e1
      have := w_fn h02 e2
      cases this
  · rcases hd2 with h | ⟨k, cap, f, e1, e2, e3⟩
    · exact Or.inl h
    · refine Or.inr ⟨k, cap, f, e1, hk.1 _ _ e2 ?_ (h2 k e1), e3⟩
      exact w_dif e2 h0 (by simp)
/-- a cell of another kind, while a list grows -/
theorem keep2.at {G : xG} {ws w : va_W} {kl : Nat} {ka : Option Nat} {al n : Nat} {g : Nat → Nat} (hL : isL G ws kl ka al n g) (hk : keep2 kl ka ws w) {k a : Nat} {e : va_E} (h : ws[k]? = some (a, e)) (h1 : k ≠ kl) (h2 : ∀ (c : ClassId) (m : Nat) (f : Nat → Option Nat), e ≠ .inl (c, m, .inr (.inr (.inr (.inr f))))) : w[k]? = some (a, e) := by
  obtain ⟨mo, ea, h0, hd⟩ := hL
  refine hk.1 _ _ h h1 ?_
  rintro rfl
  rcases hd with ⟨e1, -⟩ | ⟨k2, cap, f, e1, e2, -⟩
  · cases e1
  · cases e1
    have := w_fn h e2
    cases this
    exact h2 _ _ _ rfl
def inj (n : Nat) (g : Nat → Nat) : Prop := ∀ i j, i < n → j < n → g i = g j → i = j
def aprt (kV kE kK : Option Nat) : Prop := (∀ k, kV = some k → kE ≠ some k ∧ kK ≠ some k) ∧ ∀ k, kE = some k → kK ≠ some k
def rows2 (G : xG) (ws : va_W) (wa da : Nat) (w d : Nat → Nat) : Prop := ∃ (kw kd : Nat) (hw hd : Nat → Int32), ((kw = 8 ∧ kd = 9) ∨ (kw = 9 ∧ kd = 8)) ∧ ws[kw]? = some (wa, aI G 60 hw) ∧ ws[kd]? = some (da, aI G 60 hd) ∧ (∀ j, j < 60 → hw j = nI (w j)) ∧ (∀ j, j < 60 → w j < 97) ∧ (∀ j, j < 60 → hd j = nI (d j)) ∧ ∀ j, j < 60 → d j < 97
def CCx (G : xG) (ws : va_W) (o z u lv le lk wa da : Nat) (kV kE kK : Option Nat) (gV gE gK : Nat → Nat) (V : List VV) (E : List EE) (K : List KK) (inp : Nat) (w d : Nat → Nat) (wV wC : Nat) : Prop :=
  ws[0]? = some (o, .inr (0, [.ref z, .ref u, .ref lv, .ref le, .ref lk, .int (nI inp), .ref wa, .ref da, .int (nI wV), .int (nI wC)])) ∧
  isS G ws z (fun _ => 0) ∧ isS G ws u (unit 0) ∧
  isL G ws 5 kV lv V.length gV ∧ isL G ws 6 kE le E.length gE ∧ isL G ws 7 kK lk K.length gK ∧
  (∀ i x, V[i]? = some x → isV G ws (gV i) x) ∧ (∀ i x, E[i]? = some x → isE G ws (gE i) x) ∧ (∀ i x, K[i]? = some x → isC G ws (gK i) x) ∧
  aprt kV kE kK ∧ inj V.length gV ∧ rows2 G ws wa da w d ∧ 10 ≤ ws.length
def CCs (G : xG) (ws : va_W) (o z u lv le lk : Nat) (V : List VV) (E : List EE) (K : List KK) (inp : Nat) (w d : Nat → Nat) (wV wC : Nat) : Prop :=
  ∃ (wa da : Nat) (kV kE kK : Option Nat) (gV gE gK : Nat → Nat), CCx G ws o z u lv le lk wa da kV kE kK gV gE gK V E K inp w d wV wC
theorem rows2.app {G : xG} {ws n : va_W} {wa da : Nat} {w d : Nat → Nat} (h : rows2 G ws wa da w d) : rows2 G (ws ++ n) wa da w d := by
  obtain ⟨kw, kd, hw, hd, h0, h1, h2, h3⟩ := h
  exact ⟨kw, kd, hw, hd, h0, w_app h1, w_app h2, h3⟩
theorem CCx.app {G : xG} {ws n : va_W} {o z u lv le lk wa da : Nat} {kV kE kK : Option Nat} {gV gE gK : Nat → Nat} {V : List VV} {E : List EE} {K : List KK} {inp : Nat} {w d : Nat → Nat} {wV wC : Nat} (h : CCx G ws o z u lv le lk wa da kV kE kK gV gE gK V E K inp w d wV wC) : CCx G (ws ++ n) o z u lv le lk wa da kV kE kK gV gE gK V E K inp w d wV wC := by
  obtain ⟨h1, h2, h3, h4, h5, h6, h7, h8, h9, h10, h11, h12, h13⟩ := h
  exact ⟨w_app h1, h2.kp kp.app, h3.kp kp.app, h4.app, h5.app, h6.app, fun i x hx => (h7 i x hx).kp kp.app, fun i x hx => (h8 i x hx).kp kp.app, fun i x hx => (h9 i x hx).kp kp.app, h10, h11, h12.app, by rw [List.length_append]; omega⟩
theorem CCx.put0 {G : xG} {ws : va_W} {o z u lv le lk wa da wa2 da2 : Nat} {kV kE kK : Option Nat} {gV gE gK : Nat → Nat} {V : List VV} {E : List EE} {K : List KK} {inp inp2 : Nat} {w d w2 d2 : Nat → Nat} {wV wC wV2 wC2 : Nat} (h : CCx G ws o z u lv le lk wa da kV kE kK gV gE gK V E K inp w d wV wC) (hr : rows2 G ws wa2 da2 w2 d2) :
    CCx G (ws.set 0 (o, .inr (0, [.ref z, .ref u, .ref lv, .ref le, .ref lk, .int (nI inp2), .ref wa2, .ref da2, .int (nI wV2), .int (nI wC2)]))) o z u lv le lk wa2 da2 kV kE kK gV gE gK V E K inp2 w2 d2 wV2 wC2 ∧ kp ws (ws.set 0 (o, .inr (0, [.ref z, .ref u, .ref lv, .ref le, .ref lk, .int (nI inp2), .ref wa2, .ref da2, .int (nI wV2), .int (nI wC2)]))) := by
  obtain ⟨h1, h2, h3, h4, h5, h6, h7, h8, h9, h10, h11, h12, h13⟩ := h
  have kk : kp ws (ws.set 0 (o, .inr (0, [.ref z, .ref u, .ref lv, .ref le, .ref lk, .int (nI inp2), .ref wa2, .ref da2, .int (nI wV2), .int (nI wC2)]))) := by
    intro k a e hk hh
    refine w_ne ?_ hk
    rintro rfl
    have := w_fn hk h1
    cases this
    rcases hh with ⟨ci, fs, e1, e2⟩ | ⟨c, m, f, e1, -⟩
    · cases e1; omega
    · cases e1
  have kl : ∀ {kl2 : Nat} {kb : Option Nat} {al2 n2 : Nat} {g2 : Nat → Nat}, 0 ≠ kl2 → isL G ws kl2 kb al2 n2 g2 → isL G (ws.set 0 (o, .inr (0, [.ref z, .ref u, .ref lv, .ref le, .ref lk, .int (nI inp2), .ref wa2, .ref da2, .int (nI wV2), .int (nI wC2)]))) kl2 kb al2 n2 g2 := by
    intro kl2 kb al2 n2 g2 hne q
    obtain ⟨mo, ea, q0, qd⟩ := q
    refine ⟨mo, ea, w_ne hne q0, ?_⟩
    rcases qd with h | ⟨k, cap, f, e1, e2, e3⟩
    · exact Or.inl h
    · exact Or.inr ⟨k, cap, f, e1, w_ne (w_dif h1 e2 (by simp)) e2, e3⟩
  refine ⟨⟨w_eq h1, h2.kp kk, h3.kp kk, kl (by decide) h4, kl (by decide) h5, kl (by decide) h6, fun i x hx => (h7 i x hx).kp kk, fun i x hx => (h8 i x hx).kp kk, fun i x hx => (h9 i x hx).kp kk, h10, h11, ?_, by rw [w_setlen]; exact h13⟩, kk⟩
  obtain ⟨kw, kd, hw, hd, e0, e1, e2, e3⟩ := hr
  exact ⟨kw, kd, hw, hd, e0, w_ne (by omega) e1, w_ne (by omega) e2, e3⟩
theorem CCs.app {G : xG} {ws n : va_W} {o z u lv le lk : Nat} {V : List VV} {E : List EE} {K : List KK} {inp : Nat} {w d : Nat → Nat} {wV wC : Nat} (h : CCs G ws o z u lv le lk V E K inp w d wV wC) : CCs G (ws ++ n) o z u lv le lk V E K inp w d wV wC := by
  obtain ⟨wa, da, kV, kE, kK, gV, gE, gK, h⟩ := h
  exact ⟨wa, da, kV, kE, kK, gV, gE, gK, h.app⟩
theorem up_lt {g : Nat → Nat} {n v i : Nat} (h : i < n) : va_up g n v i = g i := by unfold va_up; rw [if_neg (by omega)]
theorem up_at {g : Nat → Nat} {n v : Nat} : va_up g n v n = v := by unfold va_up; rw [if_pos rfl]
theorem V_get {α : Type} {V : List α} {i : Nat} (h : i < V.length) : ∃ x, V[i]? = some x := ⟨V[i], List.getElem?_eq_getElem h⟩
theorem V_app {α : Type} {V : List α} {x y : α} {i : Nat} (h : (V ++ [x])[i]? = some y) : (i < V.length ∧ V[i]? = some y) ∨ (i = V.length ∧ y = x) := by
  by_cases hl : i < V.length
  · rw [List.getElem?_append_left hl] at h
    exact Or.inl ⟨hl, h⟩
  · rw [List.getElem?_append_right (by omega)] at h
    have h2 : i - V.length < 1 := (List.getElem?_eq_some_iff.mp h).1
    have h3 : i = V.length := by omega
    subst h3
    rw [Nat.sub_self] at h
    cases h
    exact Or.inr ⟨rfl, rfl⟩

theorem CCx.addV {G : xG} {ws w9 : va_W} {o z u lv le lk wa da : Nat} {kV kE kK ka9 : Option Nat} {gV gE gK : Nat → Nat} {V : List VV} {E : List EE} {K : List KK} {inp : Nat} {w d : Nat → Nat} {wV wC v : Nat} {x : VV} (h : CCx G ws o z u lv le lk wa da kV kE kK gV gE gK V E K inp w d wV wC) (hL : isL G w9 5 ka9 lv (V.length + 1) (va_up gV V.length v)) (hk : keep2 5 kV ws w9) (hka : ka9 = kV ∨ ka9 = some ws.length) (hx : isV G w9 v x) (hn : ∀ i, i < V.length → gV i ≠ v) : CCx G w9 o z u lv le lk wa da ka9 kE kK (va_up gV V.length v) gE gK (V ++ [x]) E K inp w d wV wC := by
  obtain ⟨h1, h2, h3, h4, h5, h6, h7, h8, h9, ⟨a1, a2⟩, h11, h12, h13⟩ := h
  have kk := keep2.kp h4 hk
  have lt : ∀ {kl2 : Nat} {kb : Option Nat} {al2 n2 : Nat} {g2 : Nat → Nat}, isL G ws kl2 kb al2 n2 g2 → ∀ k, kb = some k → k < ws.length := by
    intro kl2 kb al2 n2 g2 q k e
    obtain ⟨mo, ea, q0, qd⟩ := q
    rcases qd with ⟨e1, -⟩ | ⟨k3, cap, f, e1, e2, -⟩
    · rw [e1] at e; cases e
    · rw [e1] at e; cases e; exact w_lt e2
  have newl : ((V ++ [x]).length = V.length + 1) := by simp
  have ne0 : ∀ (c : ClassId) (m : Nat) (f : Nat → Option Nat) (cI : ClassId) (n : Nat) (hh : Nat → Int32), (Sum.inl (cI, n, Sum.inl hh) : va_E) ≠ .inl (c, m, .inr (.inr (.inr (.inr f)))) := fun c m f cI n hh q => by cases q
  refine ⟨keep2.at h4 hk h1 (by decide) (fun _ _ _ q => by cases q), h2.kp kk, h3.kp kk, (by rw [newl]; exact hL), (isL.other h4 h5 hk (by decide) (fun k e => fun q => (a1 k q).1 e)), (isL.other h4 h6 hk (by decide) (fun k e => fun q => (a1 k q).2 e)), ?_, (fun i y hy => (h8 i y hy).kp kk), (fun i y hy => (h9 i y hy).kp kk), ?_, ?_, ?_, Nat.le_trans h13 hk.2⟩
  · intro i y hy
    rcases V_app hy with ⟨q1, q2⟩ | ⟨rfl, rfl⟩
    · rw [up_lt q1]; exact (h7 i y q2).kp kk
    · rw [up_at]; exact hx
  · rcases hka with rfl | rfl
    · exact ⟨a1, a2⟩
    · exact ⟨fun k e => by cases e; exact ⟨fun q => absurd (lt h5 _ q) (by omega), fun q => absurd (lt h6 _ q) (by omega)⟩, a2⟩
  · intro i j hi hj e
    rw [newl] at hi hj
    unfold va_up at e
    split at e <;> split at e
    · omega
    · exact absurd e.symm (hn j (by omega))
    · exact absurd e (hn i (by omega))
    · exact h11 i j (by omega) (by omega) e
  · obtain ⟨kw, kd, hw, hd, e0, e1, e2, e3⟩ := h12
    exact ⟨kw, kd, hw, hd, e0, keep2.at h4 hk e1 (by omega) (fun _ _ _ => ne0 _ _ _ _ _ _), keep2.at h4 hk e2 (by omega) (fun _ _ _ => ne0 _ _ _ _ _ _), e3⟩

theorem CCx.addE {G : xG} {ws w9 : va_W} {o z u lv le lk wa da : Nat} {kV kE kK ka9 : Option Nat} {gV gE gK : Nat → Nat} {V : List VV} {E : List EE} {K : List KK} {inp : Nat} {w d : Nat → Nat} {wV wC v : Nat} {x : EE} (h : CCx G ws o z u lv le lk wa da kV kE kK gV gE gK V E K inp w d wV wC) (hL : isL G w9 6 ka9 le (E.length + 1) (va_up gE E.length v)) (hk : keep2 6 kE ws w9) (hka : ka9 = kE ∨ ka9 = some ws.length) (hx : isE G w9 v x) : CCx G w9 o z u lv le lk wa da kV ka9 kK gV (va_up gE E.length v) gK V (E ++ [x]) K inp w d wV wC := by
  obtain ⟨h1, h2, h3, h4, h5, h6, h7, h8, h9, ⟨a1, a2⟩, h11, h12, h13⟩ := h
  have kk := keep2.kp h5 hk
  have lt : ∀ {kl2 : Nat} {kb : Option Nat} {al2 n2 : Nat} {g2 : Nat → Nat}, isL G ws kl2 kb al2 n2 g2 → ∀ k, kb = some k → k < ws.length := by
    intro kl2 kb al2 n2 g2 q k e
    obtain ⟨mo, ea, q0, qd⟩ := q
    rcases qd with ⟨e1, -⟩ | ⟨k3, cap, f, e1, e2, -⟩
    · rw [e1] at e; cases e
    · rw [e1] at e; cases e; exact w_lt e2
  have newl : ((E ++ [x]).length = E.length + 1) := by simp
  have ne0 : ∀ (c : ClassId) (m : Nat) (f : Nat → Option Nat) (cI : ClassId) (n : Nat) (hh : Nat → Int32), (Sum.inl (cI, n, Sum.inl hh) : va_E) ≠ .inl (c, m, .inr (.inr (.inr (.inr f)))) := fun c m f cI n hh q => by cases q
  refine ⟨keep2.at h5 hk h1 (by decide) (fun _ _ _ q => by cases q), h2.kp kk, h3.kp kk, (isL.other h5 h4 hk (by decide) (fun k e => fun q => (a1 k e).1 q)), (by rw [newl]; exact hL), (isL.other h5 h6 hk (by decide) (fun k e => fun q => a2 k q e)), (fun i y hy => (h7 i y hy).kp kk), ?_, (fun i y hy => (h9 i y hy).kp kk), ?_, h11, ?_, Nat.le_trans h13 hk.2⟩
  · intro i y hy
    rcases V_app hy with ⟨q1, q2⟩ | ⟨rfl, rfl⟩
    · rw [up_lt q1]; exact (h8 i y q2).kp kk
    · rw [up_at]; exact hx
  · rcases hka with rfl | rfl
    · exact ⟨a1, a2⟩
    · exact ⟨fun k e => ⟨fun q => absurd (lt h4 _ e) (by cases q; omega), (a1 k e).2⟩, fun k e => by cases e; exact fun q => absurd (lt h6 _ q) (by omega)⟩
  · obtain ⟨kw, kd, hw, hd, e0, e1, e2, e3⟩ := h12
    exact ⟨kw, kd, hw, hd, e0, keep2.at h5 hk e1 (by omega) (fun _ _ _ => ne0 _ _ _ _ _ _), keep2.at h5 hk e2 (by omega) (fun _ _ _ => ne0 _ _ _ _ _ _), e3⟩

theorem CCx.addK {G : xG} {ws w9 : va_W} {o z u lv le lk wa da : Nat} {kV kE kK ka9 : Option Nat} {gV gE gK : Nat → Nat} {V : List VV} {E : List EE} {K : List KK} {inp : Nat} {w d : Nat → Nat} {wV wC v : Nat} {x : KK} (h : CCx G ws o z u lv le lk wa da kV kE kK gV gE gK V E K inp w d wV wC) (hL : isL G w9 7 ka9 lk (K.length + 1) (va_up gK K.length v)) (hk : keep2 7 kK ws w9) (hka : ka9 = kK ∨ ka9 = some ws.length) (hx : isC G w9 v x) (hn : ∀ i, i < K.length → gK i ≠ v) : CCx G w9 o z u lv le lk wa da kV kE ka9 gV gE (va_up gK K.length v) V E (K ++ [x]) inp w d wV wC := by
  obtain ⟨h1, h2, h3, h4, h5, h6, h7, h8, h9, ⟨a1, a2⟩, h11, h12, h13⟩ := h
  have kk := keep2.kp h6 hk
  have lt : ∀ {kl2 : Nat} {kb : Option Nat} {al2 n2 : Nat} {g2 : Nat → Nat}, isL G ws kl2 kb al2 n2 g2 → ∀ k, kb = some k → k < ws.length := by
    intro kl2 kb al2 n2 g2 q k e
    obtain ⟨mo, ea, q0, qd⟩ := q
    rcases qd with ⟨e1, -⟩ | ⟨k3, cap, f, e1, e2, -⟩
    · rw [e1] at e; cases e
    · rw [e1] at e; cases e; exact w_lt e2
  have newl : ((K ++ [x]).length = K.length + 1) := by simp
  have ne0 : ∀ (c : ClassId) (m : Nat) (f : Nat → Option Nat) (cI : ClassId) (n : Nat) (hh : Nat → Int32), (Sum.inl (cI, n, Sum.inl hh) : va_E) ≠ .inl (c, m, .inr (.inr (.inr (.inr f)))) := fun c m f cI n hh q => by cases q
  refine ⟨keep2.at h6 hk h1 (by decide) (fun _ _ _ q => by cases q), h2.kp kk, h3.kp kk, (isL.other h6 h4 hk (by decide) (fun k e => fun q => (a1 k e).2 q)), (isL.other h6 h5 hk (by decide) (fun k e => fun q => a2 k e q)), (by rw [newl]; exact hL), (fun i y hy => (h7 i y hy).kp kk), (fun i y hy => (h8 i y hy).kp kk), ?_, ?_, h11, ?_, Nat.le_trans h13 hk.2⟩
  · intro i y hy
    rcases V_app hy with ⟨q1, q2⟩ | ⟨rfl, rfl⟩
    · rw [up_lt q1]; exact (h9 i y q2).kp kk
    · rw [up_at]; exact hx
  · rcases hka with rfl | rfl
    · exact ⟨a1, a2⟩
    · exact ⟨fun k e => ⟨(a1 k e).1, fun q => absurd (lt h4 _ e) (by cases q; omega)⟩, fun k e q => absurd (lt h5 _ e) (by cases q; omega)⟩
  · obtain ⟨kw, kd, hw, hd, e0, e1, e2, e3⟩ := h12
    exact ⟨kw, kd, hw, hd, e0, keep2.at h6 hk e1 (by omega) (fun _ _ _ => ne0 _ _ _ _ _ _), keep2.at h6 hk e2 (by omega) (fun _ _ _ => ne0 _ _ _ _ _ _), e3⟩
end
section
/-- an expression that was made -/
def md (n : Nat) (x : Int32) : Prop := ∃ j, j < n ∧ x = nI j
theorem md_neg {n : Nat} {x : Int32} (hn : n < 2 ^ 31) (h : x < 0) : ¬ md n x := fun ⟨j, hj, e⟩ => by rw [e] at h; exact nI_pos (by omega) h
theorem md_iff {n j : Nat} (hn : n < 2 ^ 31) (hj : j < 2 ^ 31) : md n (nI j) ↔ j < n := ⟨fun ⟨i, hi, e⟩ => by rw [nI_eq hj (by omega)] at e; omega, fun h => ⟨j, h, rfl⟩⟩
def ix (x : Int32) : Nat := x.toNatClampNeg
theorem ix_nI {j : Nat} (h : j < 2 ^ 31) : ix (nI j) = j := nI_clamp h
/-- the sum of an expression -/
def sE (E : List EE) (i : Nat) : Nat → Nat := match E[i]? with
  | some x => x.1
  | none => fun _ => 0
theorem sE_of {E : List EE} {i : Nat} {x : EE} (h : E[i]? = some x) : sE E i = x.1 := by unfold sE; rw [h]
def cp (f g : Nat → Nat) : Nat := if lastV f 59 = 0 ∨ lastV g 59 = 0 then 0 else 1
theorem cp_le (f g : Nat → Nat) : cp f g ≤ 1 := by unfold cp; split <;> omega
/-- the constraints that an expression needs -/
def nd (kd : Nat) (E : List EE) (x1 x2 x3 : Int32) : Nat :=
  if kd = 4 then cp (sE E (ix x1)) (sE E (ix x2)) else if kd = 5 then 2 else if kd = 6 then 2 else if kd = 7 then cp (sE E (ix x3)) (cmb 1 (sE E (ix x1)) 96 (sE E (ix x2))) else if kd = 9 then (ix x2 - 1) * cp (sE E (ix x1)) (sE E (ix x1)) else 0
/-- kind and what it names are in order -/
def wfd (kd n : Nat) (x1 x2 x3 : Int32) : Prop := kd ≤ 9 ∧ (2 ≤ kd → md n x1) ∧ (2 ≤ kd → kd ≤ 7 → md n x2) ∧ (kd = 7 → md n x3) ∧ (kd = 9 → ∃ b, 1 ≤ b ∧ b ≤ 5 ∧ x2 = nI b)
theorem CCs.len {G : xG} {ws : va_W} {o z u lv le lk : Nat} {V : List VV} {E : List EE} {K : List KK} {inp : Nat} {w d : Nat → Nat} {wV wC : Nat} (h : CCs G ws o z u lv le lk V E K inp w d wV wC) : 10 ≤ ws.length := by
  obtain ⟨wa, da, kV, kE, kK, gV, gE, gK, h⟩ := h
  exact h.2.2.2.2.2.2.2.2.2.2.2.2
theorem mkS_CC {G : xG} {ws w9 : va_W} {o z u lv le lk : Nat} {V : List VV} {E : List EE} {K : List KK} {inp : Nat} {w d : Nat → Nat} {wV wC r : Nat} {f : Nat → Nat} (h : CCs G ws o z u lv le lk V E K inp w d wV wC) (hm : mkS G ws f r w9) (hf : ∀ j, j < 60 → f j < 97) : CCs G w9 o z u lv le lk V E K inp w d wV wC ∧ kp ws w9 ∧ isS G w9 r f := by
  have hl := h.len
  refine ⟨?_, ?_, hm.isS ⟨by omega, by omega⟩ hf⟩
  · obtain ⟨n, rfl⟩ := hm.app
    exact h.app
  · obtain ⟨n, rfl⟩ := hm.app
    exact kp.app
theorem unit_lt (v j : Nat) : unit v j < 97 := by unfold unit; split <;> omega

set_option maxHeartbeats 4000000 in
set_option maxRecDepth 100000 in
theorem c_isMade (l : Launch) (G : xG) (A : Nat → Prop) (ws : va_W) (o z u lv le lk : Nat) (V : List VV) (E : List EE) (K : List KK) (inp : Nat) (w d : Nat → Nat) (wV wC : Nat) (hR : CCs G ws o z u lv le lk V E K inp w d wV wC) (bE : E.length ≤ 60) (x : Int32) : Met l y_C_isMade (cw_C_isMade :: TW) { frames := 2, cells := 0, slots := 0, locals := 52 } (va_Pc [.ref o, .int x] (x_P G A ws)) (qI G A (fun r w9 => ws = w9 ∧ ((r = nI 1 ∧ md E.length x) ∨ (r = nI 0 ∧ ¬ md E.length x)))) 0 0 A := by
  refine Met.ofW (cc := b_C_isMade) (maxL := 2) (ret := (some .boolean)) (by decide) rfl ?_
  intro p e s m args below meth c s₁ B hml hv
  obtain ⟨rfl, hE, hA, hP, hD⟩ := hv
  have hx := B.exec
  have hb := B.bytes
  have hr := B.returns
  have ht : ∀ w ∈ TW, w.before _ s = true := fun w h => atoms_spec (ws := cw_C_isMade :: TW) B.pre w (List.mem_cons_of_mem _ h)
  have hown : s.vm.findClass R_C = some m.cls := findClass_of_methodNamed B.named
  have hlocks := B.notSynchronized
  have hK := hE.1
  have hS : va_S A s.heap s.heap [] := va_S.rf
  have hl := lv_entry ([.ref o, .int x]) (n := 2) (Nat.le_of_ble_eq_true rfl)
  rw [lg_entry_eq]
  generalize (lg_sl ([.ref o, .int x]) ++ List.replicate (2 - (lg_sl ([.ref o, .int x])).length) Slot.unset).toArray = ls at hl ⊢
  have hl : lv_has ls 2 [(0, .ref o), (1, .int x)] := hl
  obtain ⟨wa, da, kV, kE, kK, gV, gE, gK, hX⟩ := id hR
  obtain ⟨x1, x2, x3, x4, x5, x6, x7, x8, x9, x10, x11, x12, x13⟩ := id hX
  obtain ⟨mo_v, ae_v, li_v, -⟩ := id x4
  obtain ⟨mo_e, ae_e, li_e, -⟩ := id x5
  obtain ⟨mo_k, ae_k, li_k, -⟩ := id x6
  refine lv_iload_n hx hb d_C_isMade_0 rfl (lv_at hl 1 rfl) ?_
  refine lv_if_lt (tgt := 19) hx hb d_C_isMade_1 (by decide) (fun c1 => ?_) (fun c1 => ?_)
  · refine lv_iconst (v := (nI 0)) hx hb d_C_isMade_19 (by decide) ?_
    exact x_zret hx hb hr hlocks hS hP hD (Nat.le_of_ble_eq_true rfl) (Nat.le_of_ble_eq_true rfl) d_C_isMade_20 rfl (⟨rfl, Or.inr ⟨rfl, md_neg (by omega) c1⟩⟩)
  obtain ⟨j, hj, rfl⟩ := nI_of c1
  refine lv_iload_n hx hb d_C_isMade_4 rfl (lv_at hl 1 rfl) ?_
  refine lv_aload_n hx hb d_C_isMade_5 rfl (lv_at hl 0 rfl) ?_
  refine va_get (D := xD G) (ci := 0) (C := R_C) (T := F_C) (N := 10) hx hb ht in_C hown hK hP 0 x1 rfl 3 (by decide) (ht _ k_fl_C_30) (fun _ h9 => h9) rfl d_C_isMade_6 ?_
  refine x_calli (va_runV (As := []) (rest := [.int (nI j)]) ⟨hx, hb, hml, hown, ht⟩ (c_A_size l G A ws 6 kE le E.length gE x5) (cwV 0 ht (TW_V k_ml_C_78 k_im_A_size k_se_A_size k_in_A k_code_A_size) rfl rfl rfl hv_A_size ⟨Nat.le_of_ble_eq_true rfl, Nat.le_of_ble_eq_true rfl⟩) ⟨x_blind, va_recv hK hP rfl li_e, x_pre hE hA hS hP hD⟩ rfl rfl hl.1 rfl (lv_room (Nat.le_of_ble_eq_true rfl)) d_C_isMade_9 ⟨Nat.le_of_ble_eq_true rfl, Nat.le_of_ble_eq_true rfl⟩) hS (fun r3 w2 H locs q1 hP hD hS => ?_)
  obtain ⟨rfl, rfl⟩ := q1
  refine x_ge hx hb j E.length rfl rfl (by omega) (by omega) (tgt := 19) d_C_isMade_12 (by decide) (fun c4 => ?_) (fun c4 => ?_)
  · refine lv_iconst (v := (nI 0)) hx hb d_C_isMade_19 (by decide) ?_
    exact x_zret hx hb hr hlocks hS hP hD (Nat.le_of_ble_eq_true rfl) (Nat.le_of_ble_eq_true rfl) d_C_isMade_20 rfl (⟨rfl, Or.inr ⟨rfl, fun q => by rw [md_iff (by omega) hj] at q; omega⟩⟩)
  · refine lv_iconst (v := (nI 1)) hx hb d_C_isMade_15 (by decide) ?_
    refine lv_goto (tgt := 20) hx hb d_C_isMade_16 (by decide) ?_
    exact x_zret hx hb hr hlocks hS hP hD (Nat.le_of_ble_eq_true rfl) (Nat.le_of_ble_eq_true rfl) d_C_isMade_20 rfl (⟨rfl, Or.inl ⟨rfl, (md_iff (by omega) hj).mpr c4⟩⟩)

set_option maxHeartbeats 4000000 in
set_option maxRecDepth 100000 in
theorem c_sumOf (l : Launch) (G : xG) (A : Nat → Prop) (ws : va_W) (o z u lv le lk : Nat) (V : List VV) (E : List EE) (K : List KK) (inp : Nat) (w d : Nat → Nat) (wV wC : Nat) (hR : CCs G ws o z u lv le lk V E K inp w d wV wC) (bE : E.length ≤ 60) (j : Nat) (hj : j < E.length) : Met l y_C_sumOf (cw_C_sumOf :: TW) { frames := 4, cells := 0, slots := 0, locals := 104 } (va_Pc [.ref o, .int (nI j)] (x_P G A ws)) (qR G A (fun r w9 => ws = w9 ∧ isS G ws r (sE E j))) 0 0 A := by
  refine Met.ofW (cc := b_C_sumOf) (maxL := 2) (ret := (some (.object "ConstraintCompiler$Sum"))) (by decide) rfl ?_
  intro p e s m args below meth c s₁ B hml hv
  obtain ⟨rfl, hE, hA, hP, hD⟩ := hv
  have hx := B.exec
  have hb := B.bytes
  have hr := B.returns
  have ht : ∀ w ∈ TW, w.before _ s = true := fun w h => atoms_spec (ws := cw_C_sumOf :: TW) B.pre w (List.mem_cons_of_mem _ h)
  have hown : s.vm.findClass R_C = some m.cls := findClass_of_methodNamed B.named
  have hlocks := B.notSynchronized
  have hK := hE.1
  have hS : va_S A s.heap s.heap [] := va_S.rf
  have hl := lv_entry ([.ref o, .int (nI j)]) (n := 2) (Nat.le_of_ble_eq_true rfl)
  rw [lg_entry_eq]
  generalize (lg_sl ([.ref o, .int (nI j)]) ++ List.replicate (2 - (lg_sl ([.ref o, .int (nI j)])).length) Slot.unset).toArray = ls at hl ⊢
  have hl : lv_has ls 2 [(0, .ref o), (1, .int (nI j))] := hl
  obtain ⟨wa, da, kV, kE, kK, gV, gE, gK, hX⟩ := id hR
  obtain ⟨x1, x2, x3, x4, x5, x6, x7, x8, x9, x10, x11, x12, x13⟩ := id hX
  obtain ⟨mo_v, ae_v, li_v, -⟩ := id x4
  obtain ⟨mo_e, ae_e, li_e, -⟩ := id x5
  obtain ⟨mo_k, ae_k, li_k, -⟩ := id x6
  obtain ⟨y, hy⟩ := V_get hj
  refine lv_aload_n hx hb d_C_sumOf_0 rfl (lv_at hl 0 rfl) ?_
  refine va_get (D := xD G) (ci := 0) (C := R_C) (T := F_C) (N := 10) hx hb ht in_C hown hK hP 0 x1 rfl 3 (by decide) (ht _ k_fl_C_30) (fun _ h9 => h9) rfl d_C_sumOf_1 ?_
  refine lv_iload_n hx hb d_C_sumOf_4 rfl (lv_at hl 1 rfl) ?_
  refine x_callr (va_runV (As := [.int (nI j)]) (rest := []) ⟨hx, hb, hml, hown, ht⟩ (c_A_get l G A ws 6 kE le E.length j gE x5 hj (by omega)) (cwV 1 ht (TW_V k_ml_C_104 k_im_A_get k_se_A_get k_in_A k_code_A_get) rfl rfl rfl hv_A_get ⟨Nat.le_of_ble_eq_true rfl, Nat.le_of_ble_eq_true rfl⟩) ⟨x_blind, va_recv hK hP rfl li_e, x_pre hE hA hS hP hD⟩ rfl rfl hl.1 rfl (lv_room (Nat.le_of_ble_eq_true rfl)) d_C_sumOf_5 ⟨Nat.le_of_ble_eq_true rfl, Nat.le_of_ble_eq_true rfl⟩) hS (fun r3 w2 H locs q1 hP hD hS => ?_)
  obtain ⟨rfl, rfl⟩ := q1
  obtain ⟨ke, sa, e1, e2⟩ := x8 j y hy
  refine va_castY hx hb hown (ht _ k_cl_C_69) (hE.2.2.2.2.2.2.2 _ k_ca_E_E) (va_recv hK hP rfl e1) d_C_sumOf_8 ?_
  refine va_get (D := xD G) (ci := 3) (C := R_E) (T := F_E) (N := 2) hx hb ht in_E hown hK hP ke e1 rfl 0 (by decide) (ht _ k_fl_C_192) (fun _ h9 => h9) rfl d_C_sumOf_11 ?_
  exact x_aret hx hb hr (Or.inl ⟨_, rfl⟩) hlocks hS hP hD (Nat.le_of_ble_eq_true rfl) (Nat.le_of_ble_eq_true rfl) d_C_sumOf_14 (⟨rfl, by rw [sE_of hy]; exact e2⟩)

set_option maxHeartbeats 4000000 in
set_option maxRecDepth 100000 in
theorem c_diff (l : Launch) (G : xG) (A : Nat → Prop) (ws : va_W) (o z u lv le lk : Nat) (V : List VV) (E : List EE) (K : List KK) (inp : Nat) (w d : Nat → Nat) (wV wC : Nat) (hR : CCs G ws o z u lv le lk V E K inp w d wV wC) (bE : E.length ≤ 60) (a b : Nat) (ha : a < E.length) (hb9 : b < E.length) : Met l y_C_difference (cw_C_difference :: TW) { frames := 5, cells := 2, slots := 61, locals := 130 } (va_Pc [.ref o, .int (nI a), .int (nI b)] (x_P G A ws)) (qR G A (mkS G ws (cmb 1 (sE E a) 96 (sE E b)))) 2 61 A := by
  refine Met.ofW (cc := b_C_difference) (maxL := 3) (ret := (some (.object "ConstraintCompiler$Sum"))) (by decide) rfl ?_
  intro p e s m args below meth c s₁ B hml hv
  obtain ⟨rfl, hE, hA, hP, hD⟩ := hv
  have hx := B.exec
  have hb := B.bytes
  have hr := B.returns
  have ht : ∀ w ∈ TW, w.before _ s = true := fun w h => atoms_spec (ws := cw_C_difference :: TW) B.pre w (List.mem_cons_of_mem _ h)
  have hown : s.vm.findClass R_C = some m.cls := findClass_of_methodNamed B.named
  have hlocks := B.notSynchronized
  have hK := hE.1
  have hS : va_S A s.heap s.heap [] := va_S.rf
  have hl := lv_entry ([.ref o, .int (nI a), .int (nI b)]) (n := 3) (Nat.le_of_ble_eq_true rfl)
  rw [lg_entry_eq]
  generalize (lg_sl ([.ref o, .int (nI a), .int (nI b)]) ++ List.replicate (3 - (lg_sl ([.ref o, .int (nI a), .int (nI b)])).length) Slot.unset).toArray = ls at hl ⊢
  have hl : lv_has ls 3 [(0, .ref o), (1, .int (nI a)), (2, .int (nI b))] := hl
  obtain ⟨wa, da, kV, kE, kK, gV, gE, gK, hX⟩ := id hR
  obtain ⟨x1, x2, x3, x4, x5, x6, x7, x8, x9, x10, x11, x12, x13⟩ := id hX
  obtain ⟨mo_v, ae_v, li_v, -⟩ := id x4
  obtain ⟨mo_e, ae_e, li_e, -⟩ := id x5
  obtain ⟨mo_k, ae_k, li_k, -⟩ := id x6
  refine lv_aload_n hx hb d_C_difference_0 rfl (lv_at hl 0 rfl) ?_
  refine lv_iload_n hx hb d_C_difference_1 rfl (lv_at hl 1 rfl) ?_
  refine x_callr (va_runV (As := [.int (nI a)]) (rest := []) ⟨hx, hb, hml, hown, ht⟩ (c_sumOf l G A ws o z u lv le lk V E K inp w d wV wC hR bE a ha) (cwV 1 ht (TW_V k_ml_C_94 k_im_C_sumOf k_se_C_sumOf k_in_C k_code_C_sumOf) rfl rfl rfl hv_C_sumOf ⟨Nat.le_of_ble_eq_true rfl, Nat.le_of_ble_eq_true rfl⟩) ⟨x_blind, va_recv hK hP rfl x1, x_pre hE hA hS hP hD⟩ rfl rfl hl.1 rfl (lv_room (Nat.le_of_ble_eq_true rfl)) d_C_difference_2 ⟨Nat.le_of_ble_eq_true rfl, Nat.le_of_ble_eq_true rfl⟩) hS (fun r3 w2 H locs q1 hP hD hS => ?_)
  obtain ⟨rfl, i1⟩ := q1
  obtain ⟨kA, jA, cA, fA, pA, qA, nA, oA, eA, bA⟩ := id i1
  refine lv_aload_n hx hb d_C_difference_5 rfl (lv_at hl 0 rfl) ?_
  refine lv_iload_n hx hb d_C_difference_6 rfl (lv_at hl 2 rfl) ?_
  refine x_callr (va_runV (As := [.int (nI b)]) (rest := [.ref r3]) ⟨hx, hb, hml, hown, ht⟩ (c_sumOf l G A ws o z u lv le lk V E K inp w d wV wC hR bE b hb9) (cwV 1 ht (TW_V k_ml_C_94 k_im_C_sumOf k_se_C_sumOf k_in_C k_code_C_sumOf) rfl rfl rfl hv_C_sumOf ⟨Nat.le_of_ble_eq_true rfl, Nat.le_of_ble_eq_true rfl⟩) ⟨x_blind, va_recv hK hP rfl x1, x_pre hE hA hS hP hD⟩ rfl rfl hl.1 rfl (lv_room (Nat.le_of_ble_eq_true rfl)) d_C_difference_7 ⟨Nat.le_of_ble_eq_true rfl, Nat.le_of_ble_eq_true rfl⟩) hS (fun r6 w5 H locs q4 hP hD hS => ?_)
  obtain ⟨rfl, i2⟩ := q4
  refine x_callr (va_runV (As := [.ref r6]) (rest := []) ⟨hx, hb, hml, hown, ht⟩ (c_S_minus l G A ws r3 r6 _ _ i1 i2) (cwV 1 ht (TW_V k_ml_C_97 k_im_S_minus k_se_S_minus k_in_S k_code_S_minus) rfl rfl rfl hv_S_minus ⟨Nat.le_of_ble_eq_true rfl, Nat.le_of_ble_eq_true rfl⟩) ⟨x_blind, va_recv hK hP rfl pA, x_pre hE hA hS hP hD⟩ rfl rfl hl.1 rfl (lv_room (Nat.le_of_ble_eq_true rfl)) d_C_difference_10 ⟨Nat.le_of_ble_eq_true rfl, Nat.le_of_ble_eq_true rfl⟩) hS (fun r9 w8 H locs q7 hP hD hS => ?_)
  refine W.widen (k := 2) (n := 61) (Nat.le_of_ble_eq_true rfl) (Nat.le_of_ble_eq_true rfl) ?_
  exact x_aret hx hb hr (Or.inl ⟨_, rfl⟩) hlocks hS hP hD (Nat.le_of_ble_eq_true rfl) (Nat.le_of_ble_eq_true rfl) d_C_difference_13 (q7)

set_option maxHeartbeats 4000000 in
set_option maxRecDepth 100000 in
theorem c_cop (l : Launch) (G : xG) (A : Nat → Prop) (ws : va_W) (a b : Nat) (f g : Nat → Nat) (hf : isS G ws a f) (hg : isS G ws b g) : Met l y_C_constraintsOfProduct (cw_C_constraintsOfProduct :: TW) { frames := 3, cells := 0, slots := 0, locals := 78 } (va_Pc [.ref a, .ref b] (x_P G A ws)) (qI G A (fun r w9 => ws = w9 ∧ r = nI (cp f g))) 0 0 A := by
  refine Met.ofW (cc := b_C_constraintsOfProduct) (maxL := 2) (ret := (some .int)) (by decide) rfl ?_
  intro p e s m args below meth c s₁ B hml hv
  obtain ⟨rfl, hE, hA, hP, hD⟩ := hv
  have hx := B.exec
  have hb := B.bytes
  have hr := B.returns
  have ht : ∀ w ∈ TW, w.before _ s = true := fun w h => atoms_spec (ws := cw_C_constraintsOfProduct :: TW) B.pre w (List.mem_cons_of_mem _ h)
  have hown : s.vm.findClass R_C = some m.cls := findClass_of_methodNamed B.named
  have hlocks := B.notSynchronized
  have hK := hE.1
  have hS : va_S A s.heap s.heap [] := va_S.rf
  have hl := lv_entry ([.ref a, .ref b]) (n := 2) (Nat.le_of_ble_eq_true rfl)
  rw [lg_entry_eq]
  generalize (lg_sl ([.ref a, .ref b]) ++ List.replicate (2 - (lg_sl ([.ref a, .ref b])).length) Slot.unset).toArray = ls at hl ⊢
  have hl : lv_has ls 2 [(0, .ref a), (1, .ref b)] := hl
  obtain ⟨kA, jA, cA, fA, pA, qA, nA, oA, eA, bA⟩ := id hf
  obtain ⟨kB, jB, cB, fB, pB, qB, nB, oB, eB, bB⟩ := id hg
  refine lv_aload_n hx hb d_C_constraintsOfProduct_0 rfl (lv_at hl 0 rfl) ?_
  refine x_calli (va_runV (As := []) (rest := []) ⟨hx, hb, hml, hown, ht⟩ (c_S_const l G A ws a f hf) (cwV 0 ht (TW_V k_ml_C_189 k_im_S_isConstant k_se_S_isConstant k_in_S k_code_S_isConstant) rfl rfl rfl hv_S_isConstant ⟨Nat.le_of_ble_eq_true rfl, Nat.le_of_ble_eq_true rfl⟩) ⟨x_blind, va_recv hK hP rfl pA, x_pre hE hA hS hP hD⟩ rfl rfl hl.1 rfl (lv_room (Nat.le_of_ble_eq_true rfl)) d_C_constraintsOfProduct_1 ⟨Nat.le_of_ble_eq_true rfl, Nat.le_of_ble_eq_true rfl⟩) hS (fun r3 w2 H locs q1 hP hD hS => ?_)
  obtain ⟨rfl, ⟨rfl, h1⟩ | ⟨rfl, h1⟩⟩ := q1
  · refine x_if_ne hx hb 1 rfl (by omega) (tgt := 14) d_C_constraintsOfProduct_4 (by decide) (fun c4 => ?_) (fun c4 => ?_)
    · refine lv_iconst (v := (nI 0)) hx hb d_C_constraintsOfProduct_14 (by decide) ?_
      refine lv_goto (tgt := 19) hx hb d_C_constraintsOfProduct_15 (by decide) ?_
      exact x_iret hx hb hr hlocks hS hP hD (Nat.le_of_ble_eq_true rfl) (Nat.le_of_ble_eq_true rfl) d_C_constraintsOfProduct_19 (⟨rfl, by unfold cp; rw [if_pos (Or.inl h1)]⟩)
    · exact False.elim (by omega)
  · refine x_if_ne hx hb 0 rfl (by omega) (tgt := 14) d_C_constraintsOfProduct_4 (by decide) (fun c5 => ?_) (fun c5 => ?_)
    · exact False.elim (by omega)
    · refine lv_aload_n hx hb d_C_constraintsOfProduct_7 rfl (lv_at hl 1 rfl) ?_
      refine x_calli (va_runV (As := []) (rest := []) ⟨hx, hb, hml, hown, ht⟩ (c_S_const l G A ws b g hg) (cwV 0 ht (TW_V k_ml_C_189 k_im_S_isConstant k_se_S_isConstant k_in_S k_code_S_isConstant) rfl rfl rfl hv_S_isConstant ⟨Nat.le_of_ble_eq_true rfl, Nat.le_of_ble_eq_true rfl⟩) ⟨x_blind, va_recv hK hP rfl pB, x_pre hE hA hS hP hD⟩ rfl rfl hl.1 rfl (lv_room (Nat.le_of_ble_eq_true rfl)) d_C_constraintsOfProduct_8 ⟨Nat.le_of_ble_eq_true rfl, Nat.le_of_ble_eq_true rfl⟩) hS (fun r8 w7 H locs q6 hP hD hS => ?_)
      obtain ⟨rfl, ⟨rfl, h2⟩ | ⟨rfl, h2⟩⟩ := q6
      · refine x_if_eq hx hb 1 rfl (by omega) (tgt := 18) d_C_constraintsOfProduct_11 (by decide) (fun c9 => ?_) (fun c9 => ?_)
        · exact False.elim (by omega)
        · refine lv_iconst (v := (nI 0)) hx hb d_C_constraintsOfProduct_14 (by decide) ?_
          refine lv_goto (tgt := 19) hx hb d_C_constraintsOfProduct_15 (by decide) ?_
          exact x_iret hx hb hr hlocks hS hP hD (Nat.le_of_ble_eq_true rfl) (Nat.le_of_ble_eq_true rfl) d_C_constraintsOfProduct_19 (⟨rfl, by unfold cp; rw [if_pos (Or.inr h2)]⟩)
      · refine x_if_eq hx hb 0 rfl (by omega) (tgt := 18) d_C_constraintsOfProduct_11 (by decide) (fun c10 => ?_) (fun c10 => ?_)
        · refine lv_iconst (v := (nI 1)) hx hb d_C_constraintsOfProduct_18 (by decide) ?_
          exact x_iret hx hb hr hlocks hS hP hD (Nat.le_of_ble_eq_true rfl) (Nat.le_of_ble_eq_true rfl) d_C_constraintsOfProduct_19 (⟨rfl, by unfold cp; rw [if_neg (by omega)]⟩)
        · exact False.elim (by omega)
end
section
set_option maxHeartbeats 4000000 in
set_option maxRecDepth 100000 in
theorem c_V_init (l : Launch) (G : xG) (A : Nat → Prop) (ws : va_W) (k a : Nat) (r : Int32) (x y : Nat) (h0 : ws[k]? = some (a, .inr (2, [.int 0, .null, .null, .int 0]))) : Met l y_V_init (cw_V_init :: TW) { frames := 1, cells := 0, slots := 0, locals := 26 } (va_Pc [.ref a, .int r, .ref x, .ref y] (x_P G A ws)) (qV G A (fun w9 => w9 = ws.set k (a, .inr (2, [.int r, .ref x, .ref y, .int 0])))) 0 0 A := by
  refine Met.ofW (cc := b_V_init) (maxL := 4) (ret := none) (by decide) rfl ?_
  intro p e s m args below meth c s₁ B hml hv
  obtain ⟨rfl, hE, hA, hP, hD⟩ := hv
  have hx := B.exec
  have hb := B.bytes
  have hr := B.returns
  have ht : ∀ w ∈ TW, w.before _ s = true := fun w h => atoms_spec (ws := cw_V_init :: TW) B.pre w (List.mem_cons_of_mem _ h)
  have hown : s.vm.findClass R_V = some m.cls := findClass_of_methodNamed B.named
  have hlocks := B.notSynchronized
  have hin : meth.name = "<init>" := (name_of_methodNamed B.named B.method).1
  have hK := hE.1
  have hS : va_S A s.heap s.heap [] := va_S.rf
  have hl := lv_entry ([.ref a, .int r, .ref x, .ref y]) (n := 4) (Nat.le_of_ble_eq_true rfl)
  rw [lg_entry_eq]
  generalize (lg_sl ([.ref a, .int r, .ref x, .ref y]) ++ List.replicate (4 - (lg_sl ([.ref a, .int r, .ref x, .ref y])).length) Slot.unset).toArray = ls at hl ⊢
  have hl : lv_has ls 4 [(0, .ref a), (1, .int r), (2, .ref x), (3, .ref y)] := hl
  refine lv_aload_n hx hb d_V_init_0 rfl (lv_at hl 0 rfl) ?_
  refine W.objInit hx hb hown (ht _ k_ml_V_3) (ht _ k_im_OJ_init) (ht _ k_code_OJ_init) rfl (by rw [hml]; exact hl.1) rfl d_V_init_1 (Nat.le_of_ble_eq_true rfl) (Nat.le_of_ble_eq_true rfl) ?_
  refine W.eq (g2 := F0 m 4 ls []) rfl ?_
  refine lv_aload_n hx hb d_V_init_4 rfl (lv_at hl 0 rfl) ?_
  refine lv_iload_n hx hb d_V_init_5 rfl (lv_at hl 1 rfl) ?_
  refine va_putF (D := xD G) (ci := 2) (v := .int r) (ty := .int) (C := R_V) (T := F_V) (N := 4) hx hb ht in_V ft_V fo_V nm_V hown hK hP hD hS k h0 rfl 0 (by decide) (ht _ k_fl_V_9) (fun _ h9 => h9) rfl hin rfl (by decide +kernel) rfl rfl (Nat.le_of_ble_eq_true rfl) d_V_init_6 (fun H locs hP hD hS => ?_)
  have hP : va_P (xD G) CL (ws.set k (a, .inr (2, [.int r, .null, .null, .int 0]))) H := hP
  have hD : va_D A (ws.set k (a, .inr (2, [.int r, .null, .null, .int 0]))) := hD
  obtain ⟨w1, e_w1⟩ : ∃ zz : va_W, zz = ws.set k (a, .inr (2, [.int r, .null, .null, .int 0])) := ⟨_, rfl⟩
  rw [← e_w1] at hP hD
  have h2 : w1[k]? = some (a, .inr (2, [.int r, .null, .null, .int 0])) := by rw [e_w1]; exact w_eq h0
  refine lv_aload_n hx hb d_V_init_9 rfl (lv_at hl 0 rfl) ?_
  refine lv_aload_n hx hb d_V_init_10 rfl (lv_at hl 2 rfl) ?_
  refine va_putF (D := xD G) (ci := 2) (v := .ref x) (ty := .object "ConstraintCompiler$Sum") (C := R_V) (T := F_V) (N := 4) hx hb ht in_V ft_V fo_V nm_V hown hK hP hD hS k h2 rfl 1 (by decide) (ht _ k_fl_V_15) (fun _ h9 => h9) rfl hin rfl (by decide +kernel) rfl rfl (Nat.le_of_ble_eq_true rfl) d_V_init_11 (fun H locs hP hD hS => ?_)
  have hP : va_P (xD G) CL (w1.set k (a, .inr (2, [.int r, .ref x, .null, .int 0]))) H := hP
  have hD : va_D A (w1.set k (a, .inr (2, [.int r, .ref x, .null, .int 0]))) := hD
  obtain ⟨w3, e_w3⟩ : ∃ zz : va_W, zz = w1.set k (a, .inr (2, [.int r, .ref x, .null, .int 0])) := ⟨_, rfl⟩
  rw [← e_w3] at hP hD
  have h4 : w3[k]? = some (a, .inr (2, [.int r, .ref x, .null, .int 0])) := by rw [e_w3]; exact w_eq h2
  refine lv_aload_n hx hb d_V_init_14 rfl (lv_at hl 0 rfl) ?_
  refine lv_aload_n hx hb d_V_init_15 rfl (lv_at hl 3 rfl) ?_
  refine va_putF (D := xD G) (ci := 2) (v := .ref y) (ty := .object "ConstraintCompiler$Sum") (C := R_V) (T := F_V) (N := 4) hx hb ht in_V ft_V fo_V nm_V hown hK hP hD hS k h4 rfl 2 (by decide) (ht _ k_fl_V_19) (fun _ h9 => h9) rfl hin rfl (by decide +kernel) rfl rfl (Nat.le_of_ble_eq_true rfl) d_V_init_16 (fun H locs hP hD hS => ?_)
  have hP : va_P (xD G) CL (w3.set k (a, .inr (2, [.int r, .ref x, .ref y, .int 0]))) H := hP
  have hD : va_D A (w3.set k (a, .inr (2, [.int r, .ref x, .ref y, .int 0]))) := hD
  obtain ⟨w5, e_w5⟩ : ∃ zz : va_W, zz = w3.set k (a, .inr (2, [.int r, .ref x, .ref y, .int 0])) := ⟨_, rfl⟩
  rw [← e_w5] at hP hD
  have h6 : w5[k]? = some (a, .inr (2, [.int r, .ref x, .ref y, .int 0])) := by rw [e_w5]; exact w_eq h4
  exact x_vret hx hb hr hlocks hS hP hD (Nat.le_of_ble_eq_true rfl) (Nat.le_of_ble_eq_true rfl) d_V_init_19 (by rw [e_w5, e_w3, e_w1]; simp)

set_option maxHeartbeats 4000000 in
set_option maxRecDepth 100000 in
theorem c_K_init (l : Launch) (G : xG) (A : Nat → Prop) (ws : va_W) (k a : Nat) (x y t : Nat) (h0 : ws[k]? = some (a, .inr (4, [.null, .null, .null]))) : Met l y_K_init (cw_K_init :: TW) { frames := 1, cells := 0, slots := 0, locals := 26 } (va_Pc [.ref a, .ref x, .ref y, .ref t] (x_P G A ws)) (qV G A (fun w9 => w9 = ws.set k (a, .inr (4, [.ref x, .ref y, .ref t])))) 0 0 A := by
  refine Met.ofW (cc := b_K_init) (maxL := 4) (ret := none) (by decide) rfl ?_
  intro p e s m args below meth c s₁ B hml hv
  obtain ⟨rfl, hE, hA, hP, hD⟩ := hv
  have hx := B.exec
  have hb := B.bytes
  have hr := B.returns
  have ht : ∀ w ∈ TW, w.before _ s = true := fun w h => atoms_spec (ws := cw_K_init :: TW) B.pre w (List.mem_cons_of_mem _ h)
  have hown : s.vm.findClass R_K = some m.cls := findClass_of_methodNamed B.named
  have hlocks := B.notSynchronized
  have hin : meth.name = "<init>" := (name_of_methodNamed B.named B.method).1
  have hK := hE.1
  have hS : va_S A s.heap s.heap [] := va_S.rf
  have hl := lv_entry ([.ref a, .ref x, .ref y, .ref t]) (n := 4) (Nat.le_of_ble_eq_true rfl)
  rw [lg_entry_eq]
  generalize (lg_sl ([.ref a, .ref x, .ref y, .ref t]) ++ List.replicate (4 - (lg_sl ([.ref a, .ref x, .ref y, .ref t])).length) Slot.unset).toArray = ls at hl ⊢
  have hl : lv_has ls 4 [(0, .ref a), (1, .ref x), (2, .ref y), (3, .ref t)] := hl
  refine lv_aload_n hx hb d_K_init_0 rfl (lv_at hl 0 rfl) ?_
  refine W.objInit hx hb hown (ht _ k_ml_K_1) (ht _ k_im_OJ_init) (ht _ k_code_OJ_init) rfl (by rw [hml]; exact hl.1) rfl d_K_init_1 (Nat.le_of_ble_eq_true rfl) (Nat.le_of_ble_eq_true rfl) ?_
  refine W.eq (g2 := F0 m 4 ls []) rfl ?_
  refine lv_aload_n hx hb d_K_init_4 rfl (lv_at hl 0 rfl) ?_
  refine lv_aload_n hx hb d_K_init_5 rfl (lv_at hl 1 rfl) ?_
  refine va_putF (D := xD G) (ci := 4) (v := .ref x) (ty := .object "ConstraintCompiler$Sum") (C := R_K) (T := F_K) (N := 3) hx hb ht in_K ft_K fo_K nm_K hown hK hP hD hS k h0 rfl 0 (by decide) (ht _ k_fl_K_7) (fun _ h9 => h9) rfl hin rfl (by decide +kernel) rfl rfl (Nat.le_of_ble_eq_true rfl) d_K_init_6 (fun H locs hP hD hS => ?_)
  have hP : va_P (xD G) CL (ws.set k (a, .inr (4, [.ref x, .null, .null]))) H := hP
  have hD : va_D A (ws.set k (a, .inr (4, [.ref x, .null, .null]))) := hD
  obtain ⟨w1, e_w1⟩ : ∃ zz : va_W, zz = ws.set k (a, .inr (4, [.ref x, .null, .null])) := ⟨_, rfl⟩
  rw [← e_w1] at hP hD
  have h2 : w1[k]? = some (a, .inr (4, [.ref x, .null, .null])) := by rw [e_w1]; exact w_eq h0
  refine lv_aload_n hx hb d_K_init_9 rfl (lv_at hl 0 rfl) ?_
  refine lv_aload_n hx hb d_K_init_10 rfl (lv_at hl 2 rfl) ?_
  refine va_putF (D := xD G) (ci := 4) (v := .ref y) (ty := .object "ConstraintCompiler$Sum") (C := R_K) (T := F_K) (N := 3) hx hb ht in_K ft_K fo_K nm_K hown hK hP hD hS k h2 rfl 1 (by decide) (ht _ k_fl_K_13) (fun _ h9 => h9) rfl hin rfl (by decide +kernel) rfl rfl (Nat.le_of_ble_eq_true rfl) d_K_init_11 (fun H locs hP hD hS => ?_)
  have hP : va_P (xD G) CL (w1.set k (a, .inr (4, [.ref x, .ref y, .null]))) H := hP
  have hD : va_D A (w1.set k (a, .inr (4, [.ref x, .ref y, .null]))) := hD
  obtain ⟨w3, e_w3⟩ : ∃ zz : va_W, zz = w1.set k (a, .inr (4, [.ref x, .ref y, .null])) := ⟨_, rfl⟩
  rw [← e_w3] at hP hD
  have h4 : w3[k]? = some (a, .inr (4, [.ref x, .ref y, .null])) := by rw [e_w3]; exact w_eq h2
  refine lv_aload_n hx hb d_K_init_14 rfl (lv_at hl 0 rfl) ?_
  refine lv_aload_n hx hb d_K_init_15 rfl (lv_at hl 3 rfl) ?_
  refine va_putF (D := xD G) (ci := 4) (v := .ref t) (ty := .object "ConstraintCompiler$Sum") (C := R_K) (T := F_K) (N := 3) hx hb ht in_K ft_K fo_K nm_K hown hK hP hD hS k h4 rfl 2 (by decide) (ht _ k_fl_K_16) (fun _ h9 => h9) rfl hin rfl (by decide +kernel) rfl rfl (Nat.le_of_ble_eq_true rfl) d_K_init_16 (fun H locs hP hD hS => ?_)
  have hP : va_P (xD G) CL (w3.set k (a, .inr (4, [.ref x, .ref y, .ref t]))) H := hP
  have hD : va_D A (w3.set k (a, .inr (4, [.ref x, .ref y, .ref t]))) := hD
  obtain ⟨w5, e_w5⟩ : ∃ zz : va_W, zz = w3.set k (a, .inr (4, [.ref x, .ref y, .ref t])) := ⟨_, rfl⟩
  rw [← e_w5] at hP hD
  have h6 : w5[k]? = some (a, .inr (4, [.ref x, .ref y, .ref t])) := by rw [e_w5]; exact w_eq h4
  exact x_vret hx hb hr hlocks hS hP hD (Nat.le_of_ble_eq_true rfl) (Nat.le_of_ble_eq_true rfl) d_K_init_19 (by rw [e_w5, e_w3, e_w1]; simp)

set_option maxHeartbeats 4000000 in
set_option maxRecDepth 100000 in
theorem c_E_init (l : Launch) (G : xG) (A : Nat → Prop) (ws : va_W) (k a : Nat) (x : Nat) (i : Int32) (h0 : ws[k]? = some (a, .inr (3, [.null, .int 0]))) : Met l y_E_init (cw_E_init :: TW) { frames := 1, cells := 0, slots := 0, locals := 26 } (va_Pc [.ref a, .ref x, .int i] (x_P G A ws)) (qV G A (fun w9 => w9 = ws.set k (a, .inr (3, [.ref x, .int i])))) 0 0 A := by
  refine Met.ofW (cc := b_E_init) (maxL := 3) (ret := none) (by decide) rfl ?_
  intro p e s m args below meth c s₁ B hml hv
  obtain ⟨rfl, hE, hA, hP, hD⟩ := hv
  have hx := B.exec
  have hb := B.bytes
  have hr := B.returns
  have ht : ∀ w ∈ TW, w.before _ s = true := fun w h => atoms_spec (ws := cw_E_init :: TW) B.pre w (List.mem_cons_of_mem _ h)
  have hown : s.vm.findClass R_E = some m.cls := findClass_of_methodNamed B.named
  have hlocks := B.notSynchronized
  have hin : meth.name = "<init>" := (name_of_methodNamed B.named B.method).1
  have hK := hE.1
  have hS : va_S A s.heap s.heap [] := va_S.rf
  have hl := lv_entry ([.ref a, .ref x, .int i]) (n := 3) (Nat.le_of_ble_eq_true rfl)
  rw [lg_entry_eq]
  generalize (lg_sl ([.ref a, .ref x, .int i]) ++ List.replicate (3 - (lg_sl ([.ref a, .ref x, .int i])).length) Slot.unset).toArray = ls at hl ⊢
  have hl : lv_has ls 3 [(0, .ref a), (1, .ref x), (2, .int i)] := hl
  refine lv_aload_n hx hb d_E_init_0 rfl (lv_at hl 0 rfl) ?_
  refine W.objInit hx hb hown (ht _ k_ml_E_1) (ht _ k_im_OJ_init) (ht _ k_code_OJ_init) rfl (by rw [hml]; exact hl.1) rfl d_E_init_1 (Nat.le_of_ble_eq_true rfl) (Nat.le_of_ble_eq_true rfl) ?_
  refine W.eq (g2 := F0 m 4 ls []) rfl ?_
  refine lv_aload_n hx hb d_E_init_4 rfl (lv_at hl 0 rfl) ?_
  refine lv_aload_n hx hb d_E_init_5 rfl (lv_at hl 1 rfl) ?_
  refine va_putF (D := xD G) (ci := 3) (v := .ref x) (ty := .object "ConstraintCompiler$Sum") (C := R_E) (T := F_E) (N := 2) hx hb ht in_E ft_E fo_E nm_E hown hK hP hD hS k h0 rfl 0 (by decide) (ht _ k_fl_E_7) (fun _ h9 => h9) rfl hin rfl (by decide +kernel) rfl rfl (Nat.le_of_ble_eq_true rfl) d_E_init_6 (fun H locs hP hD hS => ?_)
  have hP : va_P (xD G) CL (ws.set k (a, .inr (3, [.ref x, .int 0]))) H := hP
  have hD : va_D A (ws.set k (a, .inr (3, [.ref x, .int 0]))) := hD
  obtain ⟨w1, e_w1⟩ : ∃ zz : va_W, zz = ws.set k (a, .inr (3, [.ref x, .int 0])) := ⟨_, rfl⟩
  rw [← e_w1] at hP hD
  have h2 : w1[k]? = some (a, .inr (3, [.ref x, .int 0])) := by rw [e_w1]; exact w_eq h0
  refine lv_aload_n hx hb d_E_init_9 rfl (lv_at hl 0 rfl) ?_
  refine lv_iload_n hx hb d_E_init_10 rfl (lv_at hl 2 rfl) ?_
  refine va_putF (D := xD G) (ci := 3) (v := .int i) (ty := .int) (C := R_E) (T := F_E) (N := 2) hx hb ht in_E ft_E fo_E nm_E hown hK hP hD hS k h2 rfl 1 (by decide) (ht _ k_fl_E_13) (fun _ h9 => h9) rfl hin rfl (by decide +kernel) rfl rfl (Nat.le_of_ble_eq_true rfl) d_E_init_11 (fun H locs hP hD hS => ?_)
  have hP : va_P (xD G) CL (w1.set k (a, .inr (3, [.ref x, .int i]))) H := hP
  have hD : va_D A (w1.set k (a, .inr (3, [.ref x, .int i]))) := hD
  obtain ⟨w3, e_w3⟩ : ∃ zz : va_W, zz = w1.set k (a, .inr (3, [.ref x, .int i])) := ⟨_, rfl⟩
  rw [← e_w3] at hP hD
  have h4 : w3[k]? = some (a, .inr (3, [.ref x, .int i])) := by rw [e_w3]; exact w_eq h2
  exact x_vret hx hb hr hlocks hS hP hD (Nat.le_of_ble_eq_true rfl) (Nat.le_of_ble_eq_true rfl) d_E_init_14 (by rw [e_w3, e_w1]; simp)

set_option maxHeartbeats 4000000 in
set_option maxRecDepth 100000 in
theorem c_isInput (l : Launch) (G : xG) (A : Nat → Prop) (ws : va_W) (k a : Nat) (x : Value) (i : Nat) (hi : i < 60) (h0 : ws[k]? = some (a, .inr (3, [x, .int (nI i)]))) : Met l y_E_isInput (cw_E_isInput :: TW) { frames := 1, cells := 0, slots := 0, locals := 26 } (va_Pc [.ref a] (x_P G A ws)) (qI G A (fun r w9 => ws = w9 ∧ ((r = nI 1 ∧ i ≠ 0) ∨ (r = nI 0 ∧ i = 0)))) 0 0 A := by
  refine Met.ofW (cc := b_E_isInput) (maxL := 1) (ret := (some .boolean)) (by decide) rfl ?_
  intro p e s m args below meth c s₁ B hml hv
  obtain ⟨rfl, hE, hA, hP, hD⟩ := hv
  have hx := B.exec
  have hb := B.bytes
  have hr := B.returns
  have ht : ∀ w ∈ TW, w.before _ s = true := fun w h => atoms_spec (ws := cw_E_isInput :: TW) B.pre w (List.mem_cons_of_mem _ h)
  have hown : s.vm.findClass R_E = some m.cls := findClass_of_methodNamed B.named
  have hlocks := B.notSynchronized
  have hK := hE.1
  have hS : va_S A s.heap s.heap [] := va_S.rf
  have hl := lv_entry ([.ref a]) (n := 1) (Nat.le_of_ble_eq_true rfl)
  rw [lg_entry_eq]
  generalize (lg_sl ([.ref a]) ++ List.replicate (1 - (lg_sl ([.ref a])).length) Slot.unset).toArray = ls at hl ⊢
  have hl : lv_has ls 1 [(0, .ref a)] := hl
  refine lv_aload_n hx hb d_E_isInput_0 rfl (lv_at hl 0 rfl) ?_
  refine va_get (D := xD G) (ci := 3) (C := R_E) (T := F_E) (N := 2) hx hb ht in_E hown hK hP k h0 rfl 1 (by decide) (ht _ k_fl_E_13) (fun _ h9 => h9) rfl d_E_isInput_1 ?_
  refine x_if_eq hx hb i rfl (by omega) (tgt := 11) d_E_isInput_4 (by decide) (fun c1 => ?_) (fun c1 => ?_)
  · refine lv_iconst (v := (nI 0)) hx hb d_E_isInput_11 (by decide) ?_
    exact x_zret hx hb hr hlocks hS hP hD (Nat.le_of_ble_eq_true rfl) (Nat.le_of_ble_eq_true rfl) d_E_isInput_12 rfl (⟨rfl, Or.inr ⟨rfl, c1⟩⟩)
  · refine lv_iconst (v := (nI 1)) hx hb d_E_isInput_7 (by decide) ?_
    refine lv_goto (tgt := 12) hx hb d_E_isInput_8 (by decide) ?_
    exact x_zret hx hb hr hlocks hS hP hD (Nat.le_of_ble_eq_true rfl) (Nat.le_of_ble_eq_true rfl) d_E_isInput_12 rfl (⟨rfl, Or.inl ⟨rfl, c1⟩⟩)

set_option maxHeartbeats 4000000 in
set_option maxRecDepth 100000 in
theorem c_addV (l : Launch) (G : xG) (A : Nat → Prop) (ws : va_W) (o z u lv le lk : Nat) (V : List VV) (E : List EE) (K : List KK) (inp : Nat) (w d : Nat → Nat) (wV wC : Nat) (hR : CCs G ws o z u lv le lk V E K inp w d wV wC) (bV : V.length ≤ 60) (r la ra : Nat) (f g : Nat → Nat) (hf : isS G ws la f) (hg : isS G ws ra g) : Met l y_C_addVariable (cw_C_addVariable :: TW) { frames := 8, cells := 2, slots := 154, locals := 208 } (va_Pc [.ref o, .int (nI r), .ref la, .ref ra] (x_P G A ws)) (qI G A (fun q w9 => q = nI V.length ∧ CCs G w9 o z u lv le lk (V ++ [(r, f, g, 0)]) E K inp w d wV wC ∧ kp ws w9)) 2 154 A := by
  refine Met.ofW (cc := b_C_addVariable) (maxL := 4) (ret := (some .int)) (by decide) rfl ?_
  intro p e s m args below meth c s₁ B hml hv
  obtain ⟨rfl, hE, hA, hP, hD⟩ := hv
  have hx := B.exec
  have hb := B.bytes
  have hr := B.returns
  have ht : ∀ w ∈ TW, w.before _ s = true := fun w h => atoms_spec (ws := cw_C_addVariable :: TW) B.pre w (List.mem_cons_of_mem _ h)
  have hown : s.vm.findClass R_C = some m.cls := findClass_of_methodNamed B.named
  have hlocks := B.notSynchronized
  have hK := hE.1
  have hS : va_S A s.heap s.heap [] := va_S.rf
  have hl := lv_entry ([.ref o, .int (nI r), .ref la, .ref ra]) (n := 4) (Nat.le_of_ble_eq_true rfl)
  rw [lg_entry_eq]
  generalize (lg_sl ([.ref o, .int (nI r), .ref la, .ref ra]) ++ List.replicate (4 - (lg_sl ([.ref o, .int (nI r), .ref la, .ref ra])).length) Slot.unset).toArray = ls at hl ⊢
  have hl : lv_has ls 4 [(0, .ref o), (1, .int (nI r)), (2, .ref la), (3, .ref ra)] := hl
  obtain ⟨wa, da, kV, kE, kK, gV, gE, gK, hX⟩ := id hR
  obtain ⟨x1, x2, x3, x4, x5, x6, x7, x8, x9, x10, x11, x12, x13⟩ := id hX
  obtain ⟨mo_v, ae_v, li_v, -⟩ := id x4
  obtain ⟨mo_e, ae_e, li_e, -⟩ := id x5
  obtain ⟨mo_k, ae_k, li_k, -⟩ := id x6
  refine lv_aload_n hx hb d_C_addVariable_0 rfl (lv_at hl 0 rfl) ?_
  refine va_get (D := xD G) (ci := 0) (C := R_C) (T := F_C) (N := 10) hx hb ht in_C hown hK hP 0 x1 rfl 2 (by decide) (ht _ k_fl_C_26) (fun _ h9 => h9) rfl d_C_addVariable_1 ?_
  refine va_new (ci := 2) (fs := [.int 0, .null, .null, .int 0]) (C := R_V) (T := F_V) (N := 4) hx hb ht in_V ft_V fo_V hown (ht _ k_cl_C_43) (ht _ k_new_V) (ht _ k_in_V) hK hP hD hS hA rfl (fun j hj => by rcases (show j = 0 ∨ j = 1 ∨ j = 2 ∨ j = 3 by omega) with rfl | rfl | rfl | rfl <;> rfl) (Nat.le_of_ble_eq_true rfl) (Nat.le_of_ble_eq_true rfl) d_C_addVariable_4 (fun a H hP hD hS => ?_)
  refine W.widen (k := 1) (n := 4) (Nat.le_of_ble_eq_true rfl) (Nat.le_of_ble_eq_true rfl) ?_
  have hP : va_P (xD G) CL (ws ++ [(a, .inr (2, [.int 0, .null, .null, .int 0]))]) H := hP
  have hD : va_D A (ws ++ [(a, .inr (2, [.int 0, .null, .null, .int 0]))]) := hD
  obtain ⟨w1, e_w1⟩ : ∃ zz : va_W, zz = ws ++ [(a, .inr (2, [.int 0, .null, .null, .int 0]))] := ⟨_, rfl⟩
  rw [← e_w1] at hP hD
  have h2 : w1[0]? = some (o, .inr (0, [.ref z, .ref u, .ref lv, .ref le, .ref lk, .int (nI inp), .ref wa, .ref da, .int (nI wV), .int (nI wC)])) := by rw [e_w1]; exact w_app x1
  have h3 : w1[5]? = some (lv, .inr (6, [.int mo_v, .ref ae_v, .int (nI V.length)])) := by rw [e_w1]; exact w_app li_v
  have h4 : w1[6]? = some (le, .inr (6, [.int mo_e, .ref ae_e, .int (nI E.length)])) := by rw [e_w1]; exact w_app li_e
  have h5 : w1[7]? = some (lk, .inr (6, [.int mo_k, .ref ae_k, .int (nI K.length)])) := by rw [e_w1]; exact w_app li_k
  have h6 : w1[ws.length]? = some (a, .inr (2, [.int 0, .null, .null, .int 0])) := by rw [e_w1]; exact w_new0
  refine lv_dup hx hb d_C_addVariable_7 rfl ?_
  refine lv_iload_n hx hb d_C_addVariable_8 rfl (lv_at hl 1 rfl) ?_
  refine lv_aload_n hx hb d_C_addVariable_9 rfl (lv_at hl 2 rfl) ?_
  refine lv_aload_n hx hb d_C_addVariable_10 rfl (lv_at hl 3 rfl) ?_
  refine x_callv (va_runI (As := [.int (nI r), .ref la, .ref ra]) (rest := [.ref a, .ref lv]) ⟨hx, hb, hml, hown, ht⟩ (c_V_init l G A w1 ws.length a (nI r) la ra h6) (cwI 3 ht (TW_good k_code_V_init) rfl rfl rfl (ht _ k_in_V) (ht _ k_ml_C_45) (ht _ k_im_V_init) rfl hv_V_init.2 ⟨Nat.le_of_ble_eq_true rfl, Nat.le_of_ble_eq_true rfl⟩) ⟨x_blind, x_pre hE hA hS hP hD⟩ rfl rfl hl.1 rfl (lv_room (Nat.le_of_ble_eq_true rfl)) d_C_addVariable_11 ⟨Nat.le_of_ble_eq_true rfl, Nat.le_of_ble_eq_true rfl⟩) hS (fun w8 H locs q7 hP hD hS => ?_)
  have hw2 : w8 = ws ++ [(a, .inr (2, [.int (nI r), .ref la, .ref ra, .int 0]))] := by rw [q7, e_w1]; simp
  subst hw2
  have hX2 := hX.app (n := [(a, .inr (2, [.int (nI r), .ref la, .ref ra, .int 0]))])
  have g5 := w_app (n := [(a, .inr (2, [.int (nI r), .ref la, .ref ra, .int 0]))]) li_v
  have hn2 : ∀ i, i < V.length → gV i ≠ a := fun i hi e => by obtain ⟨y, hy⟩ := V_get hi; obtain ⟨k9, la9, ra9, e1, -⟩ := x7 i y hy; have h8 := hD.1 k9 ws.length _ _ (w_app e1) w_new0 e; have h9 := w_lt e1; omega
  refine x_calli (va_runV (As := [.ref a]) (rest := []) ⟨hx, hb, hml, hown, ht⟩ (c_add l G A (ws ++ [(a, .inr (2, [.int (nI r), .ref la, .ref ra, .int 0]))]) 5 kV lv V.length a gV (x4.app) (by omega) (fun j hj => by obtain ⟨y, hy⟩ := V_get hj; exact ((x7 j y hy).kp kp.app).O) ⟨ws.length, 2, _, w_new0, Or.inl rfl⟩) (cwV 1 ht (TW_V k_ml_C_48 k_im_A_add1 k_se_A_add1 k_in_A k_code_A_add1) rfl rfl rfl hv_A_add1 ⟨Nat.le_of_ble_eq_true rfl, Nat.le_of_ble_eq_true rfl⟩) ⟨x_blind, va_recv hK hP rfl g5, x_pre hE hA hS hP hD⟩ rfl rfl hl.1 rfl (lv_room (Nat.le_of_ble_eq_true rfl)) d_C_addVariable_14 ⟨Nat.le_of_ble_eq_true rfl, Nat.le_of_ble_eq_true rfl⟩) hS (fun r11 w10 H locs q9 hP hD hS => ?_)
  refine W.widen (k := 2) (n := 154) (Nat.le_of_ble_eq_true rfl) (Nat.le_of_ble_eq_true rfl) ?_
  obtain ⟨ka', e1, e2, e3, e4⟩ := q9
  have kk := keep2.kp (x4.app) e2
  have q0 : (ws ++ [(a, .inr (2, [.int (nI r), .ref la, .ref ra, .int 0]))])[ws.length]? = some (a, .inr (2, [.int (nI r), .ref la, .ref ra, .int (nI 0)])) := by rw [nI_0]; exact w_new0
  have nx : isV G w10 a (r, f, g, 0) := ⟨ws.length, la, ra, kk _ _ _ q0 (hard_o (Or.inr (Or.inl rfl))), (hf.kp kp.app).kp kk, (hg.kp kp.app).kp kk⟩
  have hX3 := CCx.addV (x := (r, f, g, 0)) hX2 e1 e2 e3 nx hn2
  obtain ⟨mo9, ea9, li9, -⟩ := id e1
  refine lv_pop hx hb d_C_addVariable_17 rfl ?_
  refine lv_aload_n hx hb d_C_addVariable_18 rfl (lv_at hl 0 rfl) ?_
  refine va_get (D := xD G) (ci := 0) (C := R_C) (T := F_C) (N := 10) hx hb ht in_C hown hK hP 0 hX3.1 rfl 2 (by decide) (ht _ k_fl_C_26) (fun _ h9 => h9) rfl d_C_addVariable_19 ?_
  refine x_calli (va_runV (As := []) (rest := []) ⟨hx, hb, hml, hown, ht⟩ (c_A_size l G A w10 5 ka' lv (V.length + 1) (va_up gV V.length a) e1) (cwV 0 ht (TW_V k_ml_C_78 k_im_A_size k_se_A_size k_in_A k_code_A_size) rfl rfl rfl hv_A_size ⟨Nat.le_of_ble_eq_true rfl, Nat.le_of_ble_eq_true rfl⟩) ⟨x_blind, va_recv hK hP rfl li9, x_pre hE hA hS hP hD⟩ rfl rfl hl.1 rfl (lv_room (Nat.le_of_ble_eq_true rfl)) d_C_addVariable_22 ⟨Nat.le_of_ble_eq_true rfl, Nat.le_of_ble_eq_true rfl⟩) hS (fun r14 w13 H locs q12 hP hD hS => ?_)
  obtain ⟨rfl, rfl⟩ := q12
  refine lv_iconst (v := (nI 1)) hx hb d_C_addVariable_25 (by decide) ?_
  refine lv_isub hx hb d_C_addVariable_26 ?_
  refine x_top (nI ((V.length + 1) - 1)) (pk_sub (by omega)) ?_
  exact x_iret hx hb hr hlocks hS hP hD (Nat.le_of_ble_eq_true rfl) (Nat.le_of_ble_eq_true rfl) d_C_addVariable_27 (⟨by rw [Nat.add_sub_cancel], ⟨_, _, _, _, _, _, _, _, hX3⟩, kp.tr kp.app kk⟩)

set_option maxHeartbeats 4000000 in
set_option maxRecDepth 100000 in
theorem c_addK (l : Launch) (G : xG) (A : Nat → Prop) (ws : va_W) (o z u lv le lk : Nat) (V : List VV) (E : List EE) (K : List KK) (inp : Nat) (w d : Nat → Nat) (wV wC : Nat) (hR : CCs G ws o z u lv le lk V E K inp w d wV wC) (bK : K.length ≤ 80) (xa ya za : Nat) (f g h : Nat → Nat) (hf : isS G ws xa f) (hg : isS G ws ya g) (hh : isS G ws za h) : Met l y_C_addConstraint (cw_C_addConstraint :: TW) { frames := 8, cells := 2, slots := 153, locals := 208 } (va_Pc [.ref o, .ref xa, .ref ya, .ref za] (x_P G A ws)) (qV G A (fun w9 => CCs G w9 o z u lv le lk V E (K ++ [(f, g, h)]) inp w d wV wC ∧ kp ws w9)) 2 153 A := by
  refine Met.ofW (cc := b_C_addConstraint) (maxL := 4) (ret := none) (by decide) rfl ?_
  intro p e s m args below meth c s₁ B hml hv
  obtain ⟨rfl, hE, hA, hP, hD⟩ := hv
  have hx := B.exec
  have hb := B.bytes
  have hr := B.returns
  have ht : ∀ w ∈ TW, w.before _ s = true := fun w h => atoms_spec (ws := cw_C_addConstraint :: TW) B.pre w (List.mem_cons_of_mem _ h)
  have hown : s.vm.findClass R_C = some m.cls := findClass_of_methodNamed B.named
  have hlocks := B.notSynchronized
  have hK := hE.1
  have hS : va_S A s.heap s.heap [] := va_S.rf
  have hl := lv_entry ([.ref o, .ref xa, .ref ya, .ref za]) (n := 4) (Nat.le_of_ble_eq_true rfl)
  rw [lg_entry_eq]
  generalize (lg_sl ([.ref o, .ref xa, .ref ya, .ref za]) ++ List.replicate (4 - (lg_sl ([.ref o, .ref xa, .ref ya, .ref za])).length) Slot.unset).toArray = ls at hl ⊢
  have hl : lv_has ls 4 [(0, .ref o), (1, .ref xa), (2, .ref ya), (3, .ref za)] := hl
  obtain ⟨wa, da, kV, kE, kK, gV, gE, gK, hX⟩ := id hR
  obtain ⟨x1, x2, x3, x4, x5, x6, x7, x8, x9, x10, x11, x12, x13⟩ := id hX
  obtain ⟨mo_v, ae_v, li_v, -⟩ := id x4
  obtain ⟨mo_e, ae_e, li_e, -⟩ := id x5
  obtain ⟨mo_k, ae_k, li_k, -⟩ := id x6
  refine lv_aload_n hx hb d_C_addConstraint_0 rfl (lv_at hl 0 rfl) ?_
  refine va_get (D := xD G) (ci := 0) (C := R_C) (T := F_C) (N := 10) hx hb ht in_C hown hK hP 0 x1 rfl 4 (by decide) (ht _ k_fl_C_33) (fun _ h9 => h9) rfl d_C_addConstraint_1 ?_
  refine va_new (ci := 4) (fs := [.null, .null, .null]) (C := R_K) (T := F_K) (N := 3) hx hb ht in_K ft_K fo_K hown (ht _ k_cl_C_151) (ht _ k_new_K) (ht _ k_in_K) hK hP hD hS hA rfl (fun j hj => by rcases (show j = 0 ∨ j = 1 ∨ j = 2 by omega) with rfl | rfl | rfl <;> rfl) (Nat.le_of_ble_eq_true rfl) (Nat.le_of_ble_eq_true rfl) d_C_addConstraint_4 (fun a H hP hD hS => ?_)
  refine W.widen (k := 1) (n := 3) (Nat.le_of_ble_eq_true rfl) (Nat.le_of_ble_eq_true rfl) ?_
  have hP : va_P (xD G) CL (ws ++ [(a, .inr (4, [.null, .null, .null]))]) H := hP
  have hD : va_D A (ws ++ [(a, .inr (4, [.null, .null, .null]))]) := hD
  obtain ⟨w1, e_w1⟩ : ∃ zz : va_W, zz = ws ++ [(a, .inr (4, [.null, .null, .null]))] := ⟨_, rfl⟩
  rw [← e_w1] at hP hD
  have h2 : w1[0]? = some (o, .inr (0, [.ref z, .ref u, .ref lv, .ref le, .ref lk, .int (nI inp), .ref wa, .ref da, .int (nI wV), .int (nI wC)])) := by rw [e_w1]; exact w_app x1
  have h3 : w1[5]? = some (lv, .inr (6, [.int mo_v, .ref ae_v, .int (nI V.length)])) := by rw [e_w1]; exact w_app li_v
  have h4 : w1[6]? = some (le, .inr (6, [.int mo_e, .ref ae_e, .int (nI E.length)])) := by rw [e_w1]; exact w_app li_e
  have h5 : w1[7]? = some (lk, .inr (6, [.int mo_k, .ref ae_k, .int (nI K.length)])) := by rw [e_w1]; exact w_app li_k
  have h6 : w1[ws.length]? = some (a, .inr (4, [.null, .null, .null])) := by rw [e_w1]; exact w_new0
  refine lv_dup hx hb d_C_addConstraint_7 rfl ?_
  refine lv_aload_n hx hb d_C_addConstraint_8 rfl (lv_at hl 1 rfl) ?_
  refine lv_aload_n hx hb d_C_addConstraint_9 rfl (lv_at hl 2 rfl) ?_
  refine lv_aload_n hx hb d_C_addConstraint_10 rfl (lv_at hl 3 rfl) ?_
  refine x_callv (va_runI (As := [.ref xa, .ref ya, .ref za]) (rest := [.ref a, .ref lk]) ⟨hx, hb, hml, hown, ht⟩ (c_K_init l G A w1 ws.length a xa ya za h6) (cwI 3 ht (TW_good k_code_K_init) rfl rfl rfl (ht _ k_in_K) (ht _ k_ml_C_222) (ht _ k_im_K_init) rfl hv_K_init.2 ⟨Nat.le_of_ble_eq_true rfl, Nat.le_of_ble_eq_true rfl⟩) ⟨x_blind, x_pre hE hA hS hP hD⟩ rfl rfl hl.1 rfl (lv_room (Nat.le_of_ble_eq_true rfl)) d_C_addConstraint_11 ⟨Nat.le_of_ble_eq_true rfl, Nat.le_of_ble_eq_true rfl⟩) hS (fun w8 H locs q7 hP hD hS => ?_)
  have hw2 : w8 = ws ++ [(a, .inr (4, [.ref xa, .ref ya, .ref za]))] := by rw [q7, e_w1]; simp
  subst hw2
  have hX2 := hX.app (n := [(a, .inr (4, [.ref xa, .ref ya, .ref za]))])
  have g5 := w_app (n := [(a, .inr (4, [.ref xa, .ref ya, .ref za]))]) li_k
  have hn2 : ∀ i, i < K.length → gK i ≠ a := fun i hi e => by obtain ⟨y, hy⟩ := V_get hi; obtain ⟨k9, xa9, ya9, za9, e1, -⟩ := x9 i y hy; have h8 := hD.1 k9 ws.length _ _ (w_app e1) w_new0 e; have h9 := w_lt e1; omega
  refine x_calli (va_runV (As := [.ref a]) (rest := []) ⟨hx, hb, hml, hown, ht⟩ (c_add l G A (ws ++ [(a, .inr (4, [.ref xa, .ref ya, .ref za]))]) 7 kK lk K.length a gK (x6.app) (by omega) (fun j hj => by obtain ⟨y, hy⟩ := V_get hj; exact ((x9 j y hy).kp kp.app).O) ⟨ws.length, 4, _, w_new0, Or.inr (Or.inr rfl)⟩) (cwV 1 ht (TW_V k_ml_C_48 k_im_A_add1 k_se_A_add1 k_in_A k_code_A_add1) rfl rfl rfl hv_A_add1 ⟨Nat.le_of_ble_eq_true rfl, Nat.le_of_ble_eq_true rfl⟩) ⟨x_blind, va_recv hK hP rfl g5, x_pre hE hA hS hP hD⟩ rfl rfl hl.1 rfl (lv_room (Nat.le_of_ble_eq_true rfl)) d_C_addConstraint_14 ⟨Nat.le_of_ble_eq_true rfl, Nat.le_of_ble_eq_true rfl⟩) hS (fun r11 w10 H locs q9 hP hD hS => ?_)
  refine W.widen (k := 2) (n := 153) (Nat.le_of_ble_eq_true rfl) (Nat.le_of_ble_eq_true rfl) ?_
  obtain ⟨ka', e1, e2, e3, e4⟩ := q9
  have kk := keep2.kp (x6.app) e2
  have nx : isC G w10 a (f, g, h) := ⟨ws.length, xa, ya, za, kk _ _ _ w_new0 (hard_o (Or.inr (Or.inr (Or.inr rfl)))), (hf.kp kp.app).kp kk, (hg.kp kp.app).kp kk, (hh.kp kp.app).kp kk⟩
  have hX3 := CCx.addK (x := (f, g, h)) hX2 e1 e2 e3 nx hn2
  refine lv_pop hx hb d_C_addConstraint_17 rfl ?_
  exact x_vret hx hb hr hlocks hS hP hD (Nat.le_of_ble_eq_true rfl) (Nat.le_of_ble_eq_true rfl) d_C_addConstraint_18 (⟨⟨_, _, _, _, _, _, _, _, hX3⟩, kp.tr kp.app kk⟩)

set_option maxHeartbeats 4000000 in
set_option maxRecDepth 100000 in
theorem c_mcp (l : Launch) (G : xG) (A : Nat → Prop) (ws : va_W) (o z u lv le lk : Nat) (V : List VV) (E : List EE) (K : List KK) (inp : Nat) (w d : Nat → Nat) (wV wC : Nat) (hR : CCs G ws o z u lv le lk V E K inp w d wV wC) (bV : V.length < 60) (bK : K.length < 80) (la ra : Nat) (f g : Nat → Nat) (hf : isS G ws la f) (hg : isS G ws ra g) : Met l y_C_makeConstrainedProduct (cw_C_makeConstrainedProduct :: TW) { frames := 9, cells := 6, slots := 368, locals := 234 } (va_Pc [.ref o, .ref la, .ref ra] (x_P G A ws)) (qR G A (fun r w9 => isS G w9 r (unit V.length) ∧ CCs G w9 o z u lv le lk (V ++ [(2, f, g, 0)]) E (K ++ [(f, g, unit V.length)]) inp w d wV wC ∧ kp ws w9)) 6 368 A := by
  refine Met.ofW (cc := b_C_makeConstrainedProduct) (maxL := 4) (ret := (some (.object "ConstraintCompiler$Sum"))) (by decide) rfl ?_
  intro p e s m args below meth c s₁ B hml hv
  obtain ⟨rfl, hE, hA, hP, hD⟩ := hv
  have hx := B.exec
  have hb := B.bytes
  have hr := B.returns
  have ht : ∀ w ∈ TW, w.before _ s = true := fun w h => atoms_spec (ws := cw_C_makeConstrainedProduct :: TW) B.pre w (List.mem_cons_of_mem _ h)
  have hown : s.vm.findClass R_C = some m.cls := findClass_of_methodNamed B.named
  have hlocks := B.notSynchronized
  have hK := hE.1
  have hS : va_S A s.heap s.heap [] := va_S.rf
  have hl := lv_entry ([.ref o, .ref la, .ref ra]) (n := 4) (Nat.le_of_ble_eq_true rfl)
  rw [lg_entry_eq]
  generalize (lg_sl ([.ref o, .ref la, .ref ra]) ++ List.replicate (4 - (lg_sl ([.ref o, .ref la, .ref ra])).length) Slot.unset).toArray = ls at hl ⊢
  have hl : lv_has ls 4 [(0, .ref o), (1, .ref la), (2, .ref ra)] := hl
  obtain ⟨wa, da, kV, kE, kK, gV, gE, gK, hX⟩ := id hR
  obtain ⟨x1, x2, x3, x4, x5, x6, x7, x8, x9, x10, x11, x12, x13⟩ := id hX
  refine lv_aload_n hx hb d_C_makeConstrainedProduct_0 rfl (lv_at hl 0 rfl) ?_
  refine lv_iconst (v := (nI 2)) hx hb d_C_makeConstrainedProduct_1 (by decide) ?_
  refine lv_aload_n hx hb d_C_makeConstrainedProduct_2 rfl (lv_at hl 1 rfl) ?_
  refine lv_aload_n hx hb d_C_makeConstrainedProduct_3 rfl (lv_at hl 2 rfl) ?_
  refine x_calli (va_runV (As := [.int (nI 2), .ref la, .ref ra]) (rest := []) ⟨hx, hb, hml, hown, ht⟩ (c_addV l G A ws o z u lv le lk V E K inp w d wV wC hR (by omega) 2 la ra f g hf hg) (cwV 3 ht (TW_V k_ml_C_195 k_im_C_addVariable k_se_C_addVariable k_in_C k_code_C_addVariable) rfl rfl rfl hv_C_addVariable ⟨Nat.le_of_ble_eq_true rfl, Nat.le_of_ble_eq_true rfl⟩) ⟨x_blind, va_recv hK hP rfl x1, x_pre hE hA hS hP hD⟩ rfl rfl hl.1 rfl (lv_room (Nat.le_of_ble_eq_true rfl)) d_C_makeConstrainedProduct_4 ⟨Nat.le_of_ble_eq_true rfl, Nat.le_of_ble_eq_true rfl⟩) hS (fun r3 w2 H locs q1 hP hD hS => ?_)
  refine W.widen (k := 2) (n := 154) (Nat.le_of_ble_eq_true rfl) (Nat.le_of_ble_eq_true rfl) ?_
  obtain ⟨rfl, hR1, kk1⟩ := q1
  refine x_callr (va_runS (As := [.int (nI V.length)]) (rest := []) ⟨hx, hb, hml, hown, ht⟩ (c_S_of l G A w2 V.length bV) (va_cwS 1 ht (TW_S k_ml_C_16 k_st_S_ofVariable k_in_S k_code_S_ofVariable) rfl rfl rfl hv_S_ofVariable.2 ⟨Nat.le_of_ble_eq_true rfl, Nat.le_of_ble_eq_true rfl⟩) ⟨x_blind, x_pre hE hA hS hP hD⟩ rfl rfl hl.1 rfl (lv_room (Nat.le_of_ble_eq_true rfl)) d_C_makeConstrainedProduct_7 ⟨Nat.le_of_ble_eq_true rfl, Nat.le_of_ble_eq_true rfl⟩) hS (fun r6 w5 H locs q4 hP hD hS => ?_)
  refine W.widen (k := 4) (n := 215) (Nat.le_of_ble_eq_true rfl) (Nat.le_of_ble_eq_true rfl) ?_
  obtain ⟨hR2, kk2, iS⟩ := mkS_CC hR1 q4 (fun j _ => unit_lt _ j)
  obtain ⟨wa2, da2, kV2, kE2, kK2, gV2, gE2, gK2, hX2⟩ := id hR2
  refine lv_astore_n (lv' := [(3, .ref r6), (0, .ref o), (1, .ref la), (2, .ref ra)]) hx hb d_C_makeConstrainedProduct_10 rfl hl (by decide) rfl (fun ls hl => ?_)
  refine lv_aload_n hx hb d_C_makeConstrainedProduct_11 rfl (lv_at hl 1 rfl) ?_
  refine lv_aload_n hx hb d_C_makeConstrainedProduct_12 rfl (lv_at hl 2 rfl) ?_
  refine lv_aload_n hx hb d_C_makeConstrainedProduct_13 rfl (lv_at hl 3 rfl) ?_
  refine lv_aload_n hx hb d_C_makeConstrainedProduct_14 rfl (lv_at hl 0 rfl) ?_
  refine x_callv (va_runV (As := [.ref la, .ref ra, .ref r6]) (rest := []) ⟨hx, hb, hml, hown, ht⟩ (c_addK l G A w5 o z u lv le lk _ E K inp w d wV wC hR2 (by omega) la ra r6 f g (unit V.length) (hf.kp (kk1.tr kk2)) (hg.kp (kk1.tr kk2)) iS) (cwV 3 ht (TW_V k_ml_C_90 k_im_C_addConstraint k_se_C_addConstraint k_in_C k_code_C_addConstraint) rfl rfl rfl hv_C_addConstraint ⟨Nat.le_of_ble_eq_true rfl, Nat.le_of_ble_eq_true rfl⟩) ⟨x_blind, va_recv hK hP rfl hX2.1, x_pre hE hA hS hP hD⟩ rfl rfl hl.1 rfl (lv_room (Nat.le_of_ble_eq_true rfl)) d_C_makeConstrainedProduct_15 ⟨Nat.le_of_ble_eq_true rfl, Nat.le_of_ble_eq_true rfl⟩) hS (fun w8 H locs q7 hP hD hS => ?_)
  refine W.widen (k := 6) (n := 368) (Nat.le_of_ble_eq_true rfl) (Nat.le_of_ble_eq_true rfl) ?_
  obtain ⟨hR3, kk3⟩ := q7
  refine lv_aload_n hx hb d_C_makeConstrainedProduct_18 rfl (lv_at hl 0 rfl) ?_
  exact x_aret hx hb hr (Or.inl ⟨_, rfl⟩) hlocks hS hP hD (Nat.le_of_ble_eq_true rfl) (Nat.le_of_ble_eq_true rfl) d_C_makeConstrainedProduct_19 (⟨iS.kp kk3, hR3, (kk1.tr kk2).tr kk3⟩)
end
section
/-! what the making of an expression does to variables and constraints -/
abbrev VK : Type := List VV × List KK
def zr : Nat → Nat := fun _ => 0
def prodS (s : VK) (f g : Nat → Nat) : VK × (Nat → Nat) :=
  if lastV f 59 = 0 then (s, cmb (f 0) g 0 g) else if lastV g 59 = 0 then (s, cmb (g 0) f 0 f) else ((s.1 ++ [(2, f, g, 0)], s.2 ++ [(f, g, unit s.1.length)]), unit s.1.length)
def powS : Nat → VK → (Nat → Nat) → (Nat → Nat) → VK × (Nat → Nat)
  | 0, s, cur, _ => (s, cur)
  | n + 1, s, cur, base => powS n (prodS s cur base).1 (prodS s cur base).2 base
def shareS (s : VK) (f g : Nat → Nat) : VK × (Nat → Nat) :=
  ((s.1 ++ [(3, g, zr, 0)] ++ [(2, f, unit s.1.length, 0)], s.2 ++ [(g, unit s.1.length, unit 0)] ++ [(f, unit s.1.length, unit (s.1 ++ [(3, g, zr, 0)]).length)]), unit (s.1 ++ [(3, g, zr, 0)]).length)
def sameS (s : VK) (d : Nat → Nat) : VK × (Nat → Nat) :=
  ((s.1 ++ [(4, d, zr, 0)] ++ [(5, d, zr, 0)], s.2 ++ [(d, unit s.1.length, cmb 1 (unit 0) 96 (unit (s.1 ++ [(4, d, zr, 0)]).length))] ++ [(d, unit (s.1 ++ [(4, d, zr, 0)]).length, zr)]), unit (s.1 ++ [(4, d, zr, 0)]).length)
theorem prodS_len (s : VK) (f g : Nat → Nat) : (prodS s f g).1.1.length = s.1.length + cp f g ∧ (prodS s f g).1.2.length = s.2.length + cp f g := by
  unfold prodS cp
  by_cases h1 : lastV f 59 = 0
  · simp [h1]
  · by_cases h2 : lastV g 59 = 0
    · simp [h1, h2]
    · simp [h1, h2]
theorem prodS_lt (s : VK) (f g : Nat → Nat) : ∀ j, j < 60 → (prodS s f g).2 j < 97 := by
  intro j _
  unfold prodS
  split
  · exact cmb_lt j
  · split
    · exact cmb_lt j
    · exact unit_lt _ j
theorem cp_right (cur f : Nat → Nat) : cp cur f ≤ cp f f := by
  unfold cp
  by_cases h : lastV f 59 = 0
  · simp [h]
  · simp only [h, or_false, or_self]; split <;> simp
def mkSum (kd : Nat) (E : List EE) (s : VK) (x1 x2 x3 : Int32) : VK × (Nat → Nat) :=
  if kd = 2 then (s, cmb 1 (sE E (ix x1)) 1 (sE E (ix x2))) else if kd = 3 then (s, cmb 1 (sE E (ix x1)) 96 (sE E (ix x2))) else if kd = 4 then prodS s (sE E (ix x1)) (sE E (ix x2))
  else if kd = 5 then shareS s (sE E (ix x1)) (sE E (ix x2)) else if kd = 6 then sameS s (cmb 1 (sE E (ix x1)) 96 (sE E (ix x2)))
  else if kd = 7 then ((prodS s (sE E (ix x3)) (cmb 1 (sE E (ix x1)) 96 (sE E (ix x2)))).1, cmb 1 (prodS s (sE E (ix x3)) (cmb 1 (sE E (ix x1)) 96 (sE E (ix x2)))).2 1 (sE E (ix x2)))
  else if kd = 8 then (s, cmb 1 (unit 0) 96 (sE E (ix x1))) else if kd = 9 then powS (ix x2 - 1) s (sE E (ix x1)) (sE E (ix x1)) else (s, cmb (rm x1) (unit 0) 0 (unit 0))
theorem CCs.o {G : xG} {ws : va_W} {o z u lv le lk : Nat} {V : List VV} {E : List EE} {K : List KK} {inp : Nat} {w d : Nat → Nat} {wV wC : Nat} (h : CCs G ws o z u lv le lk V E K inp w d wV wC) : ∃ wa da : Nat, ws[0]? = some (o, .inr (0, [.ref z, .ref u, .ref lv, .ref le, .ref lk, .int (nI inp), .ref wa, .ref da, .int (nI wV), .int (nI wC)])) := by
  obtain ⟨wa, da, kV, kE, kK, gV, gE, gK, h⟩ := h
  exact ⟨wa, da, h.1⟩
theorem CCs.z {G : xG} {ws : va_W} {o z u lv le lk : Nat} {V : List VV} {E : List EE} {K : List KK} {inp : Nat} {w d : Nat → Nat} {wV wC : Nat} (h : CCs G ws o z u lv le lk V E K inp w d wV wC) : isS G ws z zr ∧ isS G ws u (unit 0) := by
  obtain ⟨wa, da, kV, kE, kK, gV, gE, gK, h⟩ := h
  exact ⟨h.2.1, h.2.2.1⟩

set_option maxHeartbeats 4000000 in
set_option maxRecDepth 100000 in
theorem c_mprod (l : Launch) (G : xG) (A : Nat → Prop) (ws : va_W) (o z u lv le lk : Nat) (V : List VV) (E : List EE) (K : List KK) (inp : Nat) (w d : Nat → Nat) (wV wC : Nat) (hR : CCs G ws o z u lv le lk V E K inp w d wV wC) (la ra : Nat) (f g : Nat → Nat) (hf : isS G ws la f) (hg : isS G ws ra g) (bV : V.length + cp f g ≤ 60) (bK : K.length + cp f g ≤ 80) : Met l y_C_makeProduct (cw_C_makeProduct :: TW) { frames := 10, cells := 6, slots := 368, locals := 260 } (va_Pc [.ref o, .ref la, .ref ra] (x_P G A ws)) (qR G A (fun r w9 => isS G w9 r (prodS (V, K) f g).2 ∧ CCs G w9 o z u lv le lk (prodS (V, K) f g).1.1 E (prodS (V, K) f g).1.2 inp w d wV wC ∧ kp ws w9)) 6 368 A := by
  refine Met.ofW (cc := b_C_makeProduct) (maxL := 3) (ret := (some (.object "ConstraintCompiler$Sum"))) (by decide) rfl ?_
  intro p e s m args below meth c s₁ B hml hv
  obtain ⟨rfl, hE, hA, hP, hD⟩ := hv
  have hx := B.exec
  have hb := B.bytes
  have hr := B.returns
  have ht : ∀ w ∈ TW, w.before _ s = true := fun w h => atoms_spec (ws := cw_C_makeProduct :: TW) B.pre w (List.mem_cons_of_mem _ h)
  have hown : s.vm.findClass R_C = some m.cls := findClass_of_methodNamed B.named
  have hlocks := B.notSynchronized
  have hK := hE.1
  have hS : va_S A s.heap s.heap [] := va_S.rf
  have hl := lv_entry ([.ref o, .ref la, .ref ra]) (n := 3) (Nat.le_of_ble_eq_true rfl)
  rw [lg_entry_eq]
  generalize (lg_sl ([.ref o, .ref la, .ref ra]) ++ List.replicate (3 - (lg_sl ([.ref o, .ref la, .ref ra])).length) Slot.unset).toArray = ls at hl ⊢
  have hl : lv_has ls 3 [(0, .ref o), (1, .ref la), (2, .ref ra)] := hl
  obtain ⟨wa0, da0, ho0⟩ := CCs.o hR
  obtain ⟨kA, jA, cA, fA, pA, qA, nA, oA, eA, bA⟩ := id hf
  obtain ⟨kB, jB, cB, fB, pB, qB, nB, oB, eB, bB⟩ := id hg
  refine lv_aload_n hx hb d_C_makeProduct_0 rfl (lv_at hl 1 rfl) ?_
  refine x_calli (va_runV (As := []) (rest := []) ⟨hx, hb, hml, hown, ht⟩ (c_S_const l G A ws la f hf) (cwV 0 ht (TW_V k_ml_C_189 k_im_S_isConstant k_se_S_isConstant k_in_S k_code_S_isConstant) rfl rfl rfl hv_S_isConstant ⟨Nat.le_of_ble_eq_true rfl, Nat.le_of_ble_eq_true rfl⟩) ⟨x_blind, va_recv hK hP rfl pA, x_pre hE hA hS hP hD⟩ rfl rfl hl.1 rfl (lv_room (Nat.le_of_ble_eq_true rfl)) d_C_makeProduct_1 ⟨Nat.le_of_ble_eq_true rfl, Nat.le_of_ble_eq_true rfl⟩) hS (fun r3 w2 H locs q1 hP hD hS => ?_)
  obtain ⟨rfl, ⟨rfl, h1⟩ | ⟨rfl, h1⟩⟩ := q1
  · refine x_if_eq hx hb 1 rfl (by omega) (tgt := 18) d_C_makeProduct_4 (by decide) (fun c4 => ?_) (fun c4 => ?_)
    · exact False.elim (by omega)
    · refine lv_aload_n hx hb d_C_makeProduct_7 rfl (lv_at hl 2 rfl) ?_
      refine lv_aload_n hx hb d_C_makeProduct_8 rfl (lv_at hl 1 rfl) ?_
      refine va_get (D := xD G) (ci := 1) (C := R_S) (T := F_S) (N := 1) hx hb ht in_S hown hK hP kA pA rfl 0 (by decide) (ht _ k_fl_C_163) (fun _ h9 => h9) rfl d_C_makeProduct_9 ?_
      refine lv_iconst (v := (nI 0)) hx hb d_C_makeProduct_12 (by decide) ?_
      refine x_iald hx hb hK hP qA 0 rfl (by omega) (by omega) d_C_makeProduct_13 ?_
      refine x_top (nI (f 0)) (eA 0 (by decide)) ?_
      refine x_callr (va_runV (As := [.int (nI (f 0))]) (rest := []) ⟨hx, hb, hml, hown, ht⟩ (c_S_scaled l G A ws ra (f 0) g hg (bA 0 (by decide))) (cwV 1 ht (TW_V k_ml_C_216 k_im_S_scaledBy k_se_S_scaledBy k_in_S k_code_S_scaledBy) rfl rfl rfl hv_S_scaledBy ⟨Nat.le_of_ble_eq_true rfl, Nat.le_of_ble_eq_true rfl⟩) ⟨x_blind, va_recv hK hP rfl pB, x_pre hE hA hS hP hD⟩ rfl rfl hl.1 rfl (lv_room (Nat.le_of_ble_eq_true rfl)) d_C_makeProduct_14 ⟨Nat.le_of_ble_eq_true rfl, Nat.le_of_ble_eq_true rfl⟩) hS (fun r7 w6 H locs q5 hP hD hS => ?_)
      refine W.widen (k := 2) (n := 61) (Nat.le_of_ble_eq_true rfl) (Nat.le_of_ble_eq_true rfl) ?_
      have e9 : prodS (V, K) f g = ((V, K), cmb (f 0) g 0 g) := by unfold prodS; rw [if_pos h1]
      obtain ⟨hR1, kk1, iS⟩ := mkS_CC hR q5 (fun j _ => cmb_lt j)
      exact x_aret hx hb hr (Or.inl ⟨_, rfl⟩) hlocks hS hP hD (Nat.le_of_ble_eq_true rfl) (Nat.le_of_ble_eq_true rfl) d_C_makeProduct_17 (by rw [e9]; exact ⟨iS, hR1, kk1⟩)
  · refine x_if_eq hx hb 0 rfl (by omega) (tgt := 18) d_C_makeProduct_4 (by decide) (fun c8 => ?_) (fun c8 => ?_)
    · refine lv_aload_n hx hb d_C_makeProduct_18 rfl (lv_at hl 2 rfl) ?_
      refine x_calli (va_runV (As := []) (rest := []) ⟨hx, hb, hml, hown, ht⟩ (c_S_const l G A ws ra g hg) (cwV 0 ht (TW_V k_ml_C_189 k_im_S_isConstant k_se_S_isConstant k_in_S k_code_S_isConstant) rfl rfl rfl hv_S_isConstant ⟨Nat.le_of_ble_eq_true rfl, Nat.le_of_ble_eq_true rfl⟩) ⟨x_blind, va_recv hK hP rfl pB, x_pre hE hA hS hP hD⟩ rfl rfl hl.1 rfl (lv_room (Nat.le_of_ble_eq_true rfl)) d_C_makeProduct_19 ⟨Nat.le_of_ble_eq_true rfl, Nat.le_of_ble_eq_true rfl⟩) hS (fun r11 w10 H locs q9 hP hD hS => ?_)
      obtain ⟨rfl, ⟨rfl, h2⟩ | ⟨rfl, h2⟩⟩ := q9
      · refine x_if_eq hx hb 1 rfl (by omega) (tgt := 36) d_C_makeProduct_22 (by decide) (fun c12 => ?_) (fun c12 => ?_)
        · exact False.elim (by omega)
        · refine lv_aload_n hx hb d_C_makeProduct_25 rfl (lv_at hl 1 rfl) ?_
          refine lv_aload_n hx hb d_C_makeProduct_26 rfl (lv_at hl 2 rfl) ?_
          refine va_get (D := xD G) (ci := 1) (C := R_S) (T := F_S) (N := 1) hx hb ht in_S hown hK hP kB pB rfl 0 (by decide) (ht _ k_fl_C_163) (fun _ h9 => h9) rfl d_C_makeProduct_27 ?_
          refine lv_iconst (v := (nI 0)) hx hb d_C_makeProduct_30 (by decide) ?_
          refine x_iald hx hb hK hP qB 0 rfl (by omega) (by omega) d_C_makeProduct_31 ?_
          refine x_top (nI (g 0)) (eB 0 (by decide)) ?_
          refine x_callr (va_runV (As := [.int (nI (g 0))]) (rest := []) ⟨hx, hb, hml, hown, ht⟩ (c_S_scaled l G A ws la (g 0) f hf (bB 0 (by decide))) (cwV 1 ht (TW_V k_ml_C_216 k_im_S_scaledBy k_se_S_scaledBy k_in_S k_code_S_scaledBy) rfl rfl rfl hv_S_scaledBy ⟨Nat.le_of_ble_eq_true rfl, Nat.le_of_ble_eq_true rfl⟩) ⟨x_blind, va_recv hK hP rfl pA, x_pre hE hA hS hP hD⟩ rfl rfl hl.1 rfl (lv_room (Nat.le_of_ble_eq_true rfl)) d_C_makeProduct_32 ⟨Nat.le_of_ble_eq_true rfl, Nat.le_of_ble_eq_true rfl⟩) hS (fun r15 w14 H locs q13 hP hD hS => ?_)
          refine W.widen (k := 2) (n := 61) (Nat.le_of_ble_eq_true rfl) (Nat.le_of_ble_eq_true rfl) ?_
          have e9 : prodS (V, K) f g = ((V, K), cmb (g 0) f 0 f) := by unfold prodS; rw [if_neg h1, if_pos h2]
          obtain ⟨hR1, kk1, iS⟩ := mkS_CC hR q13 (fun j _ => cmb_lt j)
          exact x_aret hx hb hr (Or.inl ⟨_, rfl⟩) hlocks hS hP hD (Nat.le_of_ble_eq_true rfl) (Nat.le_of_ble_eq_true rfl) d_C_makeProduct_35 (by rw [e9]; exact ⟨iS, hR1, kk1⟩)
      · refine x_if_eq hx hb 0 rfl (by omega) (tgt := 36) d_C_makeProduct_22 (by decide) (fun c16 => ?_) (fun c16 => ?_)
        · have c9 : cp f g = 1 := by unfold cp; rw [if_neg (by omega)]
          refine lv_aload_n hx hb d_C_makeProduct_36 rfl (lv_at hl 0 rfl) ?_
          refine lv_aload_n hx hb d_C_makeProduct_37 rfl (lv_at hl 1 rfl) ?_
          refine lv_aload_n hx hb d_C_makeProduct_38 rfl (lv_at hl 2 rfl) ?_
          refine x_callr (va_runV (As := [.ref la, .ref ra]) (rest := []) ⟨hx, hb, hml, hown, ht⟩ (c_mcp l G A ws o z u lv le lk V E K inp w d wV wC hR (by omega) (by omega) la ra f g hf hg) (cwV 2 ht (TW_V k_ml_C_219 k_im_C_makeConstrainedProduct k_se_C_makeConstrainedProduct k_in_C k_code_C_makeConstrainedProduct) rfl rfl rfl hv_C_makeConstrainedProduct ⟨Nat.le_of_ble_eq_true rfl, Nat.le_of_ble_eq_true rfl⟩) ⟨x_blind, va_recv hK hP rfl ho0, x_pre hE hA hS hP hD⟩ rfl rfl hl.1 rfl (lv_room (Nat.le_of_ble_eq_true rfl)) d_C_makeProduct_39 ⟨Nat.le_of_ble_eq_true rfl, Nat.le_of_ble_eq_true rfl⟩) hS (fun r19 w18 H locs q17 hP hD hS => ?_)
          refine W.widen (k := 6) (n := 368) (Nat.le_of_ble_eq_true rfl) (Nat.le_of_ble_eq_true rfl) ?_
          have e9 : prodS (V, K) f g = ((V ++ [(2, f, g, 0)], K ++ [(f, g, unit V.length)]), unit V.length) := by unfold prodS; rw [if_neg h1, if_neg h2]
          exact x_aret hx hb hr (Or.inl ⟨_, rfl⟩) hlocks hS hP hD (Nat.le_of_ble_eq_true rfl) (Nat.le_of_ble_eq_true rfl) d_C_makeProduct_42 (by rw [e9]; exact q17)
        · exact False.elim (by omega)
    · exact False.elim (by omega)

set_option maxHeartbeats 4000000 in
set_option maxRecDepth 100000 in
theorem c_mshare (l : Launch) (G : xG) (A : Nat → Prop) (ws : va_W) (o z u lv le lk : Nat) (V : List VV) (E : List EE) (K : List KK) (inp : Nat) (w d : Nat → Nat) (wV wC : Nat) (hR : CCs G ws o z u lv le lk V E K inp w d wV wC) (la ra : Nat) (f g : Nat → Nat) (hf : isS G ws la f) (hg : isS G ws ra g) (bV : V.length + 2 ≤ 60) (bK : K.length + 2 ≤ 80) : Met l y_C_makeShare (cw_C_makeShare :: TW) { frames := 10, cells := 12, slots := 736, locals := 260 } (va_Pc [.ref o, .ref la, .ref ra] (x_P G A ws)) (qR G A (fun r w9 => isS G w9 r (shareS (V, K) f g).2 ∧ CCs G w9 o z u lv le lk (shareS (V, K) f g).1.1 E (shareS (V, K) f g).1.2 inp w d wV wC ∧ kp ws w9)) 12 736 A := by
  refine Met.ofW (cc := b_C_makeShare) (maxL := 4) (ret := (some (.object "ConstraintCompiler$Sum"))) (by decide) rfl ?_
  intro p e s m args below meth c s₁ B hml hv
  obtain ⟨rfl, hE, hA, hP, hD⟩ := hv
  have hx := B.exec
  have hb := B.bytes
  have hr := B.returns
  have ht : ∀ w ∈ TW, w.before _ s = true := fun w h => atoms_spec (ws := cw_C_makeShare :: TW) B.pre w (List.mem_cons_of_mem _ h)
  have hown : s.vm.findClass R_C = some m.cls := findClass_of_methodNamed B.named
  have hlocks := B.notSynchronized
  have hK := hE.1
  have hS : va_S A s.heap s.heap [] := va_S.rf
  have hl := lv_entry ([.ref o, .ref la, .ref ra]) (n := 4) (Nat.le_of_ble_eq_true rfl)
  rw [lg_entry_eq]
  generalize (lg_sl ([.ref o, .ref la, .ref ra]) ++ List.replicate (4 - (lg_sl ([.ref o, .ref la, .ref ra])).length) Slot.unset).toArray = ls at hl ⊢
  have hl : lv_has ls 4 [(0, .ref o), (1, .ref la), (2, .ref ra)] := hl
  obtain ⟨wa0, da0, ho0⟩ := CCs.o hR
  refine lv_aload_n hx hb d_C_makeShare_0 rfl (lv_at hl 0 rfl) ?_
  refine lv_iconst (v := (nI 3)) hx hb d_C_makeShare_1 (by decide) ?_
  refine lv_aload_n hx hb d_C_makeShare_2 rfl (lv_at hl 2 rfl) ?_
  refine lv_aload_n hx hb d_C_makeShare_3 rfl (lv_at hl 0 rfl) ?_
  refine va_get (D := xD G) (ci := 0) (C := R_C) (T := F_C) (N := 10) hx hb ht in_C hown hK hP 0 ho0 rfl 0 (by decide) (ht _ k_fl_C_12) (fun _ h9 => h9) rfl d_C_makeShare_4 ?_
  refine x_calli (va_runV (As := [.int (nI 3), .ref ra, .ref z]) (rest := []) ⟨hx, hb, hml, hown, ht⟩ (c_addV l G A ws o z u lv le lk V E K inp w d wV wC hR (by omega) 3 ra z g zr hg hR.z.1) (cwV 3 ht (TW_V k_ml_C_195 k_im_C_addVariable k_se_C_addVariable k_in_C k_code_C_addVariable) rfl rfl rfl hv_C_addVariable ⟨Nat.le_of_ble_eq_true rfl, Nat.le_of_ble_eq_true rfl⟩) ⟨x_blind, va_recv hK hP rfl ho0, x_pre hE hA hS hP hD⟩ rfl rfl hl.1 rfl (lv_room (Nat.le_of_ble_eq_true rfl)) d_C_makeShare_7 ⟨Nat.le_of_ble_eq_true rfl, Nat.le_of_ble_eq_true rfl⟩) hS (fun r3 w2 H locs q1 hP hD hS => ?_)
  refine W.widen (k := 2) (n := 154) (Nat.le_of_ble_eq_true rfl) (Nat.le_of_ble_eq_true rfl) ?_
  obtain ⟨rfl, hR1, kk1⟩ := q1
  refine x_callr (va_runS (As := [.int (nI V.length)]) (rest := []) ⟨hx, hb, hml, hown, ht⟩ (c_S_of l G A w2 V.length (by omega)) (va_cwS 1 ht (TW_S k_ml_C_16 k_st_S_ofVariable k_in_S k_code_S_ofVariable) rfl rfl rfl hv_S_ofVariable.2 ⟨Nat.le_of_ble_eq_true rfl, Nat.le_of_ble_eq_true rfl⟩) ⟨x_blind, x_pre hE hA hS hP hD⟩ rfl rfl hl.1 rfl (lv_room (Nat.le_of_ble_eq_true rfl)) d_C_makeShare_10 ⟨Nat.le_of_ble_eq_true rfl, Nat.le_of_ble_eq_true rfl⟩) hS (fun r6 w5 H locs q4 hP hD hS => ?_)
  refine W.widen (k := 4) (n := 215) (Nat.le_of_ble_eq_true rfl) (Nat.le_of_ble_eq_true rfl) ?_
  obtain ⟨hR2, kk2, iS⟩ := mkS_CC hR1 q4 (fun j _ => unit_lt _ j)
  obtain ⟨wa2, da2, ho2⟩ := CCs.o hR2
  refine lv_astore_n (lv' := [(3, .ref r6), (0, .ref o), (1, .ref la), (2, .ref ra)]) hx hb d_C_makeShare_13 rfl hl (by decide) rfl (fun ls hl => ?_)
  refine lv_aload_n hx hb d_C_makeShare_14 rfl (lv_at hl 1 rfl) ?_
  refine lv_aload_n hx hb d_C_makeShare_15 rfl (lv_at hl 3 rfl) ?_
  refine lv_aload_n hx hb d_C_makeShare_16 rfl (lv_at hl 0 rfl) ?_
  refine lv_aload_n hx hb d_C_makeShare_17 rfl (lv_at hl 1 rfl) ?_
  refine va_get (D := xD G) (ci := 0) (C := R_C) (T := F_C) (N := 10) hx hb ht in_C hown hK hP 0 ho2 rfl 1 (by decide) (ht _ k_fl_C_20) (fun _ h9 => h9) rfl d_C_makeShare_18 ?_
  refine x_callv (va_runV (As := [.ref ra, .ref r6, .ref u]) (rest := []) ⟨hx, hb, hml, hown, ht⟩ (c_addK l G A w5 o z u lv le lk _ E K inp w d wV wC hR2 (by omega) ra r6 u g (unit V.length) (unit 0) (hg.kp (kk1.tr kk2)) iS hR2.z.2) (cwV 3 ht (TW_V k_ml_C_90 k_im_C_addConstraint k_se_C_addConstraint k_in_C k_code_C_addConstraint) rfl rfl rfl hv_C_addConstraint ⟨Nat.le_of_ble_eq_true rfl, Nat.le_of_ble_eq_true rfl⟩) ⟨x_blind, va_recv hK hP rfl ho2, x_pre hE hA hS hP hD⟩ rfl rfl hl.1 rfl (lv_room (Nat.le_of_ble_eq_true rfl)) d_C_makeShare_21 ⟨Nat.le_of_ble_eq_true rfl, Nat.le_of_ble_eq_true rfl⟩) hS (fun w8 H locs q7 hP hD hS => ?_)
  refine W.widen (k := 6) (n := 368) (Nat.le_of_ble_eq_true rfl) (Nat.le_of_ble_eq_true rfl) ?_
  obtain ⟨hR3, kk3⟩ := q7
  obtain ⟨wa3, da3, ho3⟩ := CCs.o hR3
  refine lv_aload_n hx hb d_C_makeShare_24 rfl (lv_at hl 1 rfl) ?_
  refine lv_aload_n hx hb d_C_makeShare_25 rfl (lv_at hl 2 rfl) ?_
  refine lv_aload_n hx hb d_C_makeShare_26 rfl (lv_at hl 0 rfl) ?_
  refine x_callr (va_runV (As := [.ref la, .ref r6]) (rest := []) ⟨hx, hb, hml, hown, ht⟩ (c_mcp l G A w8 o z u lv le lk _ E _ inp w d wV wC hR3 (by rw [List.length_append]; show V.length + 1 < 60; omega) (by rw [List.length_append]; show K.length + 1 < 80; omega) la r6 f (unit V.length) (hf.kp ((kk1.tr kk2).tr kk3)) (iS.kp kk3)) (cwV 2 ht (TW_V k_ml_C_219 k_im_C_makeConstrainedProduct k_se_C_makeConstrainedProduct k_in_C k_code_C_makeConstrainedProduct) rfl rfl rfl hv_C_makeConstrainedProduct ⟨Nat.le_of_ble_eq_true rfl, Nat.le_of_ble_eq_true rfl⟩) ⟨x_blind, va_recv hK hP rfl ho3, x_pre hE hA hS hP hD⟩ rfl rfl hl.1 rfl (lv_room (Nat.le_of_ble_eq_true rfl)) d_C_makeShare_27 ⟨Nat.le_of_ble_eq_true rfl, Nat.le_of_ble_eq_true rfl⟩) hS (fun r11 w10 H locs q9 hP hD hS => ?_)
  refine W.widen (k := 12) (n := 736) (Nat.le_of_ble_eq_true rfl) (Nat.le_of_ble_eq_true rfl) ?_
  obtain ⟨iS4, hR4, kk4⟩ := q9
  exact x_aret hx hb hr (Or.inl ⟨_, rfl⟩) hlocks hS hP hD (Nat.le_of_ble_eq_true rfl) (Nat.le_of_ble_eq_true rfl) d_C_makeShare_30 (⟨iS4, hR4, ((kk1.tr kk2).tr kk3).tr kk4⟩)

set_option maxHeartbeats 4000000 in
set_option maxRecDepth 100000 in
theorem c_msame (l : Launch) (G : xG) (A : Nat → Prop) (ws : va_W) (o z u lv le lk : Nat) (V : List VV) (E : List EE) (K : List KK) (inp : Nat) (w d : Nat → Nat) (wV wC : Nat) (hR : CCs G ws o z u lv le lk V E K inp w d wV wC) (la : Nat) (f : Nat → Nat) (hf : isS G ws la f) (bV : V.length + 2 ≤ 60) (bK : K.length + 2 ≤ 80) : Met l y_C_makeSame (cw_C_makeSame :: TW) { frames := 10, cells := 14, slots := 797, locals := 260 } (va_Pc [.ref o, .ref la] (x_P G A ws)) (qR G A (fun r w9 => isS G w9 r (sameS (V, K) f).2 ∧ CCs G w9 o z u lv le lk (sameS (V, K) f).1.1 E (sameS (V, K) f).1.2 inp w d wV wC ∧ kp ws w9)) 14 797 A := by
  refine Met.ofW (cc := b_C_makeSame) (maxL := 4) (ret := (some (.object "ConstraintCompiler$Sum"))) (by decide) rfl ?_
  intro p e s m args below meth c s₁ B hml hv
  obtain ⟨rfl, hE, hA, hP, hD⟩ := hv
  have hx := B.exec
  have hb := B.bytes
  have hr := B.returns
  have ht : ∀ w ∈ TW, w.before _ s = true := fun w h => atoms_spec (ws := cw_C_makeSame :: TW) B.pre w (List.mem_cons_of_mem _ h)
  have hown : s.vm.findClass R_C = some m.cls := findClass_of_methodNamed B.named
  have hlocks := B.notSynchronized
  have hK := hE.1
  have hS : va_S A s.heap s.heap [] := va_S.rf
  have hl := lv_entry ([.ref o, .ref la]) (n := 4) (Nat.le_of_ble_eq_true rfl)
  rw [lg_entry_eq]
  generalize (lg_sl ([.ref o, .ref la]) ++ List.replicate (4 - (lg_sl ([.ref o, .ref la])).length) Slot.unset).toArray = ls at hl ⊢
  have hl : lv_has ls 4 [(0, .ref o), (1, .ref la)] := hl
  obtain ⟨wa0, da0, ho0⟩ := CCs.o hR
  refine lv_aload_n hx hb d_C_makeSame_0 rfl (lv_at hl 0 rfl) ?_
  refine lv_iconst (v := (nI 4)) hx hb d_C_makeSame_1 (by decide) ?_
  refine lv_aload_n hx hb d_C_makeSame_2 rfl (lv_at hl 1 rfl) ?_
  refine lv_aload_n hx hb d_C_makeSame_3 rfl (lv_at hl 0 rfl) ?_
  refine va_get (D := xD G) (ci := 0) (C := R_C) (T := F_C) (N := 10) hx hb ht in_C hown hK hP 0 ho0 rfl 0 (by decide) (ht _ k_fl_C_12) (fun _ h9 => h9) rfl d_C_makeSame_4 ?_
  refine x_calli (va_runV (As := [.int (nI 4), .ref la, .ref z]) (rest := []) ⟨hx, hb, hml, hown, ht⟩ (c_addV l G A ws o z u lv le lk V E K inp w d wV wC hR (by omega) 4 la z f zr hf hR.z.1) (cwV 3 ht (TW_V k_ml_C_195 k_im_C_addVariable k_se_C_addVariable k_in_C k_code_C_addVariable) rfl rfl rfl hv_C_addVariable ⟨Nat.le_of_ble_eq_true rfl, Nat.le_of_ble_eq_true rfl⟩) ⟨x_blind, va_recv hK hP rfl ho0, x_pre hE hA hS hP hD⟩ rfl rfl hl.1 rfl (lv_room (Nat.le_of_ble_eq_true rfl)) d_C_makeSame_7 ⟨Nat.le_of_ble_eq_true rfl, Nat.le_of_ble_eq_true rfl⟩) hS (fun r3 w2 H locs q1 hP hD hS => ?_)
  refine W.widen (k := 2) (n := 154) (Nat.le_of_ble_eq_true rfl) (Nat.le_of_ble_eq_true rfl) ?_
  obtain ⟨rfl, hR1, kk1⟩ := q1
  refine x_callr (va_runS (As := [.int (nI V.length)]) (rest := []) ⟨hx, hb, hml, hown, ht⟩ (c_S_of l G A w2 V.length (by omega)) (va_cwS 1 ht (TW_S k_ml_C_16 k_st_S_ofVariable k_in_S k_code_S_ofVariable) rfl rfl rfl hv_S_ofVariable.2 ⟨Nat.le_of_ble_eq_true rfl, Nat.le_of_ble_eq_true rfl⟩) ⟨x_blind, x_pre hE hA hS hP hD⟩ rfl rfl hl.1 rfl (lv_room (Nat.le_of_ble_eq_true rfl)) d_C_makeSame_10 ⟨Nat.le_of_ble_eq_true rfl, Nat.le_of_ble_eq_true rfl⟩) hS (fun r6 w5 H locs q4 hP hD hS => ?_)
  refine W.widen (k := 4) (n := 215) (Nat.le_of_ble_eq_true rfl) (Nat.le_of_ble_eq_true rfl) ?_
  obtain ⟨hR2, kk2, iS⟩ := mkS_CC hR1 q4 (fun j _ => unit_lt _ j)
  have kA := kk1.tr kk2
  obtain ⟨wa2, da2, ho2⟩ := CCs.o hR2
  refine lv_astore_n (lv' := [(2, .ref r6), (0, .ref o), (1, .ref la)]) hx hb d_C_makeSame_13 rfl hl (by decide) rfl (fun ls hl => ?_)
  refine lv_aload_n hx hb d_C_makeSame_14 rfl (lv_at hl 1 rfl) ?_
  refine lv_iconst (v := (nI 5)) hx hb d_C_makeSame_15 (by decide) ?_
  refine lv_aload_n hx hb d_C_makeSame_16 rfl (lv_at hl 2 rfl) ?_
  refine lv_aload_n hx hb d_C_makeSame_17 rfl (lv_at hl 1 rfl) ?_
  refine va_get (D := xD G) (ci := 0) (C := R_C) (T := F_C) (N := 10) hx hb ht in_C hown hK hP 0 ho2 rfl 0 (by decide) (ht _ k_fl_C_12) (fun _ h9 => h9) rfl d_C_makeSame_18 ?_
  refine x_calli (va_runV (As := [.int (nI 5), .ref la, .ref z]) (rest := []) ⟨hx, hb, hml, hown, ht⟩ (c_addV l G A w5 o z u lv le lk _ E K inp w d wV wC hR2 (by rw [List.length_append]; show V.length + 1 ≤ 60; omega) 5 la z f zr (hf.kp kA) hR2.z.1) (cwV 3 ht (TW_V k_ml_C_195 k_im_C_addVariable k_se_C_addVariable k_in_C k_code_C_addVariable) rfl rfl rfl hv_C_addVariable ⟨Nat.le_of_ble_eq_true rfl, Nat.le_of_ble_eq_true rfl⟩) ⟨x_blind, va_recv hK hP rfl ho2, x_pre hE hA hS hP hD⟩ rfl rfl hl.1 rfl (lv_room (Nat.le_of_ble_eq_true rfl)) d_C_makeSame_21 ⟨Nat.le_of_ble_eq_true rfl, Nat.le_of_ble_eq_true rfl⟩) hS (fun r9 w8 H locs q7 hP hD hS => ?_)
  refine W.widen (k := 6) (n := 369) (Nat.le_of_ble_eq_true rfl) (Nat.le_of_ble_eq_true rfl) ?_
  obtain ⟨rfl, hR3, kk3⟩ := q7
  refine x_callr (va_runS (As := [.int (nI (V ++ [(4, f, zr, 0)]).length)]) (rest := []) ⟨hx, hb, hml, hown, ht⟩ (c_S_of l G A w8 (V ++ [(4, f, zr, 0)]).length (by rw [List.length_append]; show V.length + 1 < 60; omega)) (va_cwS 1 ht (TW_S k_ml_C_16 k_st_S_ofVariable k_in_S k_code_S_ofVariable) rfl rfl rfl hv_S_ofVariable.2 ⟨Nat.le_of_ble_eq_true rfl, Nat.le_of_ble_eq_true rfl⟩) ⟨x_blind, x_pre hE hA hS hP hD⟩ rfl rfl hl.1 rfl (lv_room (Nat.le_of_ble_eq_true rfl)) d_C_makeSame_24 ⟨Nat.le_of_ble_eq_true rfl, Nat.le_of_ble_eq_true rfl⟩) hS (fun r12 w11 H locs q10 hP hD hS => ?_)
  refine W.widen (k := 8) (n := 430) (Nat.le_of_ble_eq_true rfl) (Nat.le_of_ble_eq_true rfl) ?_
  obtain ⟨hR4, kk4, iR⟩ := mkS_CC hR3 q10 (fun j _ => unit_lt _ j)
  have kB := (kA.tr kk3).tr kk4
  obtain ⟨wa4, da4, ho4⟩ := CCs.o hR4
  have iu := hR4.z.2
  obtain ⟨kU, jU, cU, fU, pU, qU, nU, oU, eU, bU⟩ := id iu
  refine lv_astore_n (lv' := [(3, .ref r12), (2, .ref r6), (0, .ref o), (1, .ref la)]) hx hb d_C_makeSame_27 rfl hl (by decide) rfl (fun ls hl => ?_)
  refine lv_aload_n hx hb d_C_makeSame_28 rfl (lv_at hl 2 rfl) ?_
  refine lv_aload_n hx hb d_C_makeSame_29 rfl (lv_at hl 3 rfl) ?_
  refine lv_aload_n hx hb d_C_makeSame_30 rfl (lv_at hl 1 rfl) ?_
  refine lv_aload_n hx hb d_C_makeSame_31 rfl (lv_at hl 2 rfl) ?_
  refine va_get (D := xD G) (ci := 0) (C := R_C) (T := F_C) (N := 10) hx hb ht in_C hown hK hP 0 ho4 rfl 1 (by decide) (ht _ k_fl_C_20) (fun _ h9 => h9) rfl d_C_makeSame_32 ?_
  refine lv_aload_n hx hb d_C_makeSame_35 rfl (lv_at hl 0 rfl) ?_
  refine x_callr (va_runV (As := [.ref r12]) (rest := [.ref r6, .ref la, .ref o]) ⟨hx, hb, hml, hown, ht⟩ (c_S_minus l G A w11 u r12 (unit 0) _ iu iR) (cwV 1 ht (TW_V k_ml_C_97 k_im_S_minus k_se_S_minus k_in_S k_code_S_minus) rfl rfl rfl hv_S_minus ⟨Nat.le_of_ble_eq_true rfl, Nat.le_of_ble_eq_true rfl⟩) ⟨x_blind, va_recv hK hP rfl pU, x_pre hE hA hS hP hD⟩ rfl rfl hl.1 rfl (lv_room (Nat.le_of_ble_eq_true rfl)) d_C_makeSame_36 ⟨Nat.le_of_ble_eq_true rfl, Nat.le_of_ble_eq_true rfl⟩) hS (fun r15 w14 H locs q13 hP hD hS => ?_)
  refine W.widen (k := 10) (n := 491) (Nat.le_of_ble_eq_true rfl) (Nat.le_of_ble_eq_true rfl) ?_
  obtain ⟨hR5, kk5, iD⟩ := mkS_CC hR4 q13 (fun j _ => cmb_lt j)
  obtain ⟨wa5, da5, ho5⟩ := CCs.o hR5
  refine x_callv (va_runV (As := [.ref la, .ref r6, .ref r15]) (rest := []) ⟨hx, hb, hml, hown, ht⟩ (c_addK l G A w14 o z u lv le lk _ E K inp w d wV wC hR5 (by omega) la r6 r15 f _ _ (hf.kp (kB.tr kk5)) (iS.kp ((kk3.tr kk4).tr kk5)) iD) (cwV 3 ht (TW_V k_ml_C_90 k_im_C_addConstraint k_se_C_addConstraint k_in_C k_code_C_addConstraint) rfl rfl rfl hv_C_addConstraint ⟨Nat.le_of_ble_eq_true rfl, Nat.le_of_ble_eq_true rfl⟩) ⟨x_blind, va_recv hK hP rfl ho5, x_pre hE hA hS hP hD⟩ rfl rfl hl.1 rfl (lv_room (Nat.le_of_ble_eq_true rfl)) d_C_makeSame_39 ⟨Nat.le_of_ble_eq_true rfl, Nat.le_of_ble_eq_true rfl⟩) hS (fun w17 H locs q16 hP hD hS => ?_)
  refine W.widen (k := 12) (n := 644) (Nat.le_of_ble_eq_true rfl) (Nat.le_of_ble_eq_true rfl) ?_
  obtain ⟨hR6, kk6⟩ := q16
  have kC := (kB.tr kk5).tr kk6
  obtain ⟨wa6, da6, ho6⟩ := CCs.o hR6
  refine lv_aload_n hx hb d_C_makeSame_42 rfl (lv_at hl 2 rfl) ?_
  refine lv_aload_n hx hb d_C_makeSame_43 rfl (lv_at hl 3 rfl) ?_
  refine lv_aload_n hx hb d_C_makeSame_44 rfl (lv_at hl 0 rfl) ?_
  refine lv_aload_n hx hb d_C_makeSame_45 rfl (lv_at hl 2 rfl) ?_
  refine va_get (D := xD G) (ci := 0) (C := R_C) (T := F_C) (N := 10) hx hb ht in_C hown hK hP 0 ho6 rfl 0 (by decide) (ht _ k_fl_C_12) (fun _ h9 => h9) rfl d_C_makeSame_46 ?_
  refine x_callv (va_runV (As := [.ref la, .ref r12, .ref z]) (rest := []) ⟨hx, hb, hml, hown, ht⟩ (c_addK l G A w17 o z u lv le lk _ E _ inp w d wV wC hR6 (by rw [List.length_append]; show K.length + 1 ≤ 80; omega) la r12 z f _ zr (hf.kp kC) (iR.kp (kk5.tr kk6)) hR6.z.1) (cwV 3 ht (TW_V k_ml_C_90 k_im_C_addConstraint k_se_C_addConstraint k_in_C k_code_C_addConstraint) rfl rfl rfl hv_C_addConstraint ⟨Nat.le_of_ble_eq_true rfl, Nat.le_of_ble_eq_true rfl⟩) ⟨x_blind, va_recv hK hP rfl ho6, x_pre hE hA hS hP hD⟩ rfl rfl hl.1 rfl (lv_room (Nat.le_of_ble_eq_true rfl)) d_C_makeSame_49 ⟨Nat.le_of_ble_eq_true rfl, Nat.le_of_ble_eq_true rfl⟩) hS (fun w19 H locs q18 hP hD hS => ?_)
  refine W.widen (k := 14) (n := 797) (Nat.le_of_ble_eq_true rfl) (Nat.le_of_ble_eq_true rfl) ?_
  obtain ⟨hR7, kk7⟩ := q18
  refine lv_aload_n hx hb d_C_makeSame_52 rfl (lv_at hl 0 rfl) ?_
  exact x_aret hx hb hr (Or.inl ⟨_, rfl⟩) hlocks hS hP hD (Nat.le_of_ble_eq_true rfl) (Nat.le_of_ble_eq_true rfl) d_C_makeSame_53 (⟨iR.kp ((kk5.tr kk6).tr kk7), hR7, kC.tr kk7⟩)
end
section
theorem CCs.x {G : xG} {ws : va_W} {o z u lv le lk : Nat} {V : List VV} {E : List EE} {K : List KK} {inp : Nat} {w d : Nat → Nat} {wV wC : Nat} (h : CCs G ws o z u lv le lk V E K inp w d wV wC) (inp2 : Nat) : ∃ wa da : Nat, ws[0]? = some (o, .inr (0, [.ref z, .ref u, .ref lv, .ref le, .ref lk, .int (nI inp), .ref wa, .ref da, .int (nI wV), .int (nI wC)])) ∧ CCs G (ws.set 0 (o, .inr (0, [.ref z, .ref u, .ref lv, .ref le, .ref lk, .int (nI inp2), .ref wa, .ref da, .int (nI wV), .int (nI wC)]))) o z u lv le lk V E K inp2 w d wV wC ∧ kp ws (ws.set 0 (o, .inr (0, [.ref z, .ref u, .ref lv, .ref le, .ref lk, .int (nI inp2), .ref wa, .ref da, .int (nI wV), .int (nI wC)]))) := by
  obtain ⟨wa, da, kV, kE, kK, gV, gE, gK, h⟩ := h
  have h2 := CCx.put0 (inp2 := inp2) (wV2 := wV) (wC2 := wC) h h.2.2.2.2.2.2.2.2.2.2.2.1
  exact ⟨wa, da, h.1, ⟨_, _, _, _, _, _, _, _, h2.1⟩, h2.2⟩
theorem isS.setE {G : xG} {ws : va_W} {a k0 ea : Nat} {f : Nat → Nat} {fs : List Value} {x : Nat × va_E} (h : isS G ws a f) (h0 : ws[k0]? = some (ea, .inr (3, fs))) : isS G (ws.set k0 x) a f := by
  obtain ⟨k, k', ca, hh, h1, h2, h3⟩ := h
  exact ⟨k, k', ca, hh, w_ne (w_dif h0 h1 (by simp)) h1, w_ne (w_dif h0 h2 (by simp)) h2, h3⟩
theorem isL.setE {G : xG} {ws : va_W} {k0 ea kl al n : Nat} {ka : Option Nat} {g : Nat → Nat} {fs : List Value} {x : Nat × va_E} (h : isL G ws kl ka al n g) (h0 : ws[k0]? = some (ea, .inr (3, fs))) : isL G (ws.set k0 x) kl ka al n g := by
  obtain ⟨mo, ea2, q0, qd⟩ := h
  refine ⟨mo, ea2, w_ne (w_dif h0 q0 (by simp)) q0, ?_⟩
  rcases qd with h | ⟨k, cap, f, e1, e2, e3⟩
  · exact Or.inl h
  · exact Or.inr ⟨k, cap, f, e1, w_ne (w_dif h0 e2 (by simp)) e2, e3⟩
theorem CCs.setE {G : xG} {ws : va_W} {o z u lv le lk : Nat} {V : List VV} {E : List EE} {K : List KK} {inp : Nat} {w d : Nat → Nat} {wV wC : Nat} (h : CCs G ws o z u lv le lk V E K inp w d wV wC) {k0 ea : Nat} {x0 : Value} (h0 : ws[k0]? = some (ea, .inr (3, [.null, x0]))) (x : va_E) : CCs G (ws.set k0 (ea, x)) o z u lv le lk V E K inp w d wV wC := by
  obtain ⟨wa, da, kV, kE, kK, gV, gE, gK, h1, h2, h3, h4, h5, h6, h7, h8, h9, h10, h11, h12, h13⟩ := h
  refine ⟨wa, da, kV, kE, kK, gV, gE, gK, w_ne (w_dif h0 h1 (by simp)) h1, h2.setE h0, h3.setE h0, h4.setE h0, h5.setE h0, h6.setE h0, ?_, ?_, ?_, h10, h11, ?_, by rw [w_setlen]; exact h13⟩
  · intro i y hy
    obtain ⟨k, la, ra, e1, e2, e3⟩ := h7 i y hy
    exact ⟨k, la, ra, w_ne (w_dif h0 e1 (by simp)) e1, e2.setE h0, e3.setE h0⟩
  · intro i y hy
    obtain ⟨k, sa, e1, e2⟩ := h8 i y hy
    exact ⟨k, sa, w_ne (w_dif h0 e1 (by simp)) e1, e2.setE h0⟩
  · intro i y hy
    obtain ⟨k, xa, ya, za, e1, e2, e3, e4⟩ := h9 i y hy
    exact ⟨k, xa, ya, za, w_ne (w_dif h0 e1 (by simp)) e1, e2.setE h0, e3.setE h0, e4.setE h0⟩
  · obtain ⟨kw, kd, hw, hd, e0, e1, e2, e3⟩ := h12
    exact ⟨kw, kd, hw, hd, e0, w_ne (w_dif h0 e1 (by simp)) e1, w_ne (w_dif h0 e2 (by simp)) e2, e3⟩
theorem powS_succ (n : Nat) (s : VK) (cur base : Nat → Nat) : powS (n + 1) s cur base = powS n (prodS s cur base).1 (prodS s cur base).2 base := rfl

set_option maxHeartbeats 4000000 in
set_option maxRecDepth 100000 in
theorem c_mpow (l : Launch) (G : xG) (A : Nat → Prop) (ws : va_W) (o z u lv le lk : Nat) (V : List VV) (E : List EE) (K : List KK) (inp : Nat) (w d : Nat → Nat) (wV wC : Nat) (hR : CCs G ws o z u lv le lk V E K inp w d wV wC) (la b : Nat) (f : Nat → Nat) (hf : isS G ws la f) (hb1 : 1 ≤ b) (hb5 : b ≤ 5) (bV : V.length + (b - 1) * cp f f ≤ 60) (bK : K.length + (b - 1) * cp f f ≤ 80) : Met l y_C_makePower (cw_C_makePower :: TW) { frames := 11, cells := 24, slots := 1472, locals := 286 } (va_Pc [.ref o, .ref la, .int (nI b)] (x_P G A ws)) (qR G A (fun r w9 => isS G w9 r (powS (b - 1) (V, K) f f).2 ∧ CCs G w9 o z u lv le lk (powS (b - 1) (V, K) f f).1.1 E (powS (b - 1) (V, K) f f).1.2 inp w d wV wC ∧ kp ws w9)) 24 1472 A := by
  refine Met.ofW (cc := b_C_makePower) (maxL := 5) (ret := (some (.object "ConstraintCompiler$Sum"))) (by decide) rfl ?_
  intro p e s m args below meth c s₁ B hml hv
  obtain ⟨rfl, hE, hA, hP, hD⟩ := hv
  have hx := B.exec
  have hb := B.bytes
  have hr := B.returns
  have ht : ∀ w ∈ TW, w.before _ s = true := fun w h => atoms_spec (ws := cw_C_makePower :: TW) B.pre w (List.mem_cons_of_mem _ h)
  have hown : s.vm.findClass R_C = some m.cls := findClass_of_methodNamed B.named
  have hlocks := B.notSynchronized
  have hK := hE.1
  have hS : va_S A s.heap s.heap [] := va_S.rf
  have hl := lv_entry ([.ref o, .ref la, .int (nI b)]) (n := 5) (Nat.le_of_ble_eq_true rfl)
  rw [lg_entry_eq]
  generalize (lg_sl ([.ref o, .ref la, .int (nI b)]) ++ List.replicate (5 - (lg_sl ([.ref o, .ref la, .int (nI b)])).length) Slot.unset).toArray = ls at hl ⊢
  have hl : lv_has ls 5 [(0, .ref o), (1, .ref la), (2, .int (nI b))] := hl
  obtain ⟨wa0, da0, ho0⟩ := CCs.o hR
  refine lv_aload_n hx hb d_C_makePower_0 rfl (lv_at hl 1 rfl) ?_
  refine lv_astore_n (lv' := [(3, .ref la), (0, .ref o), (1, .ref la), (2, .int (nI b))]) hx hb d_C_makePower_1 rfl hl (by decide) rfl (fun ls hl => ?_)
  refine lv_iconst (v := (nI 1)) hx hb d_C_makePower_2 (by decide) ?_
  refine lv_istore (lv' := [(4, .int (nI 1)), (3, .ref la), (0, .ref o), (1, .ref la), (2, .int (nI b))]) hx hb d_C_makePower_3 hl (by decide) rfl (fun ls hl => ?_)
  have loop : ∀ (n i : Nat), i + n = b → 1 ≤ i → ∀ (V1 : List VV) (K1 : List KK) (cur : Nat → Nat) (ra : Nat) (w9 : va_W) (H : Heap) (locs : List Loc) (ls : Array Slot), powS n (V1, K1) cur f = powS (b - 1) (V, K) f f → V1.length ≤ V.length + (i - 1) * cp f f → K1.length ≤ K.length + (i - 1) * cp f f → isS G w9 ra cur → CCs G w9 o z u lv le lk V1 E K1 inp w d wV wC → kp ws w9 → va_P (xD G) CL w9 H → va_D A w9 → va_S A s.heap H locs → lv_has ls 5 [(4, .int (nI i)), (3, .ref ra), (0, .ref o), (1, .ref la), (2, .int (nI b))] → W p l e (headSpec (cw_C_makePower :: TW) { frames := 11, cells := 24, slots := 1472, locals := 286 }).room s m ([.ref o, .ref la, .int (nI b)] : List Value).toArray below meth c H locs (6 * (i - 1)) (368 * (i - 1)) (MQ below (qR G A (fun r w9 => isS G w9 r (powS (b - 1) (V, K) f f).2 ∧ CCs G w9 o z u lv le lk (powS (b - 1) (V, K) f f).1.1 E (powS (b - 1) (V, K) f f).1.2 inp w d wV wC ∧ kp ws w9)) ([.ref o, .ref la, .int (nI b)] : List Value).toArray s 24 1472 A) (F0 m 5 ls []) := by
    intro n
    induction n with
    | zero =>
      intro i hi hi1 V1 K1 cur ra w9 H locs ls he hlV hlK hc hR1 kk hP hD hS hl
      refine lv_iload hx hb d_C_makePower_5 (lv_at hl 0 rfl) ?_
      refine lv_iload_n hx hb d_C_makePower_7 rfl (lv_at hl 4 rfl) ?_
      refine x_ge hx hb i b rfl rfl (by omega) (by omega) (tgt := 24) d_C_makePower_8 (by decide) (fun c1 => ?_) (fun c1 => ?_)
      · refine lv_aload_n hx hb d_C_makePower_24 rfl (lv_at hl 1 rfl) ?_
        have e9 : powS (b - 1) (V, K) f f = ((V1, K1), cur) := he.symm
        exact x_aret hx hb hr (Or.inl ⟨_, rfl⟩) hlocks hS hP hD (by omega) (by omega) d_C_makePower_25 (by rw [e9]; exact ⟨hc, hR1, kk⟩)
      · exact False.elim (by omega)
    | succ n ih =>
      intro i hi hi1 V1 K1 cur ra w9 H locs ls he hlV hlK hc hR1 kk hP hD hS hl
      refine lv_iload hx hb d_C_makePower_5 (lv_at hl 0 rfl) ?_
      refine lv_iload_n hx hb d_C_makePower_7 rfl (lv_at hl 4 rfl) ?_
      refine x_ge hx hb i b rfl rfl (by omega) (by omega) (tgt := 24) d_C_makePower_8 (by decide) (fun c2 => ?_) (fun c2 => ?_)
      · exact False.elim (by omega)
      · have cr := cp_right cur f
        have m1 : i * cp f f ≤ (b - 1) * cp f f := Nat.mul_le_mul (by omega) (Nat.le_refl _)
        have m2 : i * cp f f = (i - 1) * cp f f + cp f f := by rw [show i = (i - 1) + 1 by omega, Nat.add_mul, Nat.one_mul, Nat.add_sub_cancel]
        obtain ⟨wa1, da1, ho1⟩ := CCs.o hR1
        refine lv_aload_n hx hb d_C_makePower_11 rfl (lv_at hl 2 rfl) ?_
        refine lv_aload_n hx hb d_C_makePower_12 rfl (lv_at hl 1 rfl) ?_
        refine lv_aload_n hx hb d_C_makePower_13 rfl (lv_at hl 3 rfl) ?_
        refine x_callr (va_runV (As := [.ref ra, .ref la]) (rest := []) ⟨hx, hb, hml, hown, ht⟩ (c_mprod l G A w9 o z u lv le lk V1 E K1 inp w d wV wC hR1 ra la cur f hc (hf.kp kk) (by omega) (by omega)) (cwV 2 ht (TW_V k_ml_C_202 k_im_C_makeProduct k_se_C_makeProduct k_in_C k_code_C_makeProduct) rfl rfl rfl hv_C_makeProduct ⟨Nat.le_of_ble_eq_true rfl, Nat.le_of_ble_eq_true rfl⟩) ⟨x_blind, va_recv hK hP rfl ho1, x_pre hE hA hS hP hD⟩ rfl rfl hl.1 rfl (lv_room (Nat.le_of_ble_eq_true rfl)) d_C_makePower_14 ⟨by show 6 * (i - 1) + 6 ≤ 24; omega, by show 368 * (i - 1) + 368 ≤ 1472; omega⟩) hS (fun r5 w4 H locs q3 hP hD hS => ?_)
        refine W.widen (k := 6 * (i + 1 - 1)) (n := 368 * (i + 1 - 1)) (by omega) (by omega) ?_
        obtain ⟨i2, hR2, kk2⟩ := q3
        obtain ⟨z1, z2⟩ := prodS_len (V1, K1) cur f
        refine lv_astore_n (lv' := [(3, .ref r5), (4, .int (nI i)), (0, .ref o), (1, .ref la), (2, .int (nI b))]) hx hb d_C_makePower_17 rfl hl (by decide) rfl (fun ls hl => ?_)
        refine lv_iinc (v := nI (i + 1)) (lv' := [(4, .int (nI (i + 1))), (3, .ref r5), (0, .ref o), (1, .ref la), (2, .int (nI b))]) hx hb d_C_makePower_18 hl (k := 1) rfl (n_inc _) (by decide) rfl (fun ls hl => ?_)
        refine lv_goto (tgt := 5) hx hb d_C_makePower_21 (by decide) ?_
        exact ih (i + 1) (by omega) (by omega) _ _ _ r5 w4 H locs ls (by rw [← he]; rfl) (by rw [z1, Nat.add_sub_cancel]; show V1.length + _ ≤ _; omega) (by rw [z2, Nat.add_sub_cancel]; show K1.length + _ ≤ _; omega) i2 hR2 (kk.tr kk2) hP hD hS (lv_sub hl [0, 1, 2, 3, 4] rfl)
  exact loop (b - 1) 1 (by omega) (by decide) V K f la ws s.heap [] ls rfl (by omega) (by omega) hf hR kp.rf hP hD hS hl

set_option maxHeartbeats 4000000 in
set_option maxRecDepth 100000 in
theorem c_minput (l : Launch) (G : xG) (A : Nat → Prop) (ws : va_W) (o z u lv le lk : Nat) (V : List VV) (E : List EE) (K : List KK) (inp : Nat) (w d : Nat → Nat) (wV wC : Nat) (hR : CCs G ws o z u lv le lk V E K inp w d wV wC) (bV : V.length < 60) (bI : inp < 1000) : Met l y_C_makeInput (cw_C_makeInput :: TW) { frames := 9, cells := 5, slots := 217, locals := 234 } (va_Pc [.ref o] (x_P G A ws)) (qR G A (fun r w9 => isE G w9 r (unit V.length, V.length) ∧ CCs G w9 o z u lv le lk (V ++ [(1, zr, zr, 0)]) E K (inp + 1) w d wV wC ∧ kp ws w9)) 5 217 A := by
  refine Met.ofW (cc := b_C_makeInput) (maxL := 2) (ret := (some (.object "ConstraintCompiler$Expression"))) (by decide) rfl ?_
  intro p e s m args below meth c s₁ B hml hv
  obtain ⟨rfl, hE, hA, hP, hD⟩ := hv
  have hx := B.exec
  have hb := B.bytes
  have hr := B.returns
  have ht : ∀ w ∈ TW, w.before _ s = true := fun w h => atoms_spec (ws := cw_C_makeInput :: TW) B.pre w (List.mem_cons_of_mem _ h)
  have hown : s.vm.findClass R_C = some m.cls := findClass_of_methodNamed B.named
  have hlocks := B.notSynchronized
  have hK := hE.1
  have hS : va_S A s.heap s.heap [] := va_S.rf
  have hl := lv_entry ([.ref o]) (n := 2) (Nat.le_of_ble_eq_true rfl)
  rw [lg_entry_eq]
  generalize (lg_sl ([.ref o]) ++ List.replicate (2 - (lg_sl ([.ref o])).length) Slot.unset).toArray = ls at hl ⊢
  have hl : lv_has ls 2 [(0, .ref o)] := hl
  obtain ⟨wa0, da0, ho0⟩ := CCs.o hR
  refine lv_aload_n hx hb d_C_makeInput_0 rfl (lv_at hl 0 rfl) ?_
  refine lv_iconst (v := (nI 1)) hx hb d_C_makeInput_1 (by decide) ?_
  refine lv_aload_n hx hb d_C_makeInput_2 rfl (lv_at hl 0 rfl) ?_
  refine va_get (D := xD G) (ci := 0) (C := R_C) (T := F_C) (N := 10) hx hb ht in_C hown hK hP 0 ho0 rfl 0 (by decide) (ht _ k_fl_C_12) (fun _ h9 => h9) rfl d_C_makeInput_3 ?_
  refine lv_aload_n hx hb d_C_makeInput_6 rfl (lv_at hl 0 rfl) ?_
  refine va_get (D := xD G) (ci := 0) (C := R_C) (T := F_C) (N := 10) hx hb ht in_C hown hK hP 0 ho0 rfl 0 (by decide) (ht _ k_fl_C_12) (fun _ h9 => h9) rfl d_C_makeInput_7 ?_
  refine x_calli (va_runV (As := [.int (nI 1), .ref z, .ref z]) (rest := []) ⟨hx, hb, hml, hown, ht⟩ (c_addV l G A ws o z u lv le lk V E K inp w d wV wC hR (by omega) 1 z z zr zr hR.z.1 hR.z.1) (cwV 3 ht (TW_V k_ml_C_195 k_im_C_addVariable k_se_C_addVariable k_in_C k_code_C_addVariable) rfl rfl rfl hv_C_addVariable ⟨Nat.le_of_ble_eq_true rfl, Nat.le_of_ble_eq_true rfl⟩) ⟨x_blind, va_recv hK hP rfl ho0, x_pre hE hA hS hP hD⟩ rfl rfl hl.1 rfl (lv_room (Nat.le_of_ble_eq_true rfl)) d_C_makeInput_10 ⟨Nat.le_of_ble_eq_true rfl, Nat.le_of_ble_eq_true rfl⟩) hS (fun r3 w2 H locs q1 hP hD hS => ?_)
  refine W.widen (k := 2) (n := 154) (Nat.le_of_ble_eq_true rfl) (Nat.le_of_ble_eq_true rfl) ?_
  obtain ⟨rfl, hR1, kk1⟩ := q1
  obtain ⟨wa1, da1, ho1, hR2, kk2⟩ := hR1.x (inp + 1)
  refine lv_istore_n (lv' := [(1, .int (nI V.length)), (0, .ref o)]) hx hb d_C_makeInput_13 rfl hl (by decide) rfl (fun ls hl => ?_)
  refine lv_aload_n hx hb d_C_makeInput_14 rfl (lv_at hl 1 rfl) ?_
  refine lv_dup hx hb d_C_makeInput_15 rfl ?_
  refine va_get (D := xD G) (ci := 0) (C := R_C) (T := F_C) (N := 10) hx hb ht in_C hown hK hP 0 ho1 rfl 5 (by decide) (ht _ k_fl_C_172) (fun _ h9 => h9) rfl d_C_makeInput_16 ?_
  refine lv_iconst (v := (nI 1)) hx hb d_C_makeInput_19 (by decide) ?_
  refine lv_iadd hx hb d_C_makeInput_20 ?_
  refine x_top (nI (inp + 1)) (nI_add _ _) ?_
  refine va_put (D := xD G) (ci := 0) (v := .int (nI (inp + 1))) (ty := .int) (C := R_C) (T := F_C) (N := 10) hx hb ht in_C ft_C fo_C nm_C hown hK hP hD hS 0 ho1 rfl 5 (by decide) (ht _ k_fl_C_172) (fun _ h9 => h9) rfl (by decide +kernel) rfl rfl (Nat.le_of_ble_eq_true rfl) d_C_makeInput_21 (fun H locs hP hD hS => ?_)
  have hP : va_P (xD G) CL (w2.set 0 (o, .inr (0, [.ref z, .ref u, .ref lv, .ref le, .ref lk, .int (nI (inp + 1)), .ref wa1, .ref da1, .int (nI wV), .int (nI wC)]))) H := hP
  have hD : va_D A (w2.set 0 (o, .inr (0, [.ref z, .ref u, .ref lv, .ref le, .ref lk, .int (nI (inp + 1)), .ref wa1, .ref da1, .int (nI wV), .int (nI wC)]))) := hD
  obtain ⟨w4, e_w4⟩ : ∃ zz : va_W, zz = w2.set 0 (o, .inr (0, [.ref z, .ref u, .ref lv, .ref le, .ref lk, .int (nI (inp + 1)), .ref wa1, .ref da1, .int (nI wV), .int (nI wC)])) := ⟨_, rfl⟩
  rw [← e_w4] at hP hD
  have h5 : w4[0]? = some (o, .inr (0, [.ref z, .ref u, .ref lv, .ref le, .ref lk, .int (nI (inp + 1)), .ref wa1, .ref da1, .int (nI wV), .int (nI wC)])) := by rw [e_w4]; exact w_eq ho1
  rw [← e_w4] at hR2 kk2
  refine va_new (ci := 3) (fs := [.null, .int 0]) (C := R_E) (T := F_E) (N := 2) hx hb ht in_E ft_E fo_E hown (ht _ k_cl_C_69) (ht _ k_new_E) (ht _ k_in_E) hK hP hD hS hA rfl (fun j hj => by rcases (show j = 0 ∨ j = 1 by omega) with rfl | rfl <;> rfl) (Nat.le_of_ble_eq_true rfl) (Nat.le_of_ble_eq_true rfl) d_C_makeInput_24 (fun ea H hP hD hS => ?_)
  refine W.widen (k := 3) (n := 156) (Nat.le_of_ble_eq_true rfl) (Nat.le_of_ble_eq_true rfl) ?_
  have hP : va_P (xD G) CL (w4 ++ [(ea, .inr (3, [.null, .int 0]))]) H := hP
  have hD : va_D A (w4 ++ [(ea, .inr (3, [.null, .int 0]))]) := hD
  obtain ⟨w6, e_w6⟩ : ∃ zz : va_W, zz = w4 ++ [(ea, .inr (3, [.null, .int 0]))] := ⟨_, rfl⟩
  rw [← e_w6] at hP hD
  have h7 : w6[0]? = some (o, .inr (0, [.ref z, .ref u, .ref lv, .ref le, .ref lk, .int (nI (inp + 1)), .ref wa1, .ref da1, .int (nI wV), .int (nI wC)])) := by rw [e_w6]; exact w_app h5
  have h8 : w6[w4.length]? = some (ea, .inr (3, [.null, .int 0])) := by rw [e_w6]; exact w_new0
  have hR3 := hR2.app (n := [(ea, .inr (3, [.null, .int 0]))])
  rw [← e_w6] at hR3
  have kk3 : kp w4 w6 := by rw [e_w6]; exact kp.app
  refine lv_dup hx hb d_C_makeInput_27 rfl ?_
  refine lv_iload_n hx hb d_C_makeInput_28 rfl (lv_at hl 0 rfl) ?_
  refine x_callr (va_runS (As := [.int (nI V.length)]) (rest := [.ref ea, .ref ea]) ⟨hx, hb, hml, hown, ht⟩ (c_S_of l G A w6 V.length bV) (va_cwS 1 ht (TW_S k_ml_C_16 k_st_S_ofVariable k_in_S k_code_S_ofVariable) rfl rfl rfl hv_S_ofVariable.2 ⟨Nat.le_of_ble_eq_true rfl, Nat.le_of_ble_eq_true rfl⟩) ⟨x_blind, x_pre hE hA hS hP hD⟩ rfl rfl hl.1 rfl (lv_room (Nat.le_of_ble_eq_true rfl)) d_C_makeInput_29 ⟨Nat.le_of_ble_eq_true rfl, Nat.le_of_ble_eq_true rfl⟩) hS (fun r11 w10 H locs q9 hP hD hS => ?_)
  refine W.widen (k := 5) (n := 217) (Nat.le_of_ble_eq_true rfl) (Nat.le_of_ble_eq_true rfl) ?_
  obtain ⟨hR4, kk4, iS⟩ := mkS_CC hR3 q9 (fun j _ => unit_lt _ j)
  have he4 := kk4 _ _ _ h8 (hard_o (Or.inr (Or.inr (Or.inl rfl))))
  refine lv_iload_n hx hb d_C_makeInput_32 rfl (lv_at hl 0 rfl) ?_
  refine x_callv (va_runI (As := [.ref r11, .int (nI V.length)]) (rest := [.ref ea]) ⟨hx, hb, hml, hown, ht⟩ (c_E_init l G A w10 w4.length ea r11 (nI V.length) he4) (cwI 2 ht (TW_good k_code_E_init) rfl rfl rfl (ht _ k_in_E) (ht _ k_ml_C_75) (ht _ k_im_E_init) rfl hv_E_init.2 ⟨Nat.le_of_ble_eq_true rfl, Nat.le_of_ble_eq_true rfl⟩) ⟨x_blind, x_pre hE hA hS hP hD⟩ rfl rfl hl.1 rfl (lv_room (Nat.le_of_ble_eq_true rfl)) d_C_makeInput_33 ⟨Nat.le_of_ble_eq_true rfl, Nat.le_of_ble_eq_true rfl⟩) hS (fun w13 H locs q12 hP hD hS => ?_)
  have hR5 := CCs.setE hR4 he4 (.inr (3, [.ref r11, .int (nI V.length)]))
  rw [← q12] at hR5
  have hh5 : w13[w4.length]? = some (ea, .inr (3, [.ref r11, .int (nI V.length)])) := by rw [q12]; exact w_eq he4
  have iS5 : isS G w13 r11 (unit V.length) := by rw [q12]; exact iS.setE he4
  have kk5 : kp w4 w13 := fun k a e hk hh => by rw [q12]; exact w_ne (by have := w_lt hk; omega) ((kk3.tr kk4) k a e hk hh)
  exact x_aret hx hb hr (Or.inl ⟨_, rfl⟩) hlocks hS hP hD (Nat.le_of_ble_eq_true rfl) (Nat.le_of_ble_eq_true rfl) d_C_makeInput_36 (⟨⟨_, _, hh5, iS5⟩, hR5, (kk1.tr kk2).tr kk5⟩)
end
section
set_option maxHeartbeats 4000000 in
set_option maxRecDepth 100000 in
theorem c_need (l : Launch) (G : xG) (A : Nat → Prop) (ws : va_W) (o z u lv le lk : Nat) (V : List VV) (E : List EE) (K : List KK) (inp : Nat) (w d : Nat → Nat) (wV wC : Nat) (hR : CCs G ws o z u lv le lk V E K inp w d wV wC) (bE : E.length ≤ 60) (kd : Nat) (x1 x2 x3 : Int32) (hw : wfd kd E.length x1 x2 x3) : Met l y_C_constraintsNeeded (cw_C_constraintsNeeded :: TW) { frames := 6, cells := 2, slots := 61, locals := 156 } (va_Pc [.ref o, .int (nI kd), .int x1, .int x2, .int x3] (x_P G A ws)) (qI G A (fun r w9 => r = nI (nd kd E x1 x2 x3) ∧ CCs G w9 o z u lv le lk V E K inp w d wV wC ∧ kp ws w9)) 2 61 A := by
  refine Met.ofW (cc := b_C_constraintsNeeded) (maxL := 5) (ret := (some .int)) (by decide) rfl ?_
  intro p e s m args below meth c s₁ B hml hv
  obtain ⟨rfl, hE, hA, hP, hD⟩ := hv
  have hx := B.exec
  have hb := B.bytes
  have hr := B.returns
  have ht : ∀ w ∈ TW, w.before _ s = true := fun w h => atoms_spec (ws := cw_C_constraintsNeeded :: TW) B.pre w (List.mem_cons_of_mem _ h)
  have hown : s.vm.findClass R_C = some m.cls := findClass_of_methodNamed B.named
  have hlocks := B.notSynchronized
  have hK := hE.1
  have hS : va_S A s.heap s.heap [] := va_S.rf
  have hl := lv_entry ([.ref o, .int (nI kd), .int x1, .int x2, .int x3]) (n := 5) (Nat.le_of_ble_eq_true rfl)
  rw [lg_entry_eq]
  generalize (lg_sl ([.ref o, .int (nI kd), .int x1, .int x2, .int x3]) ++ List.replicate (5 - (lg_sl ([.ref o, .int (nI kd), .int x1, .int x2, .int x3])).length) Slot.unset).toArray = ls at hl ⊢
  have hl : lv_has ls 5 [(0, .ref o), (1, .int (nI kd)), (2, .int x1), (3, .int x2), (4, .int x3)] := hl
  obtain ⟨wa0, da0, ho0⟩ := CCs.o hR
  obtain ⟨w1, w2, w3, w4, w5⟩ := hw
  have hk9 : kd = 0 ∨ kd = 1 ∨ kd = 2 ∨ kd = 3 ∨ kd = 4 ∨ kd = 5 ∨ kd = 6 ∨ kd = 7 ∨ kd = 8 ∨ kd = 9 := by omega
  rcases hk9 with rfl | rfl | rfl | rfl | rfl | rfl | rfl | rfl | rfl | rfl
  · refine lv_iload_n hx hb d_C_constraintsNeeded_0 rfl (lv_at hl 1 rfl) ?_
    refine lv_tableOut (tgt := 90) hx hb d_C_constraintsNeeded_1 (by decide) (by decide) ?_
    refine lv_iconst (v := (nI 0)) hx hb d_C_constraintsNeeded_90 (by decide) ?_
    exact x_iret hx hb hr hlocks hS hP hD (Nat.le_of_ble_eq_true rfl) (Nat.le_of_ble_eq_true rfl) d_C_constraintsNeeded_91 (⟨rfl, hR, kp.rf⟩)
  · refine lv_iload_n hx hb d_C_constraintsNeeded_0 rfl (lv_at hl 1 rfl) ?_
    refine lv_tableOut (tgt := 90) hx hb d_C_constraintsNeeded_1 (by decide) (by decide) ?_
    refine lv_iconst (v := (nI 0)) hx hb d_C_constraintsNeeded_90 (by decide) ?_
    exact x_iret hx hb hr hlocks hS hP hD (Nat.le_of_ble_eq_true rfl) (Nat.le_of_ble_eq_true rfl) d_C_constraintsNeeded_91 (⟨rfl, hR, kp.rf⟩)
  · refine lv_iload_n hx hb d_C_constraintsNeeded_0 rfl (lv_at hl 1 rfl) ?_
    refine lv_tableOut (tgt := 90) hx hb d_C_constraintsNeeded_1 (by decide) (by decide) ?_
    refine lv_iconst (v := (nI 0)) hx hb d_C_constraintsNeeded_90 (by decide) ?_
    exact x_iret hx hb hr hlocks hS hP hD (Nat.le_of_ble_eq_true rfl) (Nat.le_of_ble_eq_true rfl) d_C_constraintsNeeded_91 (⟨rfl, hR, kp.rf⟩)
  · refine lv_iload_n hx hb d_C_constraintsNeeded_0 rfl (lv_at hl 1 rfl) ?_
    refine lv_tableOut (tgt := 90) hx hb d_C_constraintsNeeded_1 (by decide) (by decide) ?_
    refine lv_iconst (v := (nI 0)) hx hb d_C_constraintsNeeded_90 (by decide) ?_
    exact x_iret hx hb hr hlocks hS hP hD (Nat.le_of_ble_eq_true rfl) (Nat.le_of_ble_eq_true rfl) d_C_constraintsNeeded_91 (⟨rfl, hR, kp.rf⟩)
  · refine lv_iload_n hx hb d_C_constraintsNeeded_0 rfl (lv_at hl 1 rfl) ?_
    refine lv_tableIn (off := 39) (tgt := 40) hx hb d_C_constraintsNeeded_1 (by decide) (by decide) (by decide) (by decide) ?_
    obtain ⟨a, ga, rfl⟩ := w2 (by decide)
    obtain ⟨b, gb, rfl⟩ := w3 (by decide) (by decide)
    refine lv_aload_n hx hb d_C_constraintsNeeded_40 rfl (lv_at hl 0 rfl) ?_
    refine lv_iload_n hx hb d_C_constraintsNeeded_41 rfl (lv_at hl 2 rfl) ?_
    refine x_callr (va_runV (As := [.int (nI a)]) (rest := []) ⟨hx, hb, hml, hown, ht⟩ (c_sumOf l G A ws o z u lv le lk V E K inp w d wV wC hR bE a ga) (cwV 1 ht (TW_V k_ml_C_94 k_im_C_sumOf k_se_C_sumOf k_in_C k_code_C_sumOf) rfl rfl rfl hv_C_sumOf ⟨Nat.le_of_ble_eq_true rfl, Nat.le_of_ble_eq_true rfl⟩) ⟨x_blind, va_recv hK hP rfl ho0, x_pre hE hA hS hP hD⟩ rfl rfl hl.1 rfl (lv_room (Nat.le_of_ble_eq_true rfl)) d_C_constraintsNeeded_42 ⟨Nat.le_of_ble_eq_true rfl, Nat.le_of_ble_eq_true rfl⟩) hS (fun r3 w2 H locs q1 hP hD hS => ?_)
    obtain ⟨rfl, ir3⟩ := q1
    refine lv_aload_n hx hb d_C_constraintsNeeded_45 rfl (lv_at hl 0 rfl) ?_
    refine lv_iload_n hx hb d_C_constraintsNeeded_46 rfl (lv_at hl 3 rfl) ?_
    refine x_callr (va_runV (As := [.int (nI b)]) (rest := [.ref r3]) ⟨hx, hb, hml, hown, ht⟩ (c_sumOf l G A ws o z u lv le lk V E K inp w d wV wC hR bE b gb) (cwV 1 ht (TW_V k_ml_C_94 k_im_C_sumOf k_se_C_sumOf k_in_C k_code_C_sumOf) rfl rfl rfl hv_C_sumOf ⟨Nat.le_of_ble_eq_true rfl, Nat.le_of_ble_eq_true rfl⟩) ⟨x_blind, va_recv hK hP rfl ho0, x_pre hE hA hS hP hD⟩ rfl rfl hl.1 rfl (lv_room (Nat.le_of_ble_eq_true rfl)) d_C_constraintsNeeded_47 ⟨Nat.le_of_ble_eq_true rfl, Nat.le_of_ble_eq_true rfl⟩) hS (fun r6 w5 H locs q4 hP hD hS => ?_)
    obtain ⟨rfl, ir6⟩ := q4
    refine x_calli (va_runS (As := [.ref r3, .ref r6]) (rest := []) ⟨hx, hb, hml, hown, ht⟩ (c_cop l G A ws r3 r6 _ _ ir3 ir6) (va_cwS 2 ht (TW_S k_ml_C_185 k_st_C_constraintsOfProduct k_in_C k_code_C_constraintsOfProduct) rfl rfl rfl hv_C_constraintsOfProduct.2 ⟨Nat.le_of_ble_eq_true rfl, Nat.le_of_ble_eq_true rfl⟩) ⟨x_blind, x_pre hE hA hS hP hD⟩ rfl rfl hl.1 rfl (lv_room (Nat.le_of_ble_eq_true rfl)) d_C_constraintsNeeded_50 ⟨Nat.le_of_ble_eq_true rfl, Nat.le_of_ble_eq_true rfl⟩) hS (fun r9 w8 H locs q7 hP hD hS => ?_)
    obtain ⟨rfl, rfl⟩ := q7
    exact x_iret hx hb hr hlocks hS hP hD (Nat.le_of_ble_eq_true rfl) (Nat.le_of_ble_eq_true rfl) d_C_constraintsNeeded_53 (⟨by simp [nd, ix_nI (show a < 2 ^ 31 by omega), ix_nI (show b < 2 ^ 31 by omega)], hR, kp.rf⟩)
  · refine lv_iload_n hx hb d_C_constraintsNeeded_0 rfl (lv_at hl 1 rfl) ?_
    refine lv_tableIn (off := 53) (tgt := 54) hx hb d_C_constraintsNeeded_1 (by decide) (by decide) (by decide) (by decide) ?_
    refine lv_iconst (v := (nI 2)) hx hb d_C_constraintsNeeded_54 (by decide) ?_
    exact x_iret hx hb hr hlocks hS hP hD (Nat.le_of_ble_eq_true rfl) (Nat.le_of_ble_eq_true rfl) d_C_constraintsNeeded_55 (⟨rfl, hR, kp.rf⟩)
  · refine lv_iload_n hx hb d_C_constraintsNeeded_0 rfl (lv_at hl 1 rfl) ?_
    refine lv_tableIn (off := 53) (tgt := 54) hx hb d_C_constraintsNeeded_1 (by decide) (by decide) (by decide) (by decide) ?_
    refine lv_iconst (v := (nI 2)) hx hb d_C_constraintsNeeded_54 (by decide) ?_
    exact x_iret hx hb hr hlocks hS hP hD (Nat.le_of_ble_eq_true rfl) (Nat.le_of_ble_eq_true rfl) d_C_constraintsNeeded_55 (⟨rfl, hR, kp.rf⟩)
  · refine lv_iload_n hx hb d_C_constraintsNeeded_0 rfl (lv_at hl 1 rfl) ?_
    refine lv_tableIn (off := 55) (tgt := 56) hx hb d_C_constraintsNeeded_1 (by decide) (by decide) (by decide) (by decide) ?_
    obtain ⟨a, ga, rfl⟩ := w2 (by decide)
    obtain ⟨b, gb, rfl⟩ := w3 (by decide) (by decide)
    obtain ⟨c9, gc9, rfl⟩ := w4 rfl
    refine lv_aload_n hx hb d_C_constraintsNeeded_56 rfl (lv_at hl 0 rfl) ?_
    refine lv_iload hx hb d_C_constraintsNeeded_57 (lv_at hl 4 rfl) ?_
    refine x_callr (va_runV (As := [.int (nI c9)]) (rest := []) ⟨hx, hb, hml, hown, ht⟩ (c_sumOf l G A ws o z u lv le lk V E K inp w d wV wC hR bE c9 gc9) (cwV 1 ht (TW_V k_ml_C_94 k_im_C_sumOf k_se_C_sumOf k_in_C k_code_C_sumOf) rfl rfl rfl hv_C_sumOf ⟨Nat.le_of_ble_eq_true rfl, Nat.le_of_ble_eq_true rfl⟩) ⟨x_blind, va_recv hK hP rfl ho0, x_pre hE hA hS hP hD⟩ rfl rfl hl.1 rfl (lv_room (Nat.le_of_ble_eq_true rfl)) d_C_constraintsNeeded_59 ⟨Nat.le_of_ble_eq_true rfl, Nat.le_of_ble_eq_true rfl⟩) hS (fun r12 w11 H locs q10 hP hD hS => ?_)
    obtain ⟨rfl, ir12⟩ := q10
    refine lv_aload_n hx hb d_C_constraintsNeeded_62 rfl (lv_at hl 0 rfl) ?_
    refine lv_iload_n hx hb d_C_constraintsNeeded_63 rfl (lv_at hl 2 rfl) ?_
    refine lv_iload_n hx hb d_C_constraintsNeeded_64 rfl (lv_at hl 3 rfl) ?_
    refine x_callr (va_runV (As := [.int (nI a), .int (nI b)]) (rest := [.ref r12]) ⟨hx, hb, hml, hown, ht⟩ (c_diff l G A ws o z u lv le lk V E K inp w d wV wC hR bE a b ga gb) (cwV 2 ht (TW_V k_ml_C_86 k_im_C_difference k_se_C_difference k_in_C k_code_C_difference) rfl rfl rfl hv_C_difference ⟨Nat.le_of_ble_eq_true rfl, Nat.le_of_ble_eq_true rfl⟩) ⟨x_blind, va_recv hK hP rfl ho0, x_pre hE hA hS hP hD⟩ rfl rfl hl.1 rfl (lv_room (Nat.le_of_ble_eq_true rfl)) d_C_constraintsNeeded_65 ⟨Nat.le_of_ble_eq_true rfl, Nat.le_of_ble_eq_true rfl⟩) hS (fun r15 w14 H locs q13 hP hD hS => ?_)
    refine W.widen (k := 2) (n := 61) (Nat.le_of_ble_eq_true rfl) (Nat.le_of_ble_eq_true rfl) ?_
    obtain ⟨hR1, kk1, iD⟩ := mkS_CC hR q13 (fun j _ => cmb_lt j)
    refine x_calli (va_runS (As := [.ref r12, .ref r15]) (rest := []) ⟨hx, hb, hml, hown, ht⟩ (c_cop l G A w14 r12 r15 _ _ (ir12.kp kk1) iD) (va_cwS 2 ht (TW_S k_ml_C_185 k_st_C_constraintsOfProduct k_in_C k_code_C_constraintsOfProduct) rfl rfl rfl hv_C_constraintsOfProduct.2 ⟨Nat.le_of_ble_eq_true rfl, Nat.le_of_ble_eq_true rfl⟩) ⟨x_blind, x_pre hE hA hS hP hD⟩ rfl rfl hl.1 rfl (lv_room (Nat.le_of_ble_eq_true rfl)) d_C_constraintsNeeded_68 ⟨Nat.le_of_ble_eq_true rfl, Nat.le_of_ble_eq_true rfl⟩) hS (fun r18 w17 H locs q16 hP hD hS => ?_)
    obtain ⟨rfl, rfl⟩ := q16
    exact x_iret hx hb hr hlocks hS hP hD (Nat.le_of_ble_eq_true rfl) (Nat.le_of_ble_eq_true rfl) d_C_constraintsNeeded_71 (⟨by simp [nd, ix_nI (show a < 2 ^ 31 by omega), ix_nI (show b < 2 ^ 31 by omega), ix_nI (show c9 < 2 ^ 31 by omega)], hR1, kk1⟩)
  · refine lv_iload_n hx hb d_C_constraintsNeeded_0 rfl (lv_at hl 1 rfl) ?_
    refine lv_tableIn (off := 89) (tgt := 90) hx hb d_C_constraintsNeeded_1 (by decide) (by decide) (by decide) (by decide) ?_
    refine lv_iconst (v := (nI 0)) hx hb d_C_constraintsNeeded_90 (by decide) ?_
    exact x_iret hx hb hr hlocks hS hP hD (Nat.le_of_ble_eq_true rfl) (Nat.le_of_ble_eq_true rfl) d_C_constraintsNeeded_91 (⟨rfl, hR, kp.rf⟩)
  · refine lv_iload_n hx hb d_C_constraintsNeeded_0 rfl (lv_at hl 1 rfl) ?_
    refine lv_tableIn (off := 71) (tgt := 72) hx hb d_C_constraintsNeeded_1 (by decide) (by decide) (by decide) (by decide) ?_
    obtain ⟨a, ga, rfl⟩ := w2 (by decide)
    obtain ⟨b, hb1, hb5, rfl⟩ := w5 rfl
    refine lv_iload_n hx hb d_C_constraintsNeeded_72 rfl (lv_at hl 3 rfl) ?_
    refine lv_iconst (v := (nI 1)) hx hb d_C_constraintsNeeded_73 (by decide) ?_
    refine lv_isub hx hb d_C_constraintsNeeded_74 ?_
    refine x_top (nI (b - 1)) (pk_sub (by omega)) ?_
    refine lv_aload_n hx hb d_C_constraintsNeeded_75 rfl (lv_at hl 0 rfl) ?_
    refine lv_iload_n hx hb d_C_constraintsNeeded_76 rfl (lv_at hl 2 rfl) ?_
    refine x_callr (va_runV (As := [.int (nI a)]) (rest := [.int (nI (b - 1))]) ⟨hx, hb, hml, hown, ht⟩ (c_sumOf l G A ws o z u lv le lk V E K inp w d wV wC hR bE a ga) (cwV 1 ht (TW_V k_ml_C_94 k_im_C_sumOf k_se_C_sumOf k_in_C k_code_C_sumOf) rfl rfl rfl hv_C_sumOf ⟨Nat.le_of_ble_eq_true rfl, Nat.le_of_ble_eq_true rfl⟩) ⟨x_blind, va_recv hK hP rfl ho0, x_pre hE hA hS hP hD⟩ rfl rfl hl.1 rfl (lv_room (Nat.le_of_ble_eq_true rfl)) d_C_constraintsNeeded_77 ⟨Nat.le_of_ble_eq_true rfl, Nat.le_of_ble_eq_true rfl⟩) hS (fun r21 w20 H locs q19 hP hD hS => ?_)
    obtain ⟨rfl, ir21⟩ := q19
    refine lv_aload_n hx hb d_C_constraintsNeeded_80 rfl (lv_at hl 0 rfl) ?_
    refine lv_iload_n hx hb d_C_constraintsNeeded_81 rfl (lv_at hl 2 rfl) ?_
    refine x_callr (va_runV (As := [.int (nI a)]) (rest := [.ref r21, .int (nI (b - 1))]) ⟨hx, hb, hml, hown, ht⟩ (c_sumOf l G A ws o z u lv le lk V E K inp w d wV wC hR bE a ga) (cwV 1 ht (TW_V k_ml_C_94 k_im_C_sumOf k_se_C_sumOf k_in_C k_code_C_sumOf) rfl rfl rfl hv_C_sumOf ⟨Nat.le_of_ble_eq_true rfl, Nat.le_of_ble_eq_true rfl⟩) ⟨x_blind, va_recv hK hP rfl ho0, x_pre hE hA hS hP hD⟩ rfl rfl hl.1 rfl (lv_room (Nat.le_of_ble_eq_true rfl)) d_C_constraintsNeeded_82 ⟨Nat.le_of_ble_eq_true rfl, Nat.le_of_ble_eq_true rfl⟩) hS (fun r24 w23 H locs q22 hP hD hS => ?_)
    obtain ⟨rfl, ir24⟩ := q22
    refine x_calli (va_runS (As := [.ref r21, .ref r24]) (rest := [.int (nI (b - 1))]) ⟨hx, hb, hml, hown, ht⟩ (c_cop l G A ws r21 r24 _ _ ir21 ir24) (va_cwS 2 ht (TW_S k_ml_C_185 k_st_C_constraintsOfProduct k_in_C k_code_C_constraintsOfProduct) rfl rfl rfl hv_C_constraintsOfProduct.2 ⟨Nat.le_of_ble_eq_true rfl, Nat.le_of_ble_eq_true rfl⟩) ⟨x_blind, x_pre hE hA hS hP hD⟩ rfl rfl hl.1 rfl (lv_room (Nat.le_of_ble_eq_true rfl)) d_C_constraintsNeeded_85 ⟨Nat.le_of_ble_eq_true rfl, Nat.le_of_ble_eq_true rfl⟩) hS (fun r27 w26 H locs q25 hP hD hS => ?_)
    obtain ⟨rfl, rfl⟩ := q25
    refine lv_imul hx hb d_C_constraintsNeeded_88 ?_
    refine x_top (nI ((b - 1) * (cp (sE E a) (sE E a)))) (pk_mul _ _) ?_
    exact x_iret hx hb hr hlocks hS hP hD (Nat.le_of_ble_eq_true rfl) (Nat.le_of_ble_eq_true rfl) d_C_constraintsNeeded_89 (⟨by simp [nd, ix_nI (show a < 2 ^ 31 by omega), ix_nI (show b < 2 ^ 31 by omega)], hR, kp.rf⟩)

/-- there is room for an expression -/
def room (kd : Nat) (V : List VV) (E : List EE) (K : List KK) (x1 x2 x3 : Int32) : Prop := E.length < 60 ∧ V.length + (if kd = 1 then 1 else nd kd E x1 x2 x3) ≤ 60 ∧ K.length + nd kd E x1 x2 x3 ≤ 80
theorem nd_le {kd n : Nat} {E : List EE} {x1 x2 x3 : Int32} (hw : wfd kd n x1 x2 x3) : nd kd E x1 x2 x3 ≤ 4 := by
  unfold nd
  have c1 := cp_le (sE E (ix x1)) (sE E (ix x2))
  have c2 := cp_le (sE E (ix x3)) (cmb 1 (sE E (ix x1)) 96 (sE E (ix x2)))
  have c3 := cp_le (sE E (ix x1)) (sE E (ix x1))
  split
  · omega
  · split
    · omega
    · split
      · omega
      · split
        · omega
        · split
          · rename_i h
            obtain ⟨b, hb1, hb5, rfl⟩ := hw.2.2.2.2 h
            rw [ix_nI (by omega)]
            exact Nat.le_trans (Nat.mul_le_mul (show b - 1 ≤ 4 by omega) c3) (by decide)
          · omega

set_option maxHeartbeats 4000000 in
set_option maxRecDepth 100000 in
theorem c_room (l : Launch) (G : xG) (A : Nat → Prop) (ws : va_W) (o z u lv le lk : Nat) (V : List VV) (E : List EE) (K : List KK) (inp : Nat) (w d : Nat → Nat) (wV wC : Nat) (hR : CCs G ws o z u lv le lk V E K inp w d wV wC) (bE : E.length ≤ 60) (bV : V.length ≤ 60) (bK : K.length ≤ 80) (kd : Nat) (x1 x2 x3 : Int32) (hw : wfd kd E.length x1 x2 x3) : Met l y_C_hasRoomFor (cw_C_hasRoomFor :: TW) { frames := 7, cells := 2, slots := 61, locals := 182 } (va_Pc [.ref o, .int (nI kd), .int x1, .int x2, .int x3] (x_P G A ws)) (qI G A (fun r w9 => ((r = nI 1 ∧ room kd V E K x1 x2 x3) ∨ (r = nI 0 ∧ ¬ room kd V E K x1 x2 x3)) ∧ CCs G w9 o z u lv le lk V E K inp w d wV wC ∧ kp ws w9)) 2 61 A := by
  refine Met.ofW (cc := b_C_hasRoomFor) (maxL := 7) (ret := (some .boolean)) (by decide) rfl ?_
  intro p e s m args below meth c s₁ B hml hv
  obtain ⟨rfl, hE, hA, hP, hD⟩ := hv
  have hx := B.exec
  have hb := B.bytes
  have hr := B.returns
  have ht : ∀ w ∈ TW, w.before _ s = true := fun w h => atoms_spec (ws := cw_C_hasRoomFor :: TW) B.pre w (List.mem_cons_of_mem _ h)
  have hown : s.vm.findClass R_C = some m.cls := findClass_of_methodNamed B.named
  have hlocks := B.notSynchronized
  have hK := hE.1
  have hS : va_S A s.heap s.heap [] := va_S.rf
  have hl := lv_entry ([.ref o, .int (nI kd), .int x1, .int x2, .int x3]) (n := 7) (Nat.le_of_ble_eq_true rfl)
  rw [lg_entry_eq]
  generalize (lg_sl ([.ref o, .int (nI kd), .int x1, .int x2, .int x3]) ++ List.replicate (7 - (lg_sl ([.ref o, .int (nI kd), .int x1, .int x2, .int x3])).length) Slot.unset).toArray = ls at hl ⊢
  have hl : lv_has ls 7 [(0, .ref o), (1, .int (nI kd)), (2, .int x1), (3, .int x2), (4, .int x3)] := hl
  obtain ⟨wa0, da0, ho0⟩ := CCs.o hR
  have n4 := nd_le (E := E) hw
  refine lv_aload_n hx hb d_C_hasRoomFor_0 rfl (lv_at hl 0 rfl) ?_
  refine lv_iload_n hx hb d_C_hasRoomFor_1 rfl (lv_at hl 1 rfl) ?_
  refine lv_iload_n hx hb d_C_hasRoomFor_2 rfl (lv_at hl 2 rfl) ?_
  refine lv_iload_n hx hb d_C_hasRoomFor_3 rfl (lv_at hl 3 rfl) ?_
  refine lv_iload hx hb d_C_hasRoomFor_4 (lv_at hl 4 rfl) ?_
  refine x_calli (va_runV (As := [.int (nI kd), .int x1, .int x2, .int x3]) (rest := []) ⟨hx, hb, hml, hown, ht⟩ (c_need l G A ws o z u lv le lk V E K inp w d wV wC hR bE kd x1 x2 x3 hw) (cwV 4 ht (TW_V k_ml_C_181 k_im_C_constraintsNeeded k_se_C_constraintsNeeded k_in_C k_code_C_constraintsNeeded) rfl rfl rfl hv_C_constraintsNeeded ⟨Nat.le_of_ble_eq_true rfl, Nat.le_of_ble_eq_true rfl⟩) ⟨x_blind, va_recv hK hP rfl ho0, x_pre hE hA hS hP hD⟩ rfl rfl hl.1 rfl (lv_room (Nat.le_of_ble_eq_true rfl)) d_C_hasRoomFor_6 ⟨Nat.le_of_ble_eq_true rfl, Nat.le_of_ble_eq_true rfl⟩) hS (fun r3 w2 H locs q1 hP hD hS => ?_)
  refine W.widen (k := 2) (n := 61) (Nat.le_of_ble_eq_true rfl) (Nat.le_of_ble_eq_true rfl) ?_
  obtain ⟨rfl, hR1, kk1⟩ := q1
  obtain ⟨nn, en⟩ : ∃ nn, nn = nd kd E x1 x2 x3 := ⟨_, rfl⟩
  rw [← en] at n4 ⊢
  have hk9 := hw.1
  obtain ⟨wa_, da_, kV_, kE_, kK_, gV_, gE_, gK_, hX_⟩ := id hR1
  obtain ⟨x1_, x2_, x3_, x4_, x5_, x6_, x7_, x8_, x9_, x10_, x11_, x12_, x13_⟩ := id hX_
  obtain ⟨mo_v_, ae_v_, li_v_, -⟩ := id x4_
  obtain ⟨mo_e_, ae_e_, li_e_, -⟩ := id x5_
  obtain ⟨mo_k_, ae_k_, li_k_, -⟩ := id x6_
  refine lv_istore (lv' := [(5, .int (nI nn)), (0, .ref o), (1, .int (nI kd)), (2, .int x1), (3, .int x2), (4, .int x3)]) hx hb d_C_hasRoomFor_9 hl (by decide) rfl (fun ls hl => ?_)
  refine lv_iload_n hx hb d_C_hasRoomFor_11 rfl (lv_at hl 2 rfl) ?_
  refine lv_iconst (v := (nI 1)) hx hb d_C_hasRoomFor_12 (by decide) ?_
  obtain ⟨mm, em⟩ : ∃ mm, mm = if kd = 1 then 1 else nn := ⟨_, rfl⟩
  have m4 : mm ≤ 4 := by rw [em]; split <;> omega
  have rr : room kd V E K x1 x2 x3 ↔ (E.length < 60 ∧ V.length + mm ≤ 60 ∧ K.length + nn ≤ 80) := by unfold room; rw [em, en]
  have go : ∀ ls : Array Slot, lv_has ls 7 [(6, .int (nI mm)), (5, .int (nI nn)), (0, .ref o), (1, .int (nI kd)), (2, .int x1), (3, .int x2), (4, .int x3)] → W p l e (headSpec (cw_C_hasRoomFor :: TW) { frames := 7, cells := 2, slots := 61, locals := 182 }).room s m ([.ref o, .int (nI kd), .int x1, .int x2, .int x3] : List Value).toArray below meth c H locs 2 61 (MQ below (qI G A (fun r w9 => ((r = nI 1 ∧ room kd V E K x1 x2 x3) ∨ (r = nI 0 ∧ ¬ room kd V E K x1 x2 x3)) ∧ CCs G w9 o z u lv le lk V E K inp w d wV wC ∧ kp ws w9)) ([.ref o, .int (nI kd), .int x1, .int x2, .int x3] : List Value).toArray s 2 61 A) (F0 m 24 ls []) := by
    intro ls hl
    refine lv_aload_n hx hb d_C_hasRoomFor_24 rfl (lv_at hl 2 rfl) ?_
    refine va_get (D := xD G) (ci := 0) (C := R_C) (T := F_C) (N := 10) hx hb ht in_C hown hK hP 0 x1_ rfl 3 (by decide) (ht _ k_fl_C_30) (fun _ h9 => h9) rfl d_C_hasRoomFor_25 ?_
    refine x_calli (va_runV (As := []) (rest := []) ⟨hx, hb, hml, hown, ht⟩ (c_A_size l G A w2 6 kE_ le E.length gE_ x5_) (cwV 0 ht (TW_V k_ml_C_78 k_im_A_size k_se_A_size k_in_A k_code_A_size) rfl rfl rfl hv_A_size ⟨Nat.le_of_ble_eq_true rfl, Nat.le_of_ble_eq_true rfl⟩) ⟨x_blind, va_recv hK hP rfl li_e_, x_pre hE hA hS hP hD⟩ rfl rfl hl.1 rfl (lv_room (Nat.le_of_ble_eq_true rfl)) d_C_hasRoomFor_28 ⟨Nat.le_of_ble_eq_true rfl, Nat.le_of_ble_eq_true rfl⟩) hS (fun r6 w5 H locs q4 hP hD hS => ?_)
    obtain ⟨rfl, rfl⟩ := q4
    refine lv_bipush (v := (nI 60)) hx hb d_C_hasRoomFor_31 (by decide) ?_
    refine x_ge hx hb E.length 60 rfl rfl (by omega) (by omega) (tgt := 70) d_C_hasRoomFor_33 (by decide) (fun c7 => ?_) (fun c7 => ?_)
    · refine lv_iconst (v := (nI 0)) hx hb d_C_hasRoomFor_70 (by decide) ?_
      exact x_zret hx hb hr hlocks hS hP hD (Nat.le_of_ble_eq_true rfl) (Nat.le_of_ble_eq_true rfl) d_C_hasRoomFor_71 rfl (⟨Or.inr ⟨rfl, fun q => by rw [rr] at q; omega⟩, hR1, kk1⟩)
    · refine lv_aload_n hx hb d_C_hasRoomFor_36 rfl (lv_at hl 2 rfl) ?_
      refine va_get (D := xD G) (ci := 0) (C := R_C) (T := F_C) (N := 10) hx hb ht in_C hown hK hP 0 x1_ rfl 2 (by decide) (ht _ k_fl_C_26) (fun _ h9 => h9) rfl d_C_hasRoomFor_37 ?_
      refine x_calli (va_runV (As := []) (rest := []) ⟨hx, hb, hml, hown, ht⟩ (c_A_size l G A w2 5 kV_ lv V.length gV_ x4_) (cwV 0 ht (TW_V k_ml_C_78 k_im_A_size k_se_A_size k_in_A k_code_A_size) rfl rfl rfl hv_A_size ⟨Nat.le_of_ble_eq_true rfl, Nat.le_of_ble_eq_true rfl⟩) ⟨x_blind, va_recv hK hP rfl li_v_, x_pre hE hA hS hP hD⟩ rfl rfl hl.1 rfl (lv_room (Nat.le_of_ble_eq_true rfl)) d_C_hasRoomFor_40 ⟨Nat.le_of_ble_eq_true rfl, Nat.le_of_ble_eq_true rfl⟩) hS (fun r10 w9 H locs q8 hP hD hS => ?_)
      obtain ⟨rfl, rfl⟩ := q8
      refine lv_iload hx hb d_C_hasRoomFor_43 (lv_at hl 0 rfl) ?_
      refine lv_iadd hx hb d_C_hasRoomFor_45 ?_
      refine x_top (nI (V.length + mm)) (nI_add _ _) ?_
      refine lv_bipush (v := (nI 60)) hx hb d_C_hasRoomFor_46 (by decide) ?_
      refine x_gt hx hb (V.length + mm) 60 rfl rfl (by omega) (by omega) (tgt := 70) d_C_hasRoomFor_48 (by decide) (fun c11 => ?_) (fun c11 => ?_)
      · refine lv_iconst (v := (nI 0)) hx hb d_C_hasRoomFor_70 (by decide) ?_
        exact x_zret hx hb hr hlocks hS hP hD (Nat.le_of_ble_eq_true rfl) (Nat.le_of_ble_eq_true rfl) d_C_hasRoomFor_71 rfl (⟨Or.inr ⟨rfl, fun q => by rw [rr] at q; omega⟩, hR1, kk1⟩)
      · refine lv_aload_n hx hb d_C_hasRoomFor_51 rfl (lv_at hl 2 rfl) ?_
        refine va_get (D := xD G) (ci := 0) (C := R_C) (T := F_C) (N := 10) hx hb ht in_C hown hK hP 0 x1_ rfl 4 (by decide) (ht _ k_fl_C_33) (fun _ h9 => h9) rfl d_C_hasRoomFor_52 ?_
        refine x_calli (va_runV (As := []) (rest := []) ⟨hx, hb, hml, hown, ht⟩ (c_A_size l G A w2 7 kK_ lk K.length gK_ x6_) (cwV 0 ht (TW_V k_ml_C_78 k_im_A_size k_se_A_size k_in_A k_code_A_size) rfl rfl rfl hv_A_size ⟨Nat.le_of_ble_eq_true rfl, Nat.le_of_ble_eq_true rfl⟩) ⟨x_blind, va_recv hK hP rfl li_k_, x_pre hE hA hS hP hD⟩ rfl rfl hl.1 rfl (lv_room (Nat.le_of_ble_eq_true rfl)) d_C_hasRoomFor_55 ⟨Nat.le_of_ble_eq_true rfl, Nat.le_of_ble_eq_true rfl⟩) hS (fun r14 w13 H locs q12 hP hD hS => ?_)
        obtain ⟨rfl, rfl⟩ := q12
        refine lv_iload hx hb d_C_hasRoomFor_58 (lv_at hl 1 rfl) ?_
        refine lv_iadd hx hb d_C_hasRoomFor_60 ?_
        refine x_top (nI (K.length + nn)) (nI_add _ _) ?_
        refine lv_bipush (v := (nI 80)) hx hb d_C_hasRoomFor_61 (by decide) ?_
        refine x_gt hx hb (K.length + nn) 80 rfl rfl (by omega) (by omega) (tgt := 70) d_C_hasRoomFor_63 (by decide) (fun c15 => ?_) (fun c15 => ?_)
        · refine lv_iconst (v := (nI 0)) hx hb d_C_hasRoomFor_70 (by decide) ?_
          exact x_zret hx hb hr hlocks hS hP hD (Nat.le_of_ble_eq_true rfl) (Nat.le_of_ble_eq_true rfl) d_C_hasRoomFor_71 rfl (⟨Or.inr ⟨rfl, fun q => by rw [rr] at q; omega⟩, hR1, kk1⟩)
        · refine lv_iconst (v := (nI 1)) hx hb d_C_hasRoomFor_66 (by decide) ?_
          refine lv_goto (tgt := 71) hx hb d_C_hasRoomFor_67 (by decide) ?_
          exact x_zret hx hb hr hlocks hS hP hD (Nat.le_of_ble_eq_true rfl) (Nat.le_of_ble_eq_true rfl) d_C_hasRoomFor_71 rfl (⟨Or.inl ⟨rfl, rr.mpr ⟨c7, c11, c15⟩⟩, hR1, kk1⟩)
  refine x_ne hx hb kd 1 rfl rfl (by omega) (by omega) (tgt := 20) d_C_hasRoomFor_13 (by decide) (fun c16 => ?_) (fun c16 => ?_)
  · refine lv_iload hx hb d_C_hasRoomFor_20 (lv_at hl 0 rfl) ?_
    have e8 : nn = mm := by rw [em, if_neg c16]
    refine lv_istore (lv' := [(6, .int (nI nn)), (5, .int (nI nn)), (0, .ref o), (1, .int (nI kd)), (2, .int x1), (3, .int x2), (4, .int x3)]) hx hb d_C_hasRoomFor_22 hl (by decide) rfl (fun ls hl => ?_)
    exact go ls (by rw [← e8]; exact hl)
  · have e8 : mm = 1 := by rw [em, if_pos c16]
    refine lv_iconst (v := (nI 1)) hx hb d_C_hasRoomFor_16 (by decide) ?_
    refine lv_goto (tgt := 22) hx hb d_C_hasRoomFor_17 (by decide) ?_
    refine lv_istore (lv' := [(6, .int (nI 1)), (5, .int (nI nn)), (0, .ref o), (1, .int (nI kd)), (2, .int x1), (3, .int x2), (4, .int x3)]) hx hb d_C_hasRoomFor_22 hl (by decide) rfl (fun ls hl => ?_)
    exact go ls (by rw [e8]; exact hl)
end
section
set_option maxHeartbeats 4000000 in
set_option maxRecDepth 100000 in
theorem c_msum (l : Launch) (G : xG) (A : Nat → Prop) (ws : va_W) (o z u lv le lk : Nat) (V : List VV) (E : List EE) (K : List KK) (inp : Nat) (w d : Nat → Nat) (wV wC : Nat) (hR : CCs G ws o z u lv le lk V E K inp w d wV wC) (bE : E.length ≤ 60) (kd : Nat) (x1 x2 x3 : Int32) (hw : wfd kd E.length x1 x2 x3) (bV : V.length + nd kd E x1 x2 x3 ≤ 60) (bK : K.length + nd kd E x1 x2 x3 ≤ 80) : Met l y_C_makeSum (cw_C_makeSum :: TW) { frames := 12, cells := 24, slots := 1472, locals := 312 } (va_Pc [.ref o, .int (nI kd), .int x1, .int x2, .int x3] (x_P G A ws)) (qR G A (fun r w9 => isS G w9 r (mkSum kd E (V, K) x1 x2 x3).2 ∧ CCs G w9 o z u lv le lk (mkSum kd E (V, K) x1 x2 x3).1.1 E (mkSum kd E (V, K) x1 x2 x3).1.2 inp w d wV wC ∧ kp ws w9)) 24 1472 A := by
  refine Met.ofW (cc := b_C_makeSum) (maxL := 5) (ret := (some (.object "ConstraintCompiler$Sum"))) (by decide) rfl ?_
  intro p e s m args below meth c s₁ B hml hv
  obtain ⟨rfl, hE, hA, hP, hD⟩ := hv
  have hx := B.exec
  have hb := B.bytes
  have hr := B.returns
  have ht : ∀ w ∈ TW, w.before _ s = true := fun w h => atoms_spec (ws := cw_C_makeSum :: TW) B.pre w (List.mem_cons_of_mem _ h)
  have hown : s.vm.findClass R_C = some m.cls := findClass_of_methodNamed B.named
  have hlocks := B.notSynchronized
  have hK := hE.1
  have hS : va_S A s.heap s.heap [] := va_S.rf
  have hl := lv_entry ([.ref o, .int (nI kd), .int x1, .int x2, .int x3]) (n := 5) (Nat.le_of_ble_eq_true rfl)
  rw [lg_entry_eq]
  generalize (lg_sl ([.ref o, .int (nI kd), .int x1, .int x2, .int x3]) ++ List.replicate (5 - (lg_sl ([.ref o, .int (nI kd), .int x1, .int x2, .int x3])).length) Slot.unset).toArray = ls at hl ⊢
  have hl : lv_has ls 5 [(0, .ref o), (1, .int (nI kd)), (2, .int x1), (3, .int x2), (4, .int x3)] := hl
  obtain ⟨wa0, da0, ho0⟩ := CCs.o hR
  obtain ⟨w1, w2, w3, w4, w5⟩ := hw
  have hk9 : kd = 0 ∨ kd = 1 ∨ kd = 2 ∨ kd = 3 ∨ kd = 4 ∨ kd = 5 ∨ kd = 6 ∨ kd = 7 ∨ kd = 8 ∨ kd = 9 := by omega
  rcases hk9 with rfl | rfl | rfl | rfl | rfl | rfl | rfl | rfl | rfl | rfl
  · refine lv_iload_n hx hb d_C_makeSum_0 rfl (lv_at hl 1 rfl) ?_
    refine lv_tableOut (tgt := 159) hx hb d_C_makeSum_1 (by decide) (by decide) ?_
    have iu := hR.z.2
    obtain ⟨kU, jU, cU, fU, pU, qU, nU, oU, eU, bU⟩ := id iu
    refine lv_aload_n hx hb d_C_makeSum_159 rfl (lv_at hl 0 rfl) ?_
    refine va_get (D := xD G) (ci := 0) (C := R_C) (T := F_C) (N := 10) hx hb ht in_C hown hK hP 0 ho0 rfl 1 (by decide) (ht _ k_fl_C_20) (fun _ h9 => h9) rfl d_C_makeSum_160 ?_
    refine lv_iload_n hx hb d_C_makeSum_163 rfl (lv_at hl 2 rfl) ?_
    refine x_calli (va_runS (As := [.int x1]) (rest := [.ref u]) ⟨hx, hb, hml, hown, ht⟩ (c_remainder l G A ws x1) (va_cwS 1 ht (TW_S k_ml_C_122 k_st_C_remainder k_in_C k_code_C_remainder) rfl rfl rfl hv_C_remainder.2 ⟨Nat.le_of_ble_eq_true rfl, Nat.le_of_ble_eq_true rfl⟩) ⟨x_blind, x_pre hE hA hS hP hD⟩ rfl rfl hl.1 rfl (lv_room (Nat.le_of_ble_eq_true rfl)) d_C_makeSum_164 ⟨Nat.le_of_ble_eq_true rfl, Nat.le_of_ble_eq_true rfl⟩) hS (fun r3 w2 H locs q1 hP hD hS => ?_)
    obtain ⟨rfl, rfl⟩ := q1
    refine x_callr (va_runV (As := [.int (nI (rm x1))]) (rest := []) ⟨hx, hb, hml, hown, ht⟩ (c_S_scaled l G A ws u (rm x1) (unit 0) iu (rm_lt x1)) (cwV 1 ht (TW_V k_ml_C_216 k_im_S_scaledBy k_se_S_scaledBy k_in_S k_code_S_scaledBy) rfl rfl rfl hv_S_scaledBy ⟨Nat.le_of_ble_eq_true rfl, Nat.le_of_ble_eq_true rfl⟩) ⟨x_blind, va_recv hK hP rfl pU, x_pre hE hA hS hP hD⟩ rfl rfl hl.1 rfl (lv_room (Nat.le_of_ble_eq_true rfl)) d_C_makeSum_167 ⟨Nat.le_of_ble_eq_true rfl, Nat.le_of_ble_eq_true rfl⟩) hS (fun r6 w5 H locs q4 hP hD hS => ?_)
    refine W.widen (k := 2) (n := 61) (Nat.le_of_ble_eq_true rfl) (Nat.le_of_ble_eq_true rfl) ?_
    obtain ⟨hR1, kk1, iS⟩ := mkS_CC hR q4 (fun j _ => cmb_lt j)
    have e9 : mkSum 0 E (V, K) x1 x2 x3 = ((V, K), cmb (rm x1) (unit 0) 0 (unit 0)) := rfl
    exact x_aret hx hb hr (Or.inl ⟨_, rfl⟩) hlocks hS hP hD (Nat.le_of_ble_eq_true rfl) (Nat.le_of_ble_eq_true rfl) d_C_makeSum_170 (by rw [e9]; exact ⟨iS, hR1, kk1⟩)
  · refine lv_iload_n hx hb d_C_makeSum_0 rfl (lv_at hl 1 rfl) ?_
    refine lv_tableOut (tgt := 159) hx hb d_C_makeSum_1 (by decide) (by decide) ?_
    have iu := hR.z.2
    obtain ⟨kU, jU, cU, fU, pU, qU, nU, oU, eU, bU⟩ := id iu
    refine lv_aload_n hx hb d_C_makeSum_159 rfl (lv_at hl 0 rfl) ?_
    refine va_get (D := xD G) (ci := 0) (C := R_C) (T := F_C) (N := 10) hx hb ht in_C hown hK hP 0 ho0 rfl 1 (by decide) (ht _ k_fl_C_20) (fun _ h9 => h9) rfl d_C_makeSum_160 ?_
    refine lv_iload_n hx hb d_C_makeSum_163 rfl (lv_at hl 2 rfl) ?_
    refine x_calli (va_runS (As := [.int x1]) (rest := [.ref u]) ⟨hx, hb, hml, hown, ht⟩ (c_remainder l G A ws x1) (va_cwS 1 ht (TW_S k_ml_C_122 k_st_C_remainder k_in_C k_code_C_remainder) rfl rfl rfl hv_C_remainder.2 ⟨Nat.le_of_ble_eq_true rfl, Nat.le_of_ble_eq_true rfl⟩) ⟨x_blind, x_pre hE hA hS hP hD⟩ rfl rfl hl.1 rfl (lv_room (Nat.le_of_ble_eq_true rfl)) d_C_makeSum_164 ⟨Nat.le_of_ble_eq_true rfl, Nat.le_of_ble_eq_true rfl⟩) hS (fun r9 w8 H locs q7 hP hD hS => ?_)
    obtain ⟨rfl, rfl⟩ := q7
    refine x_callr (va_runV (As := [.int (nI (rm x1))]) (rest := []) ⟨hx, hb, hml, hown, ht⟩ (c_S_scaled l G A ws u (rm x1) (unit 0) iu (rm_lt x1)) (cwV 1 ht (TW_V k_ml_C_216 k_im_S_scaledBy k_se_S_scaledBy k_in_S k_code_S_scaledBy) rfl rfl rfl hv_S_scaledBy ⟨Nat.le_of_ble_eq_true rfl, Nat.le_of_ble_eq_true rfl⟩) ⟨x_blind, va_recv hK hP rfl pU, x_pre hE hA hS hP hD⟩ rfl rfl hl.1 rfl (lv_room (Nat.le_of_ble_eq_true rfl)) d_C_makeSum_167 ⟨Nat.le_of_ble_eq_true rfl, Nat.le_of_ble_eq_true rfl⟩) hS (fun r12 w11 H locs q10 hP hD hS => ?_)
    refine W.widen (k := 2) (n := 61) (Nat.le_of_ble_eq_true rfl) (Nat.le_of_ble_eq_true rfl) ?_
    obtain ⟨hR1, kk1, iS⟩ := mkS_CC hR q10 (fun j _ => cmb_lt j)
    have e9 : mkSum 1 E (V, K) x1 x2 x3 = ((V, K), cmb (rm x1) (unit 0) 0 (unit 0)) := rfl
    exact x_aret hx hb hr (Or.inl ⟨_, rfl⟩) hlocks hS hP hD (Nat.le_of_ble_eq_true rfl) (Nat.le_of_ble_eq_true rfl) d_C_makeSum_170 (by rw [e9]; exact ⟨iS, hR1, kk1⟩)
  · refine lv_iload_n hx hb d_C_makeSum_0 rfl (lv_at hl 1 rfl) ?_
    refine lv_tableIn (off := 47) (tgt := 48) hx hb d_C_makeSum_1 (by decide) (by decide) (by decide) (by decide) ?_
    obtain ⟨a, ga, rfl⟩ := w2 (by decide)
    obtain ⟨b, gb, rfl⟩ := w3 (by decide) (by decide)
    refine lv_aload_n hx hb d_C_makeSum_48 rfl (lv_at hl 0 rfl) ?_
    refine lv_iload_n hx hb d_C_makeSum_49 rfl (lv_at hl 2 rfl) ?_
    refine x_callr (va_runV (As := [.int (nI a)]) (rest := []) ⟨hx, hb, hml, hown, ht⟩ (c_sumOf l G A ws o z u lv le lk V E K inp w d wV wC hR bE a ga) (cwV 1 ht (TW_V k_ml_C_94 k_im_C_sumOf k_se_C_sumOf k_in_C k_code_C_sumOf) rfl rfl rfl hv_C_sumOf ⟨Nat.le_of_ble_eq_true rfl, Nat.le_of_ble_eq_true rfl⟩) ⟨x_blind, va_recv hK hP rfl ho0, x_pre hE hA hS hP hD⟩ rfl rfl hl.1 rfl (lv_room (Nat.le_of_ble_eq_true rfl)) d_C_makeSum_50 ⟨Nat.le_of_ble_eq_true rfl, Nat.le_of_ble_eq_true rfl⟩) hS (fun r15 w14 H locs q13 hP hD hS => ?_)
    obtain ⟨rfl, ir15⟩ := q13
    obtain ⟨kA, jA, cA, fA, pA, qA, nA, oA, eA, bA⟩ := id ir15
    refine lv_aload_n hx hb d_C_makeSum_53 rfl (lv_at hl 0 rfl) ?_
    refine lv_iload_n hx hb d_C_makeSum_54 rfl (lv_at hl 3 rfl) ?_
    refine x_callr (va_runV (As := [.int (nI b)]) (rest := [.ref r15]) ⟨hx, hb, hml, hown, ht⟩ (c_sumOf l G A ws o z u lv le lk V E K inp w d wV wC hR bE b gb) (cwV 1 ht (TW_V k_ml_C_94 k_im_C_sumOf k_se_C_sumOf k_in_C k_code_C_sumOf) rfl rfl rfl hv_C_sumOf ⟨Nat.le_of_ble_eq_true rfl, Nat.le_of_ble_eq_true rfl⟩) ⟨x_blind, va_recv hK hP rfl ho0, x_pre hE hA hS hP hD⟩ rfl rfl hl.1 rfl (lv_room (Nat.le_of_ble_eq_true rfl)) d_C_makeSum_55 ⟨Nat.le_of_ble_eq_true rfl, Nat.le_of_ble_eq_true rfl⟩) hS (fun r18 w17 H locs q16 hP hD hS => ?_)
    obtain ⟨rfl, ir18⟩ := q16
    refine x_callr (va_runV (As := [.ref r18]) (rest := []) ⟨hx, hb, hml, hown, ht⟩ (c_S_plus l G A ws r15 r18 _ _ ir15 ir18) (cwV 1 ht (TW_V k_ml_C_199 k_im_S_plus k_se_S_plus k_in_S k_code_S_plus) rfl rfl rfl hv_S_plus ⟨Nat.le_of_ble_eq_true rfl, Nat.le_of_ble_eq_true rfl⟩) ⟨x_blind, va_recv hK hP rfl pA, x_pre hE hA hS hP hD⟩ rfl rfl hl.1 rfl (lv_room (Nat.le_of_ble_eq_true rfl)) d_C_makeSum_58 ⟨Nat.le_of_ble_eq_true rfl, Nat.le_of_ble_eq_true rfl⟩) hS (fun r21 w20 H locs q19 hP hD hS => ?_)
    refine W.widen (k := 2) (n := 61) (Nat.le_of_ble_eq_true rfl) (Nat.le_of_ble_eq_true rfl) ?_
    obtain ⟨hR1, kk1, iS⟩ := mkS_CC hR q19 (fun j _ => cmb_lt j)
    have e9 : mkSum 2 E (V, K) (nI a) (nI b) x3 = ((V, K), cmb 1 (sE E a) 1 (sE E b)) := by simp [mkSum, ix_nI (show a < 2 ^ 31 by omega), ix_nI (show b < 2 ^ 31 by omega)]
    exact x_aret hx hb hr (Or.inl ⟨_, rfl⟩) hlocks hS hP hD (Nat.le_of_ble_eq_true rfl) (Nat.le_of_ble_eq_true rfl) d_C_makeSum_61 (by rw [e9]; exact ⟨iS, hR1, kk1⟩)
  · refine lv_iload_n hx hb d_C_makeSum_0 rfl (lv_at hl 1 rfl) ?_
    refine lv_tableIn (off := 61) (tgt := 62) hx hb d_C_makeSum_1 (by decide) (by decide) (by decide) (by decide) ?_
    obtain ⟨a, ga, rfl⟩ := w2 (by decide)
    obtain ⟨b, gb, rfl⟩ := w3 (by decide) (by decide)
    refine lv_aload_n hx hb d_C_makeSum_62 rfl (lv_at hl 0 rfl) ?_
    refine lv_iload_n hx hb d_C_makeSum_63 rfl (lv_at hl 2 rfl) ?_
    refine lv_iload_n hx hb d_C_makeSum_64 rfl (lv_at hl 3 rfl) ?_
    refine x_callr (va_runV (As := [.int (nI a), .int (nI b)]) (rest := []) ⟨hx, hb, hml, hown, ht⟩ (c_diff l G A ws o z u lv le lk V E K inp w d wV wC hR bE a b ga gb) (cwV 2 ht (TW_V k_ml_C_86 k_im_C_difference k_se_C_difference k_in_C k_code_C_difference) rfl rfl rfl hv_C_difference ⟨Nat.le_of_ble_eq_true rfl, Nat.le_of_ble_eq_true rfl⟩) ⟨x_blind, va_recv hK hP rfl ho0, x_pre hE hA hS hP hD⟩ rfl rfl hl.1 rfl (lv_room (Nat.le_of_ble_eq_true rfl)) d_C_makeSum_65 ⟨Nat.le_of_ble_eq_true rfl, Nat.le_of_ble_eq_true rfl⟩) hS (fun r24 w23 H locs q22 hP hD hS => ?_)
    refine W.widen (k := 2) (n := 61) (Nat.le_of_ble_eq_true rfl) (Nat.le_of_ble_eq_true rfl) ?_
    obtain ⟨hR1, kk1, iS⟩ := mkS_CC hR q22 (fun j _ => cmb_lt j)
    have e9 : mkSum 3 E (V, K) (nI a) (nI b) x3 = ((V, K), cmb 1 (sE E a) 96 (sE E b)) := by simp [mkSum, ix_nI (show a < 2 ^ 31 by omega), ix_nI (show b < 2 ^ 31 by omega)]
    exact x_aret hx hb hr (Or.inl ⟨_, rfl⟩) hlocks hS hP hD (Nat.le_of_ble_eq_true rfl) (Nat.le_of_ble_eq_true rfl) d_C_makeSum_68 (by rw [e9]; exact ⟨iS, hR1, kk1⟩)
  · refine lv_iload_n hx hb d_C_makeSum_0 rfl (lv_at hl 1 rfl) ?_
    refine lv_tableIn (off := 68) (tgt := 69) hx hb d_C_makeSum_1 (by decide) (by decide) (by decide) (by decide) ?_
    obtain ⟨a, ga, rfl⟩ := w2 (by decide)
    obtain ⟨b, gb, rfl⟩ := w3 (by decide) (by decide)
    have n9 : nd 4 E (nI a) (nI b) x3 = cp (sE E a) (sE E b) := by simp [nd, ix_nI (show a < 2 ^ 31 by omega), ix_nI (show b < 2 ^ 31 by omega)]
    rw [n9] at bV bK
    refine lv_aload_n hx hb d_C_makeSum_69 rfl (lv_at hl 0 rfl) ?_
    refine lv_aload_n hx hb d_C_makeSum_70 rfl (lv_at hl 0 rfl) ?_
    refine lv_iload_n hx hb d_C_makeSum_71 rfl (lv_at hl 2 rfl) ?_
    refine x_callr (va_runV (As := [.int (nI a)]) (rest := [.ref o]) ⟨hx, hb, hml, hown, ht⟩ (c_sumOf l G A ws o z u lv le lk V E K inp w d wV wC hR bE a ga) (cwV 1 ht (TW_V k_ml_C_94 k_im_C_sumOf k_se_C_sumOf k_in_C k_code_C_sumOf) rfl rfl rfl hv_C_sumOf ⟨Nat.le_of_ble_eq_true rfl, Nat.le_of_ble_eq_true rfl⟩) ⟨x_blind, va_recv hK hP rfl ho0, x_pre hE hA hS hP hD⟩ rfl rfl hl.1 rfl (lv_room (Nat.le_of_ble_eq_true rfl)) d_C_makeSum_72 ⟨Nat.le_of_ble_eq_true rfl, Nat.le_of_ble_eq_true rfl⟩) hS (fun r27 w26 H locs q25 hP hD hS => ?_)
    obtain ⟨rfl, ir27⟩ := q25
    refine lv_aload_n hx hb d_C_makeSum_75 rfl (lv_at hl 0 rfl) ?_
    refine lv_iload_n hx hb d_C_makeSum_76 rfl (lv_at hl 3 rfl) ?_
    refine x_callr (va_runV (As := [.int (nI b)]) (rest := [.ref r27, .ref o]) ⟨hx, hb, hml, hown, ht⟩ (c_sumOf l G A ws o z u lv le lk V E K inp w d wV wC hR bE b gb) (cwV 1 ht (TW_V k_ml_C_94 k_im_C_sumOf k_se_C_sumOf k_in_C k_code_C_sumOf) rfl rfl rfl hv_C_sumOf ⟨Nat.le_of_ble_eq_true rfl, Nat.le_of_ble_eq_true rfl⟩) ⟨x_blind, va_recv hK hP rfl ho0, x_pre hE hA hS hP hD⟩ rfl rfl hl.1 rfl (lv_room (Nat.le_of_ble_eq_true rfl)) d_C_makeSum_77 ⟨Nat.le_of_ble_eq_true rfl, Nat.le_of_ble_eq_true rfl⟩) hS (fun r30 w29 H locs q28 hP hD hS => ?_)
    obtain ⟨rfl, ir30⟩ := q28
    refine x_callr (va_runV (As := [.ref r27, .ref r30]) (rest := []) ⟨hx, hb, hml, hown, ht⟩ (c_mprod l G A ws o z u lv le lk V E K inp w d wV wC hR r27 r30 _ _ ir27 ir30 bV bK) (cwV 2 ht (TW_V k_ml_C_202 k_im_C_makeProduct k_se_C_makeProduct k_in_C k_code_C_makeProduct) rfl rfl rfl hv_C_makeProduct ⟨Nat.le_of_ble_eq_true rfl, Nat.le_of_ble_eq_true rfl⟩) ⟨x_blind, va_recv hK hP rfl ho0, x_pre hE hA hS hP hD⟩ rfl rfl hl.1 rfl (lv_room (Nat.le_of_ble_eq_true rfl)) d_C_makeSum_80 ⟨Nat.le_of_ble_eq_true rfl, Nat.le_of_ble_eq_true rfl⟩) hS (fun r33 w32 H locs q31 hP hD hS => ?_)
    refine W.widen (k := 6) (n := 368) (Nat.le_of_ble_eq_true rfl) (Nat.le_of_ble_eq_true rfl) ?_
    have e9 : mkSum 4 E (V, K) (nI a) (nI b) x3 = prodS (V, K) (sE E a) (sE E b) := by simp [mkSum, ix_nI (show a < 2 ^ 31 by omega), ix_nI (show b < 2 ^ 31 by omega)]
    exact x_aret hx hb hr (Or.inl ⟨_, rfl⟩) hlocks hS hP hD (Nat.le_of_ble_eq_true rfl) (Nat.le_of_ble_eq_true rfl) d_C_makeSum_83 (by rw [e9]; exact q31)
  · refine lv_iload_n hx hb d_C_makeSum_0 rfl (lv_at hl 1 rfl) ?_
    refine lv_tableIn (off := 83) (tgt := 84) hx hb d_C_makeSum_1 (by decide) (by decide) (by decide) (by decide) ?_
    obtain ⟨a, ga, rfl⟩ := w2 (by decide)
    obtain ⟨b, gb, rfl⟩ := w3 (by decide) (by decide)
    refine lv_aload_n hx hb d_C_makeSum_84 rfl (lv_at hl 0 rfl) ?_
    refine lv_aload_n hx hb d_C_makeSum_85 rfl (lv_at hl 0 rfl) ?_
    refine lv_iload_n hx hb d_C_makeSum_86 rfl (lv_at hl 2 rfl) ?_
    refine x_callr (va_runV (As := [.int (nI a)]) (rest := [.ref o]) ⟨hx, hb, hml, hown, ht⟩ (c_sumOf l G A ws o z u lv le lk V E K inp w d wV wC hR bE a ga) (cwV 1 ht (TW_V k_ml_C_94 k_im_C_sumOf k_se_C_sumOf k_in_C k_code_C_sumOf) rfl rfl rfl hv_C_sumOf ⟨Nat.le_of_ble_eq_true rfl, Nat.le_of_ble_eq_true rfl⟩) ⟨x_blind, va_recv hK hP rfl ho0, x_pre hE hA hS hP hD⟩ rfl rfl hl.1 rfl (lv_room (Nat.le_of_ble_eq_true rfl)) d_C_makeSum_87 ⟨Nat.le_of_ble_eq_true rfl, Nat.le_of_ble_eq_true rfl⟩) hS (fun r36 w35 H locs q34 hP hD hS => ?_)
    obtain ⟨rfl, ir36⟩ := q34
    refine lv_aload_n hx hb d_C_makeSum_90 rfl (lv_at hl 0 rfl) ?_
    refine lv_iload_n hx hb d_C_makeSum_91 rfl (lv_at hl 3 rfl) ?_
    refine x_callr (va_runV (As := [.int (nI b)]) (rest := [.ref r36, .ref o]) ⟨hx, hb, hml, hown, ht⟩ (c_sumOf l G A ws o z u lv le lk V E K inp w d wV wC hR bE b gb) (cwV 1 ht (TW_V k_ml_C_94 k_im_C_sumOf k_se_C_sumOf k_in_C k_code_C_sumOf) rfl rfl rfl hv_C_sumOf ⟨Nat.le_of_ble_eq_true rfl, Nat.le_of_ble_eq_true rfl⟩) ⟨x_blind, va_recv hK hP rfl ho0, x_pre hE hA hS hP hD⟩ rfl rfl hl.1 rfl (lv_room (Nat.le_of_ble_eq_true rfl)) d_C_makeSum_92 ⟨Nat.le_of_ble_eq_true rfl, Nat.le_of_ble_eq_true rfl⟩) hS (fun r39 w38 H locs q37 hP hD hS => ?_)
    obtain ⟨rfl, ir39⟩ := q37
    refine x_callr (va_runV (As := [.ref r36, .ref r39]) (rest := []) ⟨hx, hb, hml, hown, ht⟩ (c_mshare l G A ws o z u lv le lk V E K inp w d wV wC hR r36 r39 _ _ ir36 ir39 bV bK) (cwV 2 ht (TW_V k_ml_C_206 k_im_C_makeShare k_se_C_makeShare k_in_C k_code_C_makeShare) rfl rfl rfl hv_C_makeShare ⟨Nat.le_of_ble_eq_true rfl, Nat.le_of_ble_eq_true rfl⟩) ⟨x_blind, va_recv hK hP rfl ho0, x_pre hE hA hS hP hD⟩ rfl rfl hl.1 rfl (lv_room (Nat.le_of_ble_eq_true rfl)) d_C_makeSum_95 ⟨Nat.le_of_ble_eq_true rfl, Nat.le_of_ble_eq_true rfl⟩) hS (fun r42 w41 H locs q40 hP hD hS => ?_)
    refine W.widen (k := 12) (n := 736) (Nat.le_of_ble_eq_true rfl) (Nat.le_of_ble_eq_true rfl) ?_
    have e9 : mkSum 5 E (V, K) (nI a) (nI b) x3 = shareS (V, K) (sE E a) (sE E b) := by simp [mkSum, ix_nI (show a < 2 ^ 31 by omega), ix_nI (show b < 2 ^ 31 by omega)]
    exact x_aret hx hb hr (Or.inl ⟨_, rfl⟩) hlocks hS hP hD (Nat.le_of_ble_eq_true rfl) (Nat.le_of_ble_eq_true rfl) d_C_makeSum_98 (by rw [e9]; exact q40)
  · refine lv_iload_n hx hb d_C_makeSum_0 rfl (lv_at hl 1 rfl) ?_
    refine lv_tableIn (off := 98) (tgt := 99) hx hb d_C_makeSum_1 (by decide) (by decide) (by decide) (by decide) ?_
    obtain ⟨a, ga, rfl⟩ := w2 (by decide)
    obtain ⟨b, gb, rfl⟩ := w3 (by decide) (by decide)
    refine lv_aload_n hx hb d_C_makeSum_99 rfl (lv_at hl 0 rfl) ?_
    refine lv_aload_n hx hb d_C_makeSum_100 rfl (lv_at hl 0 rfl) ?_
    refine lv_iload_n hx hb d_C_makeSum_101 rfl (lv_at hl 2 rfl) ?_
    refine lv_iload_n hx hb d_C_makeSum_102 rfl (lv_at hl 3 rfl) ?_
    refine x_callr (va_runV (As := [.int (nI a), .int (nI b)]) (rest := [.ref o]) ⟨hx, hb, hml, hown, ht⟩ (c_diff l G A ws o z u lv le lk V E K inp w d wV wC hR bE a b ga gb) (cwV 2 ht (TW_V k_ml_C_86 k_im_C_difference k_se_C_difference k_in_C k_code_C_difference) rfl rfl rfl hv_C_difference ⟨Nat.le_of_ble_eq_true rfl, Nat.le_of_ble_eq_true rfl⟩) ⟨x_blind, va_recv hK hP rfl ho0, x_pre hE hA hS hP hD⟩ rfl rfl hl.1 rfl (lv_room (Nat.le_of_ble_eq_true rfl)) d_C_makeSum_103 ⟨Nat.le_of_ble_eq_true rfl, Nat.le_of_ble_eq_true rfl⟩) hS (fun r45 w44 H locs q43 hP hD hS => ?_)
    refine W.widen (k := 2) (n := 61) (Nat.le_of_ble_eq_true rfl) (Nat.le_of_ble_eq_true rfl) ?_
    obtain ⟨hR1, kk1, iS⟩ := mkS_CC hR q43 (fun j _ => cmb_lt j)
    obtain ⟨wa1, da1, ho1⟩ := CCs.o hR1
    refine x_callr (va_runV (As := [.ref r45]) (rest := []) ⟨hx, hb, hml, hown, ht⟩ (c_msame l G A w44 o z u lv le lk V E K inp w d wV wC hR1 r45 _ iS bV bK) (cwV 1 ht (TW_V k_ml_C_209 k_im_C_makeSame k_se_C_makeSame k_in_C k_code_C_makeSame) rfl rfl rfl hv_C_makeSame ⟨Nat.le_of_ble_eq_true rfl, Nat.le_of_ble_eq_true rfl⟩) ⟨x_blind, va_recv hK hP rfl ho1, x_pre hE hA hS hP hD⟩ rfl rfl hl.1 rfl (lv_room (Nat.le_of_ble_eq_true rfl)) d_C_makeSum_106 ⟨Nat.le_of_ble_eq_true rfl, Nat.le_of_ble_eq_true rfl⟩) hS (fun r48 w47 H locs q46 hP hD hS => ?_)
    refine W.widen (k := 16) (n := 858) (Nat.le_of_ble_eq_true rfl) (Nat.le_of_ble_eq_true rfl) ?_
    obtain ⟨i2, hR2, kk2⟩ := q46
    have e9 : mkSum 6 E (V, K) (nI a) (nI b) x3 = sameS (V, K) (cmb 1 (sE E a) 96 (sE E b)) := by simp [mkSum, ix_nI (show a < 2 ^ 31 by omega), ix_nI (show b < 2 ^ 31 by omega)]
    exact x_aret hx hb hr (Or.inl ⟨_, rfl⟩) hlocks hS hP hD (Nat.le_of_ble_eq_true rfl) (Nat.le_of_ble_eq_true rfl) d_C_makeSum_109 (by rw [e9]; exact ⟨i2, hR2, kk1.tr kk2⟩)
  · refine lv_iload_n hx hb d_C_makeSum_0 rfl (lv_at hl 1 rfl) ?_
    refine lv_tableIn (off := 109) (tgt := 110) hx hb d_C_makeSum_1 (by decide) (by decide) (by decide) (by decide) ?_
    obtain ⟨a, ga, rfl⟩ := w2 (by decide)
    obtain ⟨b, gb, rfl⟩ := w3 (by decide) (by decide)
    obtain ⟨c9, gc9, rfl⟩ := w4 rfl
    have n9 : nd 7 E (nI a) (nI b) (nI c9) = cp (sE E c9) (cmb 1 (sE E a) 96 (sE E b)) := by simp [nd, ix_nI (show a < 2 ^ 31 by omega), ix_nI (show b < 2 ^ 31 by omega), ix_nI (show c9 < 2 ^ 31 by omega)]
    rw [n9] at bV bK
    refine lv_aload_n hx hb d_C_makeSum_110 rfl (lv_at hl 0 rfl) ?_
    refine lv_aload_n hx hb d_C_makeSum_111 rfl (lv_at hl 0 rfl) ?_
    refine lv_iload hx hb d_C_makeSum_112 (lv_at hl 4 rfl) ?_
    refine x_callr (va_runV (As := [.int (nI c9)]) (rest := [.ref o]) ⟨hx, hb, hml, hown, ht⟩ (c_sumOf l G A ws o z u lv le lk V E K inp w d wV wC hR bE c9 gc9) (cwV 1 ht (TW_V k_ml_C_94 k_im_C_sumOf k_se_C_sumOf k_in_C k_code_C_sumOf) rfl rfl rfl hv_C_sumOf ⟨Nat.le_of_ble_eq_true rfl, Nat.le_of_ble_eq_true rfl⟩) ⟨x_blind, va_recv hK hP rfl ho0, x_pre hE hA hS hP hD⟩ rfl rfl hl.1 rfl (lv_room (Nat.le_of_ble_eq_true rfl)) d_C_makeSum_114 ⟨Nat.le_of_ble_eq_true rfl, Nat.le_of_ble_eq_true rfl⟩) hS (fun r51 w50 H locs q49 hP hD hS => ?_)
    obtain ⟨rfl, ir51⟩ := q49
    refine lv_aload_n hx hb d_C_makeSum_117 rfl (lv_at hl 0 rfl) ?_
    refine lv_iload_n hx hb d_C_makeSum_118 rfl (lv_at hl 2 rfl) ?_
    refine lv_iload_n hx hb d_C_makeSum_119 rfl (lv_at hl 3 rfl) ?_
    refine x_callr (va_runV (As := [.int (nI a), .int (nI b)]) (rest := [.ref r51, .ref o]) ⟨hx, hb, hml, hown, ht⟩ (c_diff l G A ws o z u lv le lk V E K inp w d wV wC hR bE a b ga gb) (cwV 2 ht (TW_V k_ml_C_86 k_im_C_difference k_se_C_difference k_in_C k_code_C_difference) rfl rfl rfl hv_C_difference ⟨Nat.le_of_ble_eq_true rfl, Nat.le_of_ble_eq_true rfl⟩) ⟨x_blind, va_recv hK hP rfl ho0, x_pre hE hA hS hP hD⟩ rfl rfl hl.1 rfl (lv_room (Nat.le_of_ble_eq_true rfl)) d_C_makeSum_120 ⟨Nat.le_of_ble_eq_true rfl, Nat.le_of_ble_eq_true rfl⟩) hS (fun r54 w53 H locs q52 hP hD hS => ?_)
    refine W.widen (k := 2) (n := 61) (Nat.le_of_ble_eq_true rfl) (Nat.le_of_ble_eq_true rfl) ?_
    obtain ⟨hR1, kk1, iS⟩ := mkS_CC hR q52 (fun j _ => cmb_lt j)
    obtain ⟨wa1, da1, ho1⟩ := CCs.o hR1
    refine x_callr (va_runV (As := [.ref r51, .ref r54]) (rest := []) ⟨hx, hb, hml, hown, ht⟩ (c_mprod l G A w53 o z u lv le lk V E K inp w d wV wC hR1 r51 r54 _ _ (ir51.kp kk1) iS bV bK) (cwV 2 ht (TW_V k_ml_C_202 k_im_C_makeProduct k_se_C_makeProduct k_in_C k_code_C_makeProduct) rfl rfl rfl hv_C_makeProduct ⟨Nat.le_of_ble_eq_true rfl, Nat.le_of_ble_eq_true rfl⟩) ⟨x_blind, va_recv hK hP rfl ho1, x_pre hE hA hS hP hD⟩ rfl rfl hl.1 rfl (lv_room (Nat.le_of_ble_eq_true rfl)) d_C_makeSum_123 ⟨Nat.le_of_ble_eq_true rfl, Nat.le_of_ble_eq_true rfl⟩) hS (fun r57 w56 H locs q55 hP hD hS => ?_)
    refine W.widen (k := 8) (n := 429) (Nat.le_of_ble_eq_true rfl) (Nat.le_of_ble_eq_true rfl) ?_
    obtain ⟨i2, hR2, kk2⟩ := q55
    obtain ⟨wa2, da2, ho2⟩ := CCs.o hR2
    obtain ⟨kP, jP, cP, fP, pP, qP, nP, oP, eP, bP⟩ := id i2
    refine lv_aload_n hx hb d_C_makeSum_126 rfl (lv_at hl 0 rfl) ?_
    refine lv_iload_n hx hb d_C_makeSum_127 rfl (lv_at hl 3 rfl) ?_
    refine x_callr (va_runV (As := [.int (nI b)]) (rest := [.ref r57]) ⟨hx, hb, hml, hown, ht⟩ (c_sumOf l G A w56 o z u lv le lk _ E _ inp w d wV wC hR2 bE b gb) (cwV 1 ht (TW_V k_ml_C_94 k_im_C_sumOf k_se_C_sumOf k_in_C k_code_C_sumOf) rfl rfl rfl hv_C_sumOf ⟨Nat.le_of_ble_eq_true rfl, Nat.le_of_ble_eq_true rfl⟩) ⟨x_blind, va_recv hK hP rfl ho2, x_pre hE hA hS hP hD⟩ rfl rfl hl.1 rfl (lv_room (Nat.le_of_ble_eq_true rfl)) d_C_makeSum_128 ⟨Nat.le_of_ble_eq_true rfl, Nat.le_of_ble_eq_true rfl⟩) hS (fun r60 w59 H locs q58 hP hD hS => ?_)
    obtain ⟨rfl, i3⟩ := q58
    refine x_callr (va_runV (As := [.ref r60]) (rest := []) ⟨hx, hb, hml, hown, ht⟩ (c_S_plus l G A w56 r57 r60 _ _ i2 i3) (cwV 1 ht (TW_V k_ml_C_199 k_im_S_plus k_se_S_plus k_in_S k_code_S_plus) rfl rfl rfl hv_S_plus ⟨Nat.le_of_ble_eq_true rfl, Nat.le_of_ble_eq_true rfl⟩) ⟨x_blind, va_recv hK hP rfl pP, x_pre hE hA hS hP hD⟩ rfl rfl hl.1 rfl (lv_room (Nat.le_of_ble_eq_true rfl)) d_C_makeSum_131 ⟨Nat.le_of_ble_eq_true rfl, Nat.le_of_ble_eq_true rfl⟩) hS (fun r63 w62 H locs q61 hP hD hS => ?_)
    refine W.widen (k := 10) (n := 490) (Nat.le_of_ble_eq_true rfl) (Nat.le_of_ble_eq_true rfl) ?_
    obtain ⟨hR3, kk3, i4⟩ := mkS_CC hR2 q61 (fun j _ => cmb_lt j)
    have e9 : mkSum 7 E (V, K) (nI a) (nI b) (nI c9) = ((prodS (V, K) (sE E c9) (cmb 1 (sE E a) 96 (sE E b))).1, cmb 1 (prodS (V, K) (sE E c9) (cmb 1 (sE E a) 96 (sE E b))).2 1 (sE E b)) := by simp [mkSum, ix_nI (show a < 2 ^ 31 by omega), ix_nI (show b < 2 ^ 31 by omega), ix_nI (show c9 < 2 ^ 31 by omega)]
    exact x_aret hx hb hr (Or.inl ⟨_, rfl⟩) hlocks hS hP hD (Nat.le_of_ble_eq_true rfl) (Nat.le_of_ble_eq_true rfl) d_C_makeSum_134 (by rw [e9]; exact ⟨i4, hR3, (kk1.tr kk2).tr kk3⟩)
  · refine lv_iload_n hx hb d_C_makeSum_0 rfl (lv_at hl 1 rfl) ?_
    refine lv_tableIn (off := 134) (tgt := 135) hx hb d_C_makeSum_1 (by decide) (by decide) (by decide) (by decide) ?_
    obtain ⟨a, ga, rfl⟩ := w2 (by decide)
    have iu := hR.z.2
    obtain ⟨kU, jU, cU, fU, pU, qU, nU, oU, eU, bU⟩ := id iu
    refine lv_aload_n hx hb d_C_makeSum_135 rfl (lv_at hl 0 rfl) ?_
    refine va_get (D := xD G) (ci := 0) (C := R_C) (T := F_C) (N := 10) hx hb ht in_C hown hK hP 0 ho0 rfl 1 (by decide) (ht _ k_fl_C_20) (fun _ h9 => h9) rfl d_C_makeSum_136 ?_
    refine lv_aload_n hx hb d_C_makeSum_139 rfl (lv_at hl 0 rfl) ?_
    refine lv_iload_n hx hb d_C_makeSum_140 rfl (lv_at hl 2 rfl) ?_
    refine x_callr (va_runV (As := [.int (nI a)]) (rest := [.ref u]) ⟨hx, hb, hml, hown, ht⟩ (c_sumOf l G A ws o z u lv le lk V E K inp w d wV wC hR bE a ga) (cwV 1 ht (TW_V k_ml_C_94 k_im_C_sumOf k_se_C_sumOf k_in_C k_code_C_sumOf) rfl rfl rfl hv_C_sumOf ⟨Nat.le_of_ble_eq_true rfl, Nat.le_of_ble_eq_true rfl⟩) ⟨x_blind, va_recv hK hP rfl ho0, x_pre hE hA hS hP hD⟩ rfl rfl hl.1 rfl (lv_room (Nat.le_of_ble_eq_true rfl)) d_C_makeSum_141 ⟨Nat.le_of_ble_eq_true rfl, Nat.le_of_ble_eq_true rfl⟩) hS (fun r66 w65 H locs q64 hP hD hS => ?_)
    obtain ⟨rfl, ir66⟩ := q64
    refine x_callr (va_runV (As := [.ref r66]) (rest := []) ⟨hx, hb, hml, hown, ht⟩ (c_S_minus l G A ws u r66 _ _ iu ir66) (cwV 1 ht (TW_V k_ml_C_97 k_im_S_minus k_se_S_minus k_in_S k_code_S_minus) rfl rfl rfl hv_S_minus ⟨Nat.le_of_ble_eq_true rfl, Nat.le_of_ble_eq_true rfl⟩) ⟨x_blind, va_recv hK hP rfl pU, x_pre hE hA hS hP hD⟩ rfl rfl hl.1 rfl (lv_room (Nat.le_of_ble_eq_true rfl)) d_C_makeSum_144 ⟨Nat.le_of_ble_eq_true rfl, Nat.le_of_ble_eq_true rfl⟩) hS (fun r69 w68 H locs q67 hP hD hS => ?_)
    refine W.widen (k := 2) (n := 61) (Nat.le_of_ble_eq_true rfl) (Nat.le_of_ble_eq_true rfl) ?_
    obtain ⟨hR1, kk1, iS⟩ := mkS_CC hR q67 (fun j _ => cmb_lt j)
    have e9 : mkSum 8 E (V, K) (nI a) x2 x3 = ((V, K), cmb 1 (unit 0) 96 (sE E a)) := by simp [mkSum, ix_nI (show a < 2 ^ 31 by omega)]
    exact x_aret hx hb hr (Or.inl ⟨_, rfl⟩) hlocks hS hP hD (Nat.le_of_ble_eq_true rfl) (Nat.le_of_ble_eq_true rfl) d_C_makeSum_147 (by rw [e9]; exact ⟨iS, hR1, kk1⟩)
  · refine lv_iload_n hx hb d_C_makeSum_0 rfl (lv_at hl 1 rfl) ?_
    refine lv_tableIn (off := 147) (tgt := 148) hx hb d_C_makeSum_1 (by decide) (by decide) (by decide) (by decide) ?_
    obtain ⟨a, ga, rfl⟩ := w2 (by decide)
    obtain ⟨b, hb1, hb5, rfl⟩ := w5 rfl
    have n9 : nd 9 E (nI a) (nI b) x3 = (b - 1) * cp (sE E a) (sE E a) := by simp [nd, ix_nI (show a < 2 ^ 31 by omega), ix_nI (show b < 2 ^ 31 by omega)]
    rw [n9] at bV bK
    refine lv_aload_n hx hb d_C_makeSum_148 rfl (lv_at hl 0 rfl) ?_
    refine lv_aload_n hx hb d_C_makeSum_149 rfl (lv_at hl 0 rfl) ?_
    refine lv_iload_n hx hb d_C_makeSum_150 rfl (lv_at hl 2 rfl) ?_
    refine x_callr (va_runV (As := [.int (nI a)]) (rest := [.ref o]) ⟨hx, hb, hml, hown, ht⟩ (c_sumOf l G A ws o z u lv le lk V E K inp w d wV wC hR bE a ga) (cwV 1 ht (TW_V k_ml_C_94 k_im_C_sumOf k_se_C_sumOf k_in_C k_code_C_sumOf) rfl rfl rfl hv_C_sumOf ⟨Nat.le_of_ble_eq_true rfl, Nat.le_of_ble_eq_true rfl⟩) ⟨x_blind, va_recv hK hP rfl ho0, x_pre hE hA hS hP hD⟩ rfl rfl hl.1 rfl (lv_room (Nat.le_of_ble_eq_true rfl)) d_C_makeSum_151 ⟨Nat.le_of_ble_eq_true rfl, Nat.le_of_ble_eq_true rfl⟩) hS (fun r72 w71 H locs q70 hP hD hS => ?_)
    obtain ⟨rfl, ir72⟩ := q70
    refine lv_iload_n hx hb d_C_makeSum_154 rfl (lv_at hl 3 rfl) ?_
    refine x_callr (va_runV (As := [.ref r72, .int (nI b)]) (rest := []) ⟨hx, hb, hml, hown, ht⟩ (c_mpow l G A ws o z u lv le lk V E K inp w d wV wC hR r72 b _ ir72 hb1 hb5 bV bK) (cwV 2 ht (TW_V k_ml_C_212 k_im_C_makePower k_se_C_makePower k_in_C k_code_C_makePower) rfl rfl rfl hv_C_makePower ⟨Nat.le_of_ble_eq_true rfl, Nat.le_of_ble_eq_true rfl⟩) ⟨x_blind, va_recv hK hP rfl ho0, x_pre hE hA hS hP hD⟩ rfl rfl hl.1 rfl (lv_room (Nat.le_of_ble_eq_true rfl)) d_C_makeSum_155 ⟨Nat.le_of_ble_eq_true rfl, Nat.le_of_ble_eq_true rfl⟩) hS (fun r75 w74 H locs q73 hP hD hS => ?_)
    refine W.widen (k := 24) (n := 1472) (Nat.le_of_ble_eq_true rfl) (Nat.le_of_ble_eq_true rfl) ?_
    have e9 : mkSum 9 E (V, K) (nI a) (nI b) x3 = powS (b - 1) (V, K) (sE E a) (sE E a) := by simp [mkSum, ix_nI (show a < 2 ^ 31 by omega), ix_nI (show b < 2 ^ 31 by omega)]
    exact x_aret hx hb hr (Or.inl ⟨_, rfl⟩) hlocks hS hP hD (Nat.le_of_ble_eq_true rfl) (Nat.le_of_ble_eq_true rfl) d_C_makeSum_158 (by rw [e9]; exact q73)

def wfx (n : Nat) (x0 x1 x2 x3 : Int32) : Prop := ∃ kd, x0 = nI kd ∧ wfd kd n x1 x2 x3
theorem wfx_iff {n kd : Nat} {x1 x2 x3 : Int32} (h : kd < 2 ^ 31) : wfx n (nI kd) x1 x2 x3 ↔ wfd kd n x1 x2 x3 := by
  constructor
  · rintro ⟨k, e, hk⟩
    have h1 := hk.1
    rw [nI_eq h (by omega)] at e
    rw [e]; exact hk
  · exact fun hk => ⟨kd, rfl, hk⟩
theorem rng15 {x : Int32} (h1 : ¬ x < nI 1) (h2 : ¬ nI 5 < x) : ∃ b, 1 ≤ b ∧ b ≤ 5 ∧ x = nI b := by
  rw [Int32.lt_iff_toInt_lt, nI_toInt (by decide)] at h1 h2
  refine ⟨x.toInt.toNat, by omega, by omega, ?_⟩
  apply Int32.toInt_inj.mp
  rw [nI_toInt (by omega)]
  omega

set_option maxHeartbeats 4000000 in
set_option maxRecDepth 100000 in
theorem c_wf (l : Launch) (G : xG) (A : Nat → Prop) (ws : va_W) (o z u lv le lk : Nat) (V : List VV) (E : List EE) (K : List KK) (inp : Nat) (w d : Nat → Nat) (wV wC : Nat) (hR : CCs G ws o z u lv le lk V E K inp w d wV wC) (bE : E.length ≤ 60) (x0 x1 x2 x3 : Int32) : Met l y_C_isWellFormed (cw_C_isWellFormed :: TW) { frames := 3, cells := 0, slots := 0, locals := 78 } (va_Pc [.ref o, .int x0, .int x1, .int x2, .int x3] (x_P G A ws)) (qI G A (fun r w9 => ws = w9 ∧ ((r = nI 1 ∧ wfx E.length x0 x1 x2 x3) ∨ (r = nI 0 ∧ ¬ wfx E.length x0 x1 x2 x3)))) 0 0 A := by
  refine Met.ofW (cc := b_C_isWellFormed) (maxL := 5) (ret := (some .boolean)) (by decide) rfl ?_
  intro p e s m args below meth c s₁ B hml hv
  obtain ⟨rfl, hE, hA, hP, hD⟩ := hv
  have hx := B.exec
  have hb := B.bytes
  have hr := B.returns
  have ht : ∀ w ∈ TW, w.before _ s = true := fun w h => atoms_spec (ws := cw_C_isWellFormed :: TW) B.pre w (List.mem_cons_of_mem _ h)
  have hown : s.vm.findClass R_C = some m.cls := findClass_of_methodNamed B.named
  have hlocks := B.notSynchronized
  have hK := hE.1
  have hS : va_S A s.heap s.heap [] := va_S.rf
  have hl := lv_entry ([.ref o, .int x0, .int x1, .int x2, .int x3]) (n := 5) (Nat.le_of_ble_eq_true rfl)
  rw [lg_entry_eq]
  generalize (lg_sl ([.ref o, .int x0, .int x1, .int x2, .int x3]) ++ List.replicate (5 - (lg_sl ([.ref o, .int x0, .int x1, .int x2, .int x3])).length) Slot.unset).toArray = ls at hl ⊢
  have hl : lv_has ls 5 [(0, .ref o), (1, .int x0), (2, .int x1), (3, .int x2), (4, .int x3)] := hl
  obtain ⟨wa0, da0, ho0⟩ := CCs.o hR
  refine lv_iload_n hx hb d_C_isWellFormed_0 rfl (lv_at hl 1 rfl) ?_
  refine lv_if_lt (tgt := 10) hx hb d_C_isWellFormed_1 (by decide) (fun c1 => ?_) (fun c1 => ?_)
  · refine lv_iconst (v := (nI 0)) hx hb d_C_isWellFormed_10 (by decide) ?_
    exact x_zret hx hb hr hlocks hS hP hD (Nat.le_of_ble_eq_true rfl) (Nat.le_of_ble_eq_true rfl) d_C_isWellFormed_11 rfl (⟨rfl, Or.inr ⟨rfl, fun ⟨k, e, hk⟩ => by have h9 := hk.1; rw [e] at c1; exact nI_pos (by omega) c1⟩⟩)
  obtain ⟨kd, hkd, rfl⟩ := nI_of c1
  have s65 : ∀ (H : Heap) (locs : List Loc), va_P (xD G) CL ws H → va_S A s.heap H locs → (kd ≤ 9) → (2 ≤ kd → md E.length x1) → (2 ≤ kd → kd ≤ 7 → md E.length x2) → (kd = 7 → md E.length x3) → W p l e (headSpec (cw_C_isWellFormed :: TW) { frames := 3, cells := 0, slots := 0, locals := 78 }).room s m ([.ref o, .int (nI kd), .int x1, .int x2, .int x3] : List Value).toArray below meth c H locs 0 0 (MQ below (qI G A (fun r w9 => ws = w9 ∧ ((r = nI 1 ∧ wfx E.length (nI kd) x1 x2 x3) ∨ (r = nI 0 ∧ ¬ wfx E.length (nI kd) x1 x2 x3)))) ([.ref o, .int (nI kd), .int x1, .int x2, .int x3] : List Value).toArray s 0 0 A) (F0 m 65 ls []) := by
    intro H locs hP hS f9 fA fB fC
    refine lv_iload_n hx hb d_C_isWellFormed_65 rfl (lv_at hl 1 rfl) ?_
    refine lv_bipush (v := (nI 9)) hx hb d_C_isWellFormed_66 (by decide) ?_
    refine x_ne hx hb kd 9 rfl rfl (by omega) (by omega) (tgt := 81) d_C_isWellFormed_68 (by decide) (fun c1 => ?_) (fun c1 => ?_)
    · refine lv_iconst (v := (nI 1)) hx hb d_C_isWellFormed_81 (by decide) ?_
      refine lv_goto (tgt := 86) hx hb d_C_isWellFormed_82 (by decide) ?_
      exact x_zret hx hb hr hlocks hS hP hD (Nat.le_of_ble_eq_true rfl) (Nat.le_of_ble_eq_true rfl) d_C_isWellFormed_86 rfl (⟨rfl, Or.inl ⟨rfl, (wfx_iff hkd).mpr ⟨f9, fA, fB, fC, fun e => absurd e c1⟩⟩⟩)
    · refine lv_iload_n hx hb d_C_isWellFormed_71 rfl (lv_at hl 3 rfl) ?_
      refine lv_iconst (v := (nI 1)) hx hb d_C_isWellFormed_72 (by decide) ?_
      refine lv_icmp_lt (tgt := 85) hx hb d_C_isWellFormed_73 (by decide) (fun c2 => ?_) (fun c2 => ?_)
      · refine lv_iconst (v := (nI 0)) hx hb d_C_isWellFormed_85 (by decide) ?_
        exact x_zret hx hb hr hlocks hS hP hD (Nat.le_of_ble_eq_true rfl) (Nat.le_of_ble_eq_true rfl) d_C_isWellFormed_86 rfl (⟨rfl, Or.inr ⟨rfl, fun q => by rw [wfx_iff hkd] at q; obtain ⟨b, b1, b2, e⟩ := q.2.2.2.2 c1; rw [e] at c2; exact absurd ((nI_ltI (by omega) (by omega)).mp c2) (by omega)⟩⟩)
      · refine lv_iload_n hx hb d_C_isWellFormed_76 rfl (lv_at hl 3 rfl) ?_
        refine lv_iconst (v := (nI 5)) hx hb d_C_isWellFormed_77 (by decide) ?_
        refine lv_icmp_gt (tgt := 85) hx hb d_C_isWellFormed_78 (by decide) (fun c3 => ?_) (fun c3 => ?_)
        · refine lv_iconst (v := (nI 0)) hx hb d_C_isWellFormed_85 (by decide) ?_
          exact x_zret hx hb hr hlocks hS hP hD (Nat.le_of_ble_eq_true rfl) (Nat.le_of_ble_eq_true rfl) d_C_isWellFormed_86 rfl (⟨rfl, Or.inr ⟨rfl, fun q => by rw [wfx_iff hkd] at q; obtain ⟨b, b1, b2, e⟩ := q.2.2.2.2 c1; rw [e] at c3; exact absurd ((nI_ltI (by omega) (by omega)).mp c3) (by omega)⟩⟩)
        · refine lv_iconst (v := (nI 1)) hx hb d_C_isWellFormed_81 (by decide) ?_
          refine lv_goto (tgt := 86) hx hb d_C_isWellFormed_82 (by decide) ?_
          exact x_zret hx hb hr hlocks hS hP hD (Nat.le_of_ble_eq_true rfl) (Nat.le_of_ble_eq_true rfl) d_C_isWellFormed_86 rfl (⟨rfl, Or.inl ⟨rfl, (wfx_iff hkd).mpr ⟨f9, fA, fB, fC, fun _ => rng15 c2 c3⟩⟩⟩)
  have s48 : ∀ (H : Heap) (locs : List Loc), va_P (xD G) CL ws H → va_S A s.heap H locs → (kd ≤ 9) → (2 ≤ kd → md E.length x1) → (2 ≤ kd → kd ≤ 7 → md E.length x2) → W p l e (headSpec (cw_C_isWellFormed :: TW) { frames := 3, cells := 0, slots := 0, locals := 78 }).room s m ([.ref o, .int (nI kd), .int x1, .int x2, .int x3] : List Value).toArray below meth c H locs 0 0 (MQ below (qI G A (fun r w9 => ws = w9 ∧ ((r = nI 1 ∧ wfx E.length (nI kd) x1 x2 x3) ∨ (r = nI 0 ∧ ¬ wfx E.length (nI kd) x1 x2 x3)))) ([.ref o, .int (nI kd), .int x1, .int x2, .int x3] : List Value).toArray s 0 0 A) (F0 m 48 ls []) := by
    intro H locs hP hS f9 fA fB
    refine lv_iload_n hx hb d_C_isWellFormed_48 rfl (lv_at hl 1 rfl) ?_
    refine lv_bipush (v := (nI 7)) hx hb d_C_isWellFormed_49 (by decide) ?_
    refine x_ne hx hb kd 7 rfl rfl (by omega) (by omega) (tgt := 65) d_C_isWellFormed_51 (by decide) (fun c4 => ?_) (fun c4 => ?_)
    · exact s65 H locs hP hS f9 fA fB (fun e => absurd e c4)
    · refine lv_aload_n hx hb d_C_isWellFormed_54 rfl (lv_at hl 0 rfl) ?_
      refine lv_iload hx hb d_C_isWellFormed_55 (lv_at hl 4 rfl) ?_
      refine x_calli (va_runV (As := [.int x3]) (rest := []) ⟨hx, hb, hml, hown, ht⟩ (c_isMade l G A ws o z u lv le lk V E K inp w d wV wC hR bE x3) (cwV 1 ht (TW_V k_ml_C_82 k_im_C_isMade k_se_C_isMade k_in_C k_code_C_isMade) rfl rfl rfl hv_C_isMade ⟨Nat.le_of_ble_eq_true rfl, Nat.le_of_ble_eq_true rfl⟩) ⟨x_blind, va_recv hK hP rfl ho0, x_pre hE hA hS hP hD⟩ rfl rfl hl.1 rfl (lv_room (Nat.le_of_ble_eq_true rfl)) d_C_isWellFormed_57 ⟨Nat.le_of_ble_eq_true rfl, Nat.le_of_ble_eq_true rfl⟩) hS (fun r7 w6 H locs q5 hP hD hS => ?_)
      obtain ⟨rfl, ⟨rfl, hm⟩ | ⟨rfl, hm⟩⟩ := q5
      · refine x_if_ne hx hb 1 rfl (by omega) (tgt := 65) d_C_isWellFormed_60 (by decide) (fun c8 => ?_) (fun c8 => ?_)
        · exact s65 H locs hP hS f9 fA fB (fun _ => hm)
        · exact False.elim (by omega)
      · refine x_if_ne hx hb 0 rfl (by omega) (tgt := 65) d_C_isWellFormed_60 (by decide) (fun c9 => ?_) (fun c9 => ?_)
        · exact False.elim (by omega)
        · refine lv_iconst (v := (nI 0)) hx hb d_C_isWellFormed_63 (by decide) ?_
          exact x_zret hx hb hr hlocks hS hP hD (Nat.le_of_ble_eq_true rfl) (Nat.le_of_ble_eq_true rfl) d_C_isWellFormed_64 rfl (⟨rfl, Or.inr ⟨rfl, fun q => by rw [wfx_iff hkd] at q; exact hm (q.2.2.2.1 c4)⟩⟩)
  have s27 : ∀ (H : Heap) (locs : List Loc), va_P (xD G) CL ws H → va_S A s.heap H locs → (kd ≤ 9) → (2 ≤ kd → md E.length x1) → W p l e (headSpec (cw_C_isWellFormed :: TW) { frames := 3, cells := 0, slots := 0, locals := 78 }).room s m ([.ref o, .int (nI kd), .int x1, .int x2, .int x3] : List Value).toArray below meth c H locs 0 0 (MQ below (qI G A (fun r w9 => ws = w9 ∧ ((r = nI 1 ∧ wfx E.length (nI kd) x1 x2 x3) ∨ (r = nI 0 ∧ ¬ wfx E.length (nI kd) x1 x2 x3)))) ([.ref o, .int (nI kd), .int x1, .int x2, .int x3] : List Value).toArray s 0 0 A) (F0 m 27 ls []) := by
    intro H locs hP hS f9 fA
    refine lv_iload_n hx hb d_C_isWellFormed_27 rfl (lv_at hl 1 rfl) ?_
    refine lv_iconst (v := (nI 2)) hx hb d_C_isWellFormed_28 (by decide) ?_
    refine x_lt hx hb kd 2 rfl rfl (by omega) (by omega) (tgt := 48) d_C_isWellFormed_29 (by decide) (fun c10 => ?_) (fun c10 => ?_)
    · exact s48 H locs hP hS f9 fA (fun e => absurd e (by omega))
    · refine lv_iload_n hx hb d_C_isWellFormed_32 rfl (lv_at hl 1 rfl) ?_
      refine lv_bipush (v := (nI 7)) hx hb d_C_isWellFormed_33 (by decide) ?_
      refine x_gt hx hb kd 7 rfl rfl (by omega) (by omega) (tgt := 48) d_C_isWellFormed_35 (by decide) (fun c11 => ?_) (fun c11 => ?_)
      · exact s48 H locs hP hS f9 fA (fun _ e => absurd e (by omega))
      · refine lv_aload_n hx hb d_C_isWellFormed_38 rfl (lv_at hl 0 rfl) ?_
        refine lv_iload_n hx hb d_C_isWellFormed_39 rfl (lv_at hl 3 rfl) ?_
        refine x_calli (va_runV (As := [.int x2]) (rest := []) ⟨hx, hb, hml, hown, ht⟩ (c_isMade l G A ws o z u lv le lk V E K inp w d wV wC hR bE x2) (cwV 1 ht (TW_V k_ml_C_82 k_im_C_isMade k_se_C_isMade k_in_C k_code_C_isMade) rfl rfl rfl hv_C_isMade ⟨Nat.le_of_ble_eq_true rfl, Nat.le_of_ble_eq_true rfl⟩) ⟨x_blind, va_recv hK hP rfl ho0, x_pre hE hA hS hP hD⟩ rfl rfl hl.1 rfl (lv_room (Nat.le_of_ble_eq_true rfl)) d_C_isWellFormed_40 ⟨Nat.le_of_ble_eq_true rfl, Nat.le_of_ble_eq_true rfl⟩) hS (fun r14 w13 H locs q12 hP hD hS => ?_)
        obtain ⟨rfl, ⟨rfl, hm⟩ | ⟨rfl, hm⟩⟩ := q12
        · refine x_if_ne hx hb 1 rfl (by omega) (tgt := 48) d_C_isWellFormed_43 (by decide) (fun c15 => ?_) (fun c15 => ?_)
          · exact s48 H locs hP hS f9 fA (fun _ _ => hm)
          · exact False.elim (by omega)
        · refine x_if_ne hx hb 0 rfl (by omega) (tgt := 48) d_C_isWellFormed_43 (by decide) (fun c16 => ?_) (fun c16 => ?_)
          · exact False.elim (by omega)
          · refine lv_iconst (v := (nI 0)) hx hb d_C_isWellFormed_46 (by decide) ?_
            exact x_zret hx hb hr hlocks hS hP hD (Nat.le_of_ble_eq_true rfl) (Nat.le_of_ble_eq_true rfl) d_C_isWellFormed_47 rfl (⟨rfl, Or.inr ⟨rfl, fun q => by rw [wfx_iff hkd] at q; exact hm (q.2.2.1 c10 c11)⟩⟩)
  refine lv_iload_n hx hb d_C_isWellFormed_4 rfl (lv_at hl 1 rfl) ?_
  refine lv_bipush (v := (nI 9)) hx hb d_C_isWellFormed_5 (by decide) ?_
  refine x_le hx hb kd 9 rfl rfl (by omega) (by omega) (tgt := 12) d_C_isWellFormed_7 (by decide) (fun c17 => ?_) (fun c17 => ?_)
  · have f9 := c17
    refine lv_iload_n hx hb d_C_isWellFormed_12 rfl (lv_at hl 1 rfl) ?_
    refine lv_iconst (v := (nI 2)) hx hb d_C_isWellFormed_13 (by decide) ?_
    refine x_lt hx hb kd 2 rfl rfl (by omega) (by omega) (tgt := 27) d_C_isWellFormed_14 (by decide) (fun c18 => ?_) (fun c18 => ?_)
    · exact s27 s.heap [] hP hS f9 (fun e => absurd e (by omega))
    · refine lv_aload_n hx hb d_C_isWellFormed_17 rfl (lv_at hl 0 rfl) ?_
      refine lv_iload_n hx hb d_C_isWellFormed_18 rfl (lv_at hl 2 rfl) ?_
      refine x_calli (va_runV (As := [.int x1]) (rest := []) ⟨hx, hb, hml, hown, ht⟩ (c_isMade l G A ws o z u lv le lk V E K inp w d wV wC hR bE x1) (cwV 1 ht (TW_V k_ml_C_82 k_im_C_isMade k_se_C_isMade k_in_C k_code_C_isMade) rfl rfl rfl hv_C_isMade ⟨Nat.le_of_ble_eq_true rfl, Nat.le_of_ble_eq_true rfl⟩) ⟨x_blind, va_recv hK hP rfl ho0, x_pre hE hA hS hP hD⟩ rfl rfl hl.1 rfl (lv_room (Nat.le_of_ble_eq_true rfl)) d_C_isWellFormed_19 ⟨Nat.le_of_ble_eq_true rfl, Nat.le_of_ble_eq_true rfl⟩) hS (fun r21 w20 H locs q19 hP hD hS => ?_)
      obtain ⟨rfl, ⟨rfl, hm⟩ | ⟨rfl, hm⟩⟩ := q19
      · refine x_if_ne hx hb 1 rfl (by omega) (tgt := 27) d_C_isWellFormed_22 (by decide) (fun c22 => ?_) (fun c22 => ?_)
        · exact s27 H locs hP hS f9 (fun _ => hm)
        · exact False.elim (by omega)
      · refine x_if_ne hx hb 0 rfl (by omega) (tgt := 27) d_C_isWellFormed_22 (by decide) (fun c23 => ?_) (fun c23 => ?_)
        · exact False.elim (by omega)
        · refine lv_iconst (v := (nI 0)) hx hb d_C_isWellFormed_25 (by decide) ?_
          exact x_zret hx hb hr hlocks hS hP hD (Nat.le_of_ble_eq_true rfl) (Nat.le_of_ble_eq_true rfl) d_C_isWellFormed_26 rfl (⟨rfl, Or.inr ⟨rfl, fun q => by rw [wfx_iff hkd] at q; exact hm (q.2.1 c18)⟩⟩)
  · refine lv_iconst (v := (nI 0)) hx hb d_C_isWellFormed_10 (by decide) ?_
    exact x_zret hx hb hr hlocks hS hP hD (Nat.le_of_ble_eq_true rfl) (Nat.le_of_ble_eq_true rfl) d_C_isWellFormed_11 rfl (⟨rfl, Or.inr ⟨rfl, fun q => by rw [wfx_iff hkd] at q; exact absurd q.1 (by omega)⟩⟩)
end
section
/-! solving -/
abbrev hld (x : KK) (w : Nat → Nat) : Prop := vl x.1 w * vl x.2.1 w % 97 = vl x.2.2 w
def kAt (K : List KK) (i : Nat) : KK := K.getD i (zr, zr, zr)
theorem kAt_of {K : List KK} {i : Nat} {x : KK} (h : K[i]? = some x) : kAt K i = x := by unfold kAt; rw [List.getD_eq_getElem?_getD, h]; rfl
def brk (K : List KK) (w : Nat → Nat) : Nat → Nat
  | 0 => 0
  | n + 1 => brk K w n + (if hld (kAt K n) w then 0 else 1)
theorem brk_le (K : List KK) (w : Nat → Nat) : ∀ n, brk K w n ≤ n := by
  intro n
  induction n with
  | zero => exact Nat.le_refl 0
  | succ n ih => show brk K w n + _ ≤ _; split <;> omega
def num (x : VV) (w : Nat → Nat) : Option Nat :=
  if x.1 = 0 then some 1 else if x.1 = 1 then some x.2.2.2 else if x.1 = 2 then some (vl x.2.1 w * vl x.2.2.1 w % 97) else if x.1 = 3 then (if vl x.2.1 w = 0 then none else some (inv97 (vl x.2.1 w))) else if x.1 = 4 then some (inv97 (vl x.2.1 w)) else some (if vl x.2.1 w = 0 then 1 else 0)
def vAt (V : List VV) (i : Nat) : VV := V.getD i (0, zr, zr, 0)
theorem vAt_of {V : List VV} {i : Nat} {x : VV} (h : V[i]? = some x) : vAt V i = x := by unfold vAt; rw [List.getD_eq_getElem?_getD, h]; rfl
/-- the numbers, one variable behind another: n variables are left, the next is i -/
def fil (V : List VV) : Nat → Nat → (Nat → Nat) → Bool × (Nat → Nat)
  | 0, _, d => (true, d)
  | n + 1, i, d => match num (vAt V i) d with
    | none => (false, d)
    | some v => fil V n (i + 1) (va_up d i v)
theorem isL.set0 {G : xG} {ws : va_W} {o kl al n : Nat} {ka : Option Nat} {g : Nat → Nat} {fs : List Value} {x : Nat × va_E} (h : isL G ws kl ka al n g) (h0 : ws[0]? = some (o, .inr (0, fs))) : isL G (ws.set 0 x) kl ka al n g := by
  obtain ⟨mo, ea2, q0, qd⟩ := h
  refine ⟨mo, ea2, w_ne (w_dif h0 q0 (by simp)) q0, ?_⟩
  rcases qd with h | ⟨k, cap, f, e1, e2, e3⟩
  · exact Or.inl h
  · exact Or.inr ⟨k, cap, f, e1, w_ne (w_dif h0 e2 (by simp)) e2, e3⟩
theorem CCx.setRow {G : xG} {ws : va_W} {o z u lv le lk wa da : Nat} {kV kE kK : Option Nat} {gV gE gK : Nat → Nat} {V : List VV} {E : List EE} {K : List KK} {inp : Nat} {w d w2 d2 : Nat → Nat} {wV wC : Nat} (h : CCx G ws o z u lv le lk wa da kV kE kK gV gE gK V E K inp w d wV wC) {k0 a : Nat} {h0 h1 : Nat → Int32} (hk : k0 = 8 ∨ k0 = 9) (h8 : ws[k0]? = some (a, aI G 60 h0)) (hr : rows2 G (ws.set k0 (a, aI G 60 h1)) wa da w2 d2) :
    CCx G (ws.set k0 (a, aI G 60 h1)) o z u lv le lk wa da kV kE kK gV gE gK V E K inp w2 d2 wV wC ∧ kp ws (ws.set k0 (a, aI G 60 h1)) := by
  obtain ⟨g1, g2, g3, g4, g5, g6, g7, g8, g9, g10, g11, g12, g13⟩ := h
  have kk : kp ws (ws.set k0 (a, aI G 60 h1)) := by
    intro k b e hk2 hh
    refine w_ne ?_ hk2
    rintro rfl
    have := w_fn hk2 h8
    cases this
    rcases hh with ⟨ci, fs, e1, e2⟩ | ⟨c, m, f, e1, e2, e3⟩
    · cases e1
    · omega
  have kl : ∀ {kl2 : Nat} {kb : Option Nat} {al2 n2 : Nat} {g2 : Nat → Nat}, isL G ws kl2 kb al2 n2 g2 → isL G (ws.set k0 (a, aI G 60 h1)) kl2 kb al2 n2 g2 := by
    intro kl2 kb al2 n2 g2 q
    obtain ⟨mo, ea, q0, qd⟩ := q
    refine ⟨mo, ea, w_ne (w_dif h8 q0 (by simp)) q0, ?_⟩
    rcases qd with h | ⟨k, cap, f, e1, e2, e3⟩
    · exact Or.inl h
    · exact Or.inr ⟨k, cap, f, e1, w_ne (w_dif h8 e2 (by simp)) e2, e3⟩
  exact ⟨⟨w_ne (w_dif h8 g1 (by simp)) g1, g2.kp kk, g3.kp kk, kl g4, kl g5, kl g6, fun i x hx => (g7 i x hx).kp kk, fun i x hx => (g8 i x hx).kp kk, fun i x hx => (g9 i x hx).kp kk, g10, g11, hr, by rw [w_setlen]; exact g13⟩, kk⟩

set_option maxHeartbeats 4000000 in
set_option maxRecDepth 100000 in
theorem c_hasW (l : Launch) (G : xG) (A : Nat → Prop) (ws : va_W) (o z u lv le lk : Nat) (V : List VV) (E : List EE) (K : List KK) (inp : Nat) (w d : Nat → Nat) (wV wC : Nat) (hR : CCs G ws o z u lv le lk V E K inp w d wV wC) (bW : wV ≤ 60) : Met l y_C_hasWitness (cw_C_hasWitness :: TW) { frames := 1, cells := 0, slots := 0, locals := 26 } (va_Pc [.ref o] (x_P G A ws)) (qI G A (fun r w9 => ws = w9 ∧ ((r = nI 1 ∧ 0 < wV) ∨ (r = nI 0 ∧ wV = 0)))) 0 0 A := by
  refine Met.ofW (cc := b_C_hasWitness) (maxL := 1) (ret := (some .boolean)) (by decide) rfl ?_
  intro p e s m args below meth c s₁ B hml hv
  obtain ⟨rfl, hE, hA, hP, hD⟩ := hv
  have hx := B.exec
  have hb := B.bytes
  have hr := B.returns
  have ht : ∀ w ∈ TW, w.before _ s = true := fun w h => atoms_spec (ws := cw_C_hasWitness :: TW) B.pre w (List.mem_cons_of_mem _ h)
  have hown : s.vm.findClass R_C = some m.cls := findClass_of_methodNamed B.named
  have hlocks := B.notSynchronized
  have hK := hE.1
  have hS : va_S A s.heap s.heap [] := va_S.rf
  have hl := lv_entry ([.ref o]) (n := 1) (Nat.le_of_ble_eq_true rfl)
  rw [lg_entry_eq]
  generalize (lg_sl ([.ref o]) ++ List.replicate (1 - (lg_sl ([.ref o])).length) Slot.unset).toArray = ls at hl ⊢
  have hl : lv_has ls 1 [(0, .ref o)] := hl
  obtain ⟨wa0, da0, ho0⟩ := CCs.o hR
  refine lv_aload_n hx hb d_C_hasWitness_0 rfl (lv_at hl 0 rfl) ?_
  refine va_get (D := xD G) (ci := 0) (C := R_C) (T := F_C) (N := 10) hx hb ht in_C hown hK hP 0 ho0 rfl 8 (by decide) (ht _ k_fl_C_132) (fun _ h9 => h9) rfl d_C_hasWitness_1 ?_
  refine x_if_le hx hb wV rfl (by omega) (tgt := 11) d_C_hasWitness_4 (by decide) (fun c1 => ?_) (fun c1 => ?_)
  · refine lv_iconst (v := (nI 0)) hx hb d_C_hasWitness_11 (by decide) ?_
    exact x_zret hx hb hr hlocks hS hP hD (Nat.le_of_ble_eq_true rfl) (Nat.le_of_ble_eq_true rfl) d_C_hasWitness_12 rfl (⟨rfl, Or.inr ⟨rfl, c1⟩⟩)
  · refine lv_iconst (v := (nI 1)) hx hb d_C_hasWitness_7 (by decide) ?_
    refine lv_goto (tgt := 12) hx hb d_C_hasWitness_8 (by decide) ?_
    exact x_zret hx hb hr hlocks hS hP hD (Nat.le_of_ble_eq_true rfl) (Nat.le_of_ble_eq_true rfl) d_C_hasWitness_12 rfl (⟨rfl, Or.inl ⟨rfl, c1⟩⟩)

set_option maxHeartbeats 4000000 in
set_option maxRecDepth 100000 in
theorem c_isVar (l : Launch) (G : xG) (A : Nat → Prop) (ws : va_W) (x : Int32) : Met l y_C_isVariableNumber (cw_C_isVariableNumber :: TW) { frames := 1, cells := 0, slots := 0, locals := 26 } (va_Pc [.int x] (x_P G A ws)) (qI G A (fun r w9 => ws = w9 ∧ ((r = nI 1 ∧ md 60 x) ∨ (r = nI 0 ∧ ¬ md 60 x)))) 0 0 A := by
  refine Met.ofW (cc := b_C_isVariableNumber) (maxL := 1) (ret := (some .boolean)) (by decide) rfl ?_
  intro p e s m args below meth c s₁ B hml hv
  obtain ⟨rfl, hE, hA, hP, hD⟩ := hv
  have hx := B.exec
  have hb := B.bytes
  have hr := B.returns
  have ht : ∀ w ∈ TW, w.before _ s = true := fun w h => atoms_spec (ws := cw_C_isVariableNumber :: TW) B.pre w (List.mem_cons_of_mem _ h)
  have hown : s.vm.findClass R_C = some m.cls := findClass_of_methodNamed B.named
  have hlocks := B.notSynchronized
  have hK := hE.1
  have hS : va_S A s.heap s.heap [] := va_S.rf
  have hl := lv_entry ([.int x]) (n := 1) (Nat.le_of_ble_eq_true rfl)
  rw [lg_entry_eq]
  generalize (lg_sl ([.int x]) ++ List.replicate (1 - (lg_sl ([.int x])).length) Slot.unset).toArray = ls at hl ⊢
  have hl : lv_has ls 1 [(0, .int x)] := hl
  refine lv_iload_n hx hb d_C_isVariableNumber_0 rfl (lv_at hl 0 rfl) ?_
  refine lv_if_lt (tgt := 14) hx hb d_C_isVariableNumber_1 (by decide) (fun c1 => ?_) (fun c1 => ?_)
  · refine lv_iconst (v := (nI 0)) hx hb d_C_isVariableNumber_14 (by decide) ?_
    exact x_zret hx hb hr hlocks hS hP hD (Nat.le_of_ble_eq_true rfl) (Nat.le_of_ble_eq_true rfl) d_C_isVariableNumber_15 rfl (⟨rfl, Or.inr ⟨rfl, md_neg (by decide) c1⟩⟩)
  obtain ⟨j, hj, rfl⟩ := nI_of c1
  refine lv_iload_n hx hb d_C_isVariableNumber_4 rfl (lv_at hl 0 rfl) ?_
  refine lv_bipush (v := (nI 60)) hx hb d_C_isVariableNumber_5 (by decide) ?_
  refine x_ge hx hb j 60 rfl rfl (by omega) (by omega) (tgt := 14) d_C_isVariableNumber_7 (by decide) (fun c1 => ?_) (fun c1 => ?_)
  · refine lv_iconst (v := (nI 0)) hx hb d_C_isVariableNumber_14 (by decide) ?_
    exact x_zret hx hb hr hlocks hS hP hD (Nat.le_of_ble_eq_true rfl) (Nat.le_of_ble_eq_true rfl) d_C_isVariableNumber_15 rfl (⟨rfl, Or.inr ⟨rfl, fun q => by rw [md_iff (by decide) hj] at q; omega⟩⟩)
  · refine lv_iconst (v := (nI 1)) hx hb d_C_isVariableNumber_10 (by decide) ?_
    refine lv_goto (tgt := 15) hx hb d_C_isVariableNumber_11 (by decide) ?_
    exact x_zret hx hb hr hlocks hS hP hD (Nat.le_of_ble_eq_true rfl) (Nat.le_of_ble_eq_true rfl) d_C_isVariableNumber_15 rfl (⟨rfl, Or.inl ⟨rfl, (md_iff (by decide) hj).mpr c1⟩⟩)

set_option maxHeartbeats 4000000 in
set_option maxRecDepth 100000 in
theorem c_holds (l : Launch) (G : xG) (A : Nat → Prop) (ws : va_W) (a wa : Nat) (x : KK) (w : Nat → Nat) (hc : isC G ws a x) (hw : isW G ws wa w) : Met l y_K_holdsFor (cw_K_holdsFor :: TW) { frames := 4, cells := 0, slots := 0, locals := 104 } (va_Pc [.ref a, .ref wa] (x_P G A ws)) (qI G A (fun r w9 => ws = w9 ∧ ((r = nI 1 ∧ hld x w) ∨ (r = nI 0 ∧ ¬ hld x w)))) 0 0 A := by
  refine Met.ofW (cc := b_K_holdsFor) (maxL := 2) (ret := (some .boolean)) (by decide) rfl ?_
  intro p e s m args below meth c s₁ B hml hv
  obtain ⟨rfl, hE, hA, hP, hD⟩ := hv
  have hx := B.exec
  have hb := B.bytes
  have hr := B.returns
  have ht : ∀ w ∈ TW, w.before _ s = true := fun w h => atoms_spec (ws := cw_K_holdsFor :: TW) B.pre w (List.mem_cons_of_mem _ h)
  have hown : s.vm.findClass R_K = some m.cls := findClass_of_methodNamed B.named
  have hlocks := B.notSynchronized
  have hK := hE.1
  have hS : va_S A s.heap s.heap [] := va_S.rf
  have hl := lv_entry ([.ref a, .ref wa]) (n := 2) (Nat.le_of_ble_eq_true rfl)
  rw [lg_entry_eq]
  generalize (lg_sl ([.ref a, .ref wa]) ++ List.replicate (2 - (lg_sl ([.ref a, .ref wa])).length) Slot.unset).toArray = ls at hl ⊢
  have hl : lv_has ls 2 [(0, .ref a), (1, .ref wa)] := hl
  obtain ⟨kK, xaK, yaK, zaK, c0K, s1K, s2K, s3K⟩ := id hc
  obtain ⟨kxK, jxK, cxK, fxK, pxK, qxK, nxK, oxK, exK, bxK⟩ := id s1K
  obtain ⟨kyK, jyK, cyK, fyK, pyK, qyK, nyK, oyK, eyK, byK⟩ := id s2K
  obtain ⟨kzK, jzK, czK, fzK, pzK, qzK, nzK, ozK, ezK, bzK⟩ := id s3K
  have v1 := vl_lt x.1 w
  have v2 := vl_lt x.2.1 w
  have v3 := vl_lt x.2.2 w
  have v4 : vl x.1 w * vl x.2.1 w ≤ 96 * 96 := Nat.mul_le_mul (by omega) (by omega)
  refine lv_aload_n hx hb d_K_holdsFor_0 rfl (lv_at hl 0 rfl) ?_
  refine va_get (D := xD G) (ci := 4) (C := R_K) (T := F_K) (N := 3) hx hb ht in_K hown hK hP kK c0K rfl 0 (by decide) (ht _ k_fl_K_7) (fun _ h9 => h9) rfl d_K_holdsFor_1 ?_
  refine lv_aload_n hx hb d_K_holdsFor_4 rfl (lv_at hl 1 rfl) ?_
  refine x_calli (va_runV (As := [.ref wa]) (rest := []) ⟨hx, hb, hml, hown, ht⟩ (c_S_value l G A ws xaK wa _ w s1K hw) (cwV 1 ht (TW_V k_ml_K_19 k_im_S_valueFor k_se_S_valueFor k_in_S k_code_S_valueFor) rfl rfl rfl hv_S_valueFor ⟨Nat.le_of_ble_eq_true rfl, Nat.le_of_ble_eq_true rfl⟩) ⟨x_blind, va_recv hK hP rfl pxK, x_pre hE hA hS hP hD⟩ rfl rfl hl.1 rfl (lv_room (Nat.le_of_ble_eq_true rfl)) d_K_holdsFor_5 ⟨Nat.le_of_ble_eq_true rfl, Nat.le_of_ble_eq_true rfl⟩) hS (fun r3 w2 H locs q1 hP hD hS => ?_)
  obtain ⟨rfl, rfl⟩ := q1
  refine lv_aload_n hx hb d_K_holdsFor_8 rfl (lv_at hl 0 rfl) ?_
  refine va_get (D := xD G) (ci := 4) (C := R_K) (T := F_K) (N := 3) hx hb ht in_K hown hK hP kK c0K rfl 1 (by decide) (ht _ k_fl_K_13) (fun _ h9 => h9) rfl d_K_holdsFor_9 ?_
  refine lv_aload_n hx hb d_K_holdsFor_12 rfl (lv_at hl 1 rfl) ?_
  refine x_calli (va_runV (As := [.ref wa]) (rest := [.int (nI (vl x.1 w))]) ⟨hx, hb, hml, hown, ht⟩ (c_S_value l G A ws yaK wa _ w s2K hw) (cwV 1 ht (TW_V k_ml_K_19 k_im_S_valueFor k_se_S_valueFor k_in_S k_code_S_valueFor) rfl rfl rfl hv_S_valueFor ⟨Nat.le_of_ble_eq_true rfl, Nat.le_of_ble_eq_true rfl⟩) ⟨x_blind, va_recv hK hP rfl pyK, x_pre hE hA hS hP hD⟩ rfl rfl hl.1 rfl (lv_room (Nat.le_of_ble_eq_true rfl)) d_K_holdsFor_13 ⟨Nat.le_of_ble_eq_true rfl, Nat.le_of_ble_eq_true rfl⟩) hS (fun r6 w5 H locs q4 hP hD hS => ?_)
  obtain ⟨rfl, rfl⟩ := q4
  refine lv_imul hx hb d_K_holdsFor_16 ?_
  refine x_top (nI ((vl x.1 w) * (vl x.2.1 w))) (pk_mul _ _) ?_
  refine x_calli (va_runSN (As := [.int (nI ((vl x.1 w) * (vl x.2.1 w)))]) (rest := []) (host := R_C) ⟨hx, hb, hml, hown, ht⟩ (c_remainder l G A ws _) ⟨va_cnB 1 ht (TW_good k_code_C_remainder) rfl rfl rfl (hE.2.2.2.2.2.2.2 _ k_mn_K_25) (ht _ k_in_C) hv_C_remainder.2 ⟨Nat.le_of_ble_eq_true rfl, Nat.le_of_ble_eq_true rfl⟩, ht _ k_st_C_remainder, trivial⟩ ⟨x_blind, x_pre hE hA hS hP hD⟩ rfl rfl hl.1 rfl (lv_room (Nat.le_of_ble_eq_true rfl)) d_K_holdsFor_17 ⟨Nat.le_of_ble_eq_true rfl, Nat.le_of_ble_eq_true rfl⟩) hS (fun r9 w8 H locs q7 hP hD hS => ?_)
  obtain ⟨rfl, rfl⟩ := q7
  refine x_top (nI (vl x.1 w * vl x.2.1 w % 97)) (by rw [rm_nat (by omega)]) ?_
  refine lv_aload_n hx hb d_K_holdsFor_20 rfl (lv_at hl 0 rfl) ?_
  refine va_get (D := xD G) (ci := 4) (C := R_K) (T := F_K) (N := 3) hx hb ht in_K hown hK hP kK c0K rfl 2 (by decide) (ht _ k_fl_K_16) (fun _ h9 => h9) rfl d_K_holdsFor_21 ?_
  refine lv_aload_n hx hb d_K_holdsFor_24 rfl (lv_at hl 1 rfl) ?_
  refine x_calli (va_runV (As := [.ref wa]) (rest := [.int (nI (vl x.1 w * vl x.2.1 w % 97))]) ⟨hx, hb, hml, hown, ht⟩ (c_S_value l G A ws zaK wa _ w s3K hw) (cwV 1 ht (TW_V k_ml_K_19 k_im_S_valueFor k_se_S_valueFor k_in_S k_code_S_valueFor) rfl rfl rfl hv_S_valueFor ⟨Nat.le_of_ble_eq_true rfl, Nat.le_of_ble_eq_true rfl⟩) ⟨x_blind, va_recv hK hP rfl pzK, x_pre hE hA hS hP hD⟩ rfl rfl hl.1 rfl (lv_room (Nat.le_of_ble_eq_true rfl)) d_K_holdsFor_25 ⟨Nat.le_of_ble_eq_true rfl, Nat.le_of_ble_eq_true rfl⟩) hS (fun r12 w11 H locs q10 hP hD hS => ?_)
  obtain ⟨rfl, rfl⟩ := q10
  refine x_ne hx hb (vl x.1 w * vl x.2.1 w % 97) (vl x.2.2 w) rfl rfl (by omega) (by omega) (tgt := 35) d_K_holdsFor_28 (by decide) (fun c13 => ?_) (fun c13 => ?_)
  · refine lv_iconst (v := (nI 0)) hx hb d_K_holdsFor_35 (by decide) ?_
    exact x_zret hx hb hr hlocks hS hP hD (Nat.le_of_ble_eq_true rfl) (Nat.le_of_ble_eq_true rfl) d_K_holdsFor_36 rfl (⟨rfl, Or.inr ⟨rfl, c13⟩⟩)
  · refine lv_iconst (v := (nI 1)) hx hb d_K_holdsFor_31 (by decide) ?_
    refine lv_goto (tgt := 36) hx hb d_K_holdsFor_32 (by decide) ?_
    exact x_zret hx hb hr hlocks hS hP hD (Nat.le_of_ble_eq_true rfl) (Nat.le_of_ble_eq_true rfl) d_K_holdsFor_36 rfl (⟨rfl, Or.inl ⟨rfl, c13⟩⟩)

set_option maxHeartbeats 4000000 in
set_option maxRecDepth 100000 in
theorem c_num (l : Launch) (G : xG) (A : Nat → Prop) (ws : va_W) (a wa : Nat) (x : VV) (w : Nat → Nat) (hv : isV G ws a x) (hw : isW G ws wa w) (hr5 : x.1 ≤ 5) (hg9 : x.2.2.2 < 97) : Met l y_V_numberFor (cw_V_numberFor :: TW) { frames := 4, cells := 0, slots := 0, locals := 104 } (va_Pc [.ref a, .ref wa] (x_P G A ws)) (qI G A (fun r w9 => ws = w9 ∧ ((∃ v, num x w = some v ∧ r = nI v ∧ v < 97) ∨ (num x w = none ∧ r = -1)))) 0 0 A := by
  refine Met.ofW (cc := b_V_numberFor) (maxL := 3) (ret := (some .int)) (by decide) rfl ?_
  intro p e s m args below meth c s₁ B hml hv
  obtain ⟨rfl, hE, hA, hP, hD⟩ := hv
  have hx := B.exec
  have hb := B.bytes
  have hr := B.returns
  have ht : ∀ w ∈ TW, w.before _ s = true := fun w h => atoms_spec (ws := cw_V_numberFor :: TW) B.pre w (List.mem_cons_of_mem _ h)
  have hown : s.vm.findClass R_V = some m.cls := findClass_of_methodNamed B.named
  have hlocks := B.notSynchronized
  have hK := hE.1
  have hS : va_S A s.heap s.heap [] := va_S.rf
  have hl := lv_entry ([.ref a, .ref wa]) (n := 3) (Nat.le_of_ble_eq_true rfl)
  rw [lg_entry_eq]
  generalize (lg_sl ([.ref a, .ref wa]) ++ List.replicate (3 - (lg_sl ([.ref a, .ref wa])).length) Slot.unset).toArray = ls at hl ⊢
  have hl : lv_has ls 3 [(0, .ref a), (1, .ref wa)] := hl
  obtain ⟨ru, lf, rg, gi⟩ := x
  obtain ⟨kv, la, ra, c0, s1, s2⟩ := id hv
  dsimp only at hr5 hg9 c0 s1 s2
  obtain ⟨kA, jA, cA, fA, pA, qA, nA, oA, eA, bA⟩ := id s1
  obtain ⟨kB, jB, cB, fB, pB, qB, nB, oB, eB, bB⟩ := id s2
  have v1 := vl_lt lf w
  have v2 := vl_lt rg w
  have v4 : vl lf w * vl rg w ≤ 96 * 96 := Nat.mul_le_mul (by omega) (by omega)
  refine lv_aload_n hx hb d_V_numberFor_0 rfl (lv_at hl 0 rfl) ?_
  refine va_get (D := xD G) (ci := 2) (C := R_V) (T := F_V) (N := 4) hx hb ht in_V hown hK hP kv c0 rfl 1 (by decide) (ht _ k_fl_V_15) (fun _ h9 => h9) rfl d_V_numberFor_1 ?_
  refine lv_aload_n hx hb d_V_numberFor_4 rfl (lv_at hl 1 rfl) ?_
  refine x_calli (va_runV (As := [.ref wa]) (rest := []) ⟨hx, hb, hml, hown, ht⟩ (c_S_value l G A ws la wa lf w s1 hw) (cwV 1 ht (TW_V k_ml_V_22 k_im_S_valueFor k_se_S_valueFor k_in_S k_code_S_valueFor) rfl rfl rfl hv_S_valueFor ⟨Nat.le_of_ble_eq_true rfl, Nat.le_of_ble_eq_true rfl⟩) ⟨x_blind, va_recv hK hP rfl pA, x_pre hE hA hS hP hD⟩ rfl rfl hl.1 rfl (lv_room (Nat.le_of_ble_eq_true rfl)) d_V_numberFor_5 ⟨Nat.le_of_ble_eq_true rfl, Nat.le_of_ble_eq_true rfl⟩) hS (fun r3 w2 H locs q1 hP hD hS => ?_)
  obtain ⟨rfl, rfl⟩ := q1
  refine lv_istore_n (lv' := [(2, .int (nI (vl lf w))), (0, .ref a), (1, .ref wa)]) hx hb d_V_numberFor_8 rfl hl (by decide) rfl (fun ls hl => ?_)
  refine lv_aload_n hx hb d_V_numberFor_9 rfl (lv_at hl 1 rfl) ?_
  refine va_get (D := xD G) (ci := 2) (C := R_V) (T := F_V) (N := 4) hx hb ht in_V hown hK hP kv c0 rfl 0 (by decide) (ht _ k_fl_V_9) (fun _ h9 => h9) rfl d_V_numberFor_10 ?_
  have hk9 : ru = 0 ∨ ru = 1 ∨ ru = 2 ∨ ru = 3 ∨ ru = 4 ∨ ru = 5 := by omega
  rcases hk9 with rfl | rfl | rfl | rfl | rfl | rfl
  · refine lv_tableIn (off := 35) (tgt := 48) hx hb d_V_numberFor_13 (by decide) (by decide) (by decide) (by decide) ?_
    refine lv_iconst (v := (nI 1)) hx hb d_V_numberFor_48 (by decide) ?_
    exact x_iret hx hb hr hlocks hS hP hD (Nat.le_of_ble_eq_true rfl) (Nat.le_of_ble_eq_true rfl) d_V_numberFor_49 (⟨rfl, Or.inl ⟨1, rfl, rfl, by decide⟩⟩)
  · refine lv_tableIn (off := 37) (tgt := 50) hx hb d_V_numberFor_13 (by decide) (by decide) (by decide) (by decide) ?_
    refine lv_aload_n hx hb d_V_numberFor_50 rfl (lv_at hl 1 rfl) ?_
    refine va_get (D := xD G) (ci := 2) (C := R_V) (T := F_V) (N := 4) hx hb ht in_V hown hK hP kv c0 rfl 3 (by decide) (ht _ k_fl_V_28) (fun _ h9 => h9) rfl d_V_numberFor_51 ?_
    exact x_iret hx hb hr hlocks hS hP hD (Nat.le_of_ble_eq_true rfl) (Nat.le_of_ble_eq_true rfl) d_V_numberFor_54 (⟨rfl, Or.inl ⟨gi, rfl, rfl, hg9⟩⟩)
  · refine lv_tableIn (off := 42) (tgt := 55) hx hb d_V_numberFor_13 (by decide) (by decide) (by decide) (by decide) ?_
    refine lv_iload_n hx hb d_V_numberFor_55 rfl (lv_at hl 0 rfl) ?_
    refine lv_aload_n hx hb d_V_numberFor_56 rfl (lv_at hl 1 rfl) ?_
    refine va_get (D := xD G) (ci := 2) (C := R_V) (T := F_V) (N := 4) hx hb ht in_V hown hK hP kv c0 rfl 2 (by decide) (ht _ k_fl_V_19) (fun _ h9 => h9) rfl d_V_numberFor_57 ?_
    refine lv_aload_n hx hb d_V_numberFor_60 rfl (lv_at hl 2 rfl) ?_
    refine x_calli (va_runV (As := [.ref wa]) (rest := [.int (nI (vl lf w))]) ⟨hx, hb, hml, hown, ht⟩ (c_S_value l G A ws ra wa rg w s2 hw) (cwV 1 ht (TW_V k_ml_V_22 k_im_S_valueFor k_se_S_valueFor k_in_S k_code_S_valueFor) rfl rfl rfl hv_S_valueFor ⟨Nat.le_of_ble_eq_true rfl, Nat.le_of_ble_eq_true rfl⟩) ⟨x_blind, va_recv hK hP rfl pB, x_pre hE hA hS hP hD⟩ rfl rfl hl.1 rfl (lv_room (Nat.le_of_ble_eq_true rfl)) d_V_numberFor_61 ⟨Nat.le_of_ble_eq_true rfl, Nat.le_of_ble_eq_true rfl⟩) hS (fun r6 w5 H locs q4 hP hD hS => ?_)
    obtain ⟨rfl, rfl⟩ := q4
    refine lv_imul hx hb d_V_numberFor_64 ?_
    refine x_top (nI ((vl lf w) * (vl rg w))) (pk_mul _ _) ?_
    refine x_calli (va_runSN (As := [.int (nI ((vl lf w) * (vl rg w)))]) (rest := []) (host := R_C) ⟨hx, hb, hml, hown, ht⟩ (c_remainder l G A ws _) ⟨va_cnB 1 ht (TW_good k_code_C_remainder) rfl rfl rfl (hE.2.2.2.2.2.2.2 _ k_mn_V_31) (ht _ k_in_C) hv_C_remainder.2 ⟨Nat.le_of_ble_eq_true rfl, Nat.le_of_ble_eq_true rfl⟩, ht _ k_st_C_remainder, trivial⟩ ⟨x_blind, x_pre hE hA hS hP hD⟩ rfl rfl hl.1 rfl (lv_room (Nat.le_of_ble_eq_true rfl)) d_V_numberFor_65 ⟨Nat.le_of_ble_eq_true rfl, Nat.le_of_ble_eq_true rfl⟩) hS (fun r9 w8 H locs q7 hP hD hS => ?_)
    obtain ⟨rfl, rfl⟩ := q7
    exact x_iret hx hb hr hlocks hS hP hD (Nat.le_of_ble_eq_true rfl) (Nat.le_of_ble_eq_true rfl) d_V_numberFor_68 (⟨rfl, Or.inl ⟨vl lf w * vl rg w % 97, rfl, by rw [rm_nat (by omega)], Nat.mod_lt _ (by decide)⟩⟩)
  · refine lv_tableIn (off := 56) (tgt := 69) hx hb d_V_numberFor_13 (by decide) (by decide) (by decide) (by decide) ?_
    refine lv_iload_n hx hb d_V_numberFor_69 rfl (lv_at hl 0 rfl) ?_
    refine x_if_ne hx hb (vl lf w) rfl (by omega) (tgt := 77) d_V_numberFor_70 (by decide) (fun c10 => ?_) (fun c10 => ?_)
    · refine lv_iload_n hx hb d_V_numberFor_77 rfl (lv_at hl 0 rfl) ?_
      refine x_calli (va_runSN (As := [.int (nI (vl lf w))]) (rest := []) (host := R_C) ⟨hx, hb, hml, hown, ht⟩ (c_inverse l G A ws (vl lf w) v1) ⟨va_cnB 1 ht (TW_good k_code_C_inverseOrZero) rfl rfl rfl (hE.2.2.2.2.2.2.2 _ k_mn_V_35) (ht _ k_in_C) hv_C_inverseOrZero.2 ⟨Nat.le_of_ble_eq_true rfl, Nat.le_of_ble_eq_true rfl⟩, ht _ k_st_C_inverseOrZero, trivial⟩ ⟨x_blind, x_pre hE hA hS hP hD⟩ rfl rfl hl.1 rfl (lv_room (Nat.le_of_ble_eq_true rfl)) d_V_numberFor_78 ⟨Nat.le_of_ble_eq_true rfl, Nat.le_of_ble_eq_true rfl⟩) hS (fun r13 w12 H locs q11 hP hD hS => ?_)
      obtain ⟨rfl, rfl⟩ := q11
      exact x_iret hx hb hr hlocks hS hP hD (Nat.le_of_ble_eq_true rfl) (Nat.le_of_ble_eq_true rfl) d_V_numberFor_81 (⟨rfl, Or.inl ⟨_, by simp [num, c10], rfl, inv97_lt _⟩⟩)
    · refine lv_iconst (v := (-1)) hx hb d_V_numberFor_73 (by decide) ?_
      refine lv_goto (tgt := 81) hx hb d_V_numberFor_74 (by decide) ?_
      exact x_iret hx hb hr hlocks hS hP hD (Nat.le_of_ble_eq_true rfl) (Nat.le_of_ble_eq_true rfl) d_V_numberFor_81 (⟨rfl, Or.inr ⟨by simp [num, c10], rfl⟩⟩)
  · refine lv_tableIn (off := 69) (tgt := 82) hx hb d_V_numberFor_13 (by decide) (by decide) (by decide) (by decide) ?_
    refine lv_iload_n hx hb d_V_numberFor_82 rfl (lv_at hl 0 rfl) ?_
    refine x_calli (va_runSN (As := [.int (nI (vl lf w))]) (rest := []) (host := R_C) ⟨hx, hb, hml, hown, ht⟩ (c_inverse l G A ws (vl lf w) v1) ⟨va_cnB 1 ht (TW_good k_code_C_inverseOrZero) rfl rfl rfl (hE.2.2.2.2.2.2.2 _ k_mn_V_35) (ht _ k_in_C) hv_C_inverseOrZero.2 ⟨Nat.le_of_ble_eq_true rfl, Nat.le_of_ble_eq_true rfl⟩, ht _ k_st_C_inverseOrZero, trivial⟩ ⟨x_blind, x_pre hE hA hS hP hD⟩ rfl rfl hl.1 rfl (lv_room (Nat.le_of_ble_eq_true rfl)) d_V_numberFor_83 ⟨Nat.le_of_ble_eq_true rfl, Nat.le_of_ble_eq_true rfl⟩) hS (fun r16 w15 H locs q14 hP hD hS => ?_)
    obtain ⟨rfl, rfl⟩ := q14
    exact x_iret hx hb hr hlocks hS hP hD (Nat.le_of_ble_eq_true rfl) (Nat.le_of_ble_eq_true rfl) d_V_numberFor_86 (⟨rfl, Or.inl ⟨_, rfl, rfl, inv97_lt _⟩⟩)
  · refine lv_tableOut (tgt := 87) hx hb d_V_numberFor_13 (by decide) (by decide) ?_
    refine lv_iload_n hx hb d_V_numberFor_87 rfl (lv_at hl 0 rfl) ?_
    refine x_if_ne hx hb (vl lf w) rfl (by omega) (tgt := 95) d_V_numberFor_88 (by decide) (fun c17 => ?_) (fun c17 => ?_)
    · refine lv_iconst (v := (nI 0)) hx hb d_V_numberFor_95 (by decide) ?_
      exact x_iret hx hb hr hlocks hS hP hD (Nat.le_of_ble_eq_true rfl) (Nat.le_of_ble_eq_true rfl) d_V_numberFor_96 (⟨rfl, Or.inl ⟨0, by simp [num, c17], rfl, by decide⟩⟩)
    · refine lv_iconst (v := (nI 1)) hx hb d_V_numberFor_91 (by decide) ?_
      refine lv_goto (tgt := 96) hx hb d_V_numberFor_92 (by decide) ?_
      exact x_iret hx hb hr hlocks hS hP hD (Nat.le_of_ble_eq_true rfl) (Nat.le_of_ble_eq_true rfl) d_V_numberFor_96 (⟨rfl, Or.inl ⟨1, by simp [num, c17], rfl, by decide⟩⟩)

set_option maxHeartbeats 4000000 in
set_option maxRecDepth 100000 in
theorem c_sumAt (l : Launch) (G : xG) (A : Nat → Prop) (ws : va_W) (a i : Nat) (x : KK) (hc : isC G ws a x) (hi : i ≤ 2) : Met l y_K_sumAt (cw_K_sumAt :: TW) { frames := 1, cells := 0, slots := 0, locals := 26 } (va_Pc [.ref a, .int (nI i)] (x_P G A ws)) (qR G A (fun r w9 => ws = w9 ∧ isS G ws r (if i = 0 then x.1 else if i = 1 then x.2.1 else x.2.2))) 0 0 A := by
  refine Met.ofW (cc := b_K_sumAt) (maxL := 2) (ret := (some (.object "ConstraintCompiler$Sum"))) (by decide) rfl ?_
  intro p e s m args below meth c s₁ B hml hv
  obtain ⟨rfl, hE, hA, hP, hD⟩ := hv
  have hx := B.exec
  have hb := B.bytes
  have hr := B.returns
  have ht : ∀ w ∈ TW, w.before _ s = true := fun w h => atoms_spec (ws := cw_K_sumAt :: TW) B.pre w (List.mem_cons_of_mem _ h)
  have hown : s.vm.findClass R_K = some m.cls := findClass_of_methodNamed B.named
  have hlocks := B.notSynchronized
  have hK := hE.1
  have hS : va_S A s.heap s.heap [] := va_S.rf
  have hl := lv_entry ([.ref a, .int (nI i)]) (n := 2) (Nat.le_of_ble_eq_true rfl)
  rw [lg_entry_eq]
  generalize (lg_sl ([.ref a, .int (nI i)]) ++ List.replicate (2 - (lg_sl ([.ref a, .int (nI i)])).length) Slot.unset).toArray = ls at hl ⊢
  have hl : lv_has ls 2 [(0, .ref a), (1, .int (nI i))] := hl
  obtain ⟨kK, xaK, yaK, zaK, c0K, s1K, s2K, s3K⟩ := id hc
  obtain ⟨kxK, jxK, cxK, fxK, pxK, qxK, nxK, oxK, exK, bxK⟩ := id s1K
  obtain ⟨kyK, jyK, cyK, fyK, pyK, qyK, nyK, oyK, eyK, byK⟩ := id s2K
  obtain ⟨kzK, jzK, czK, fzK, pzK, qzK, nzK, ozK, ezK, bzK⟩ := id s3K
  refine lv_iload_n hx hb d_K_sumAt_0 rfl (lv_at hl 1 rfl) ?_
  have hk9 : i = 0 ∨ i = 1 ∨ i = 2 := by omega
  rcases hk9 with rfl | rfl | rfl
  · refine lv_lookup (off := 27) (tgt := 28) hx hb d_K_sumAt_1 (by decide) (by decide) (by decide) ?_
    refine lv_aload_n hx hb d_K_sumAt_28 rfl (lv_at hl 0 rfl) ?_
    refine va_get (D := xD G) (ci := 4) (C := R_K) (T := F_K) (N := 3) hx hb ht in_K hown hK hP kK c0K rfl 0 (by decide) (ht _ k_fl_K_7) (fun _ h9 => h9) rfl d_K_sumAt_29 ?_
    exact x_aret hx hb hr (Or.inl ⟨_, rfl⟩) hlocks hS hP hD (Nat.le_of_ble_eq_true rfl) (Nat.le_of_ble_eq_true rfl) d_K_sumAt_32 (⟨rfl, s1K⟩)
  · refine lv_lookup (off := 32) (tgt := 33) hx hb d_K_sumAt_1 (by decide) (by decide) (by decide) ?_
    refine lv_aload_n hx hb d_K_sumAt_33 rfl (lv_at hl 0 rfl) ?_
    refine va_get (D := xD G) (ci := 4) (C := R_K) (T := F_K) (N := 3) hx hb ht in_K hown hK hP kK c0K rfl 1 (by decide) (ht _ k_fl_K_13) (fun _ h9 => h9) rfl d_K_sumAt_34 ?_
    exact x_aret hx hb hr (Or.inl ⟨_, rfl⟩) hlocks hS hP hD (Nat.le_of_ble_eq_true rfl) (Nat.le_of_ble_eq_true rfl) d_K_sumAt_37 (⟨rfl, s2K⟩)
  · refine lv_lookup (off := 37) (tgt := 38) hx hb d_K_sumAt_1 (by decide) (by decide) (by decide) ?_
    refine lv_aload_n hx hb d_K_sumAt_38 rfl (lv_at hl 0 rfl) ?_
    refine va_get (D := xD G) (ci := 4) (C := R_K) (T := F_K) (N := 3) hx hb ht in_K hown hK hP kK c0K rfl 2 (by decide) (ht _ k_fl_K_16) (fun _ h9 => h9) rfl d_K_sumAt_39 ?_
    exact x_aret hx hb hr (Or.inl ⟨_, rfl⟩) hlocks hS hP hD (Nat.le_of_ble_eq_true rfl) (Nat.le_of_ble_eq_true rfl) d_K_sumAt_42 (⟨rfl, s3K⟩)

set_option maxHeartbeats 4000000 in
set_option maxRecDepth 100000 in
theorem c_hasVar (l : Launch) (G : xG) (A : Nat → Prop) (ws : va_W) (a j : Nat) (x : KK) (hc : isC G ws a x) (hj : j < 60) : Met l y_K_hasVariable (cw_K_hasVariable :: TW) { frames := 1, cells := 0, slots := 0, locals := 26 } (va_Pc [.ref a, .int (nI j)] (x_P G A ws)) (qI G A (fun r w9 => ws = w9 ∧ ((r = nI 1 ∧ (x.1 j ≠ 0 ∨ x.2.1 j ≠ 0 ∨ x.2.2 j ≠ 0)) ∨ (r = nI 0 ∧ ¬ (x.1 j ≠ 0 ∨ x.2.1 j ≠ 0 ∨ x.2.2 j ≠ 0))))) 0 0 A := by
  refine Met.ofW (cc := b_K_hasVariable) (maxL := 2) (ret := (some .boolean)) (by decide) rfl ?_
  intro p e s m args below meth c s₁ B hml hv
  obtain ⟨rfl, hE, hA, hP, hD⟩ := hv
  have hx := B.exec
  have hb := B.bytes
  have hr := B.returns
  have ht : ∀ w ∈ TW, w.before _ s = true := fun w h => atoms_spec (ws := cw_K_hasVariable :: TW) B.pre w (List.mem_cons_of_mem _ h)
  have hown : s.vm.findClass R_K = some m.cls := findClass_of_methodNamed B.named
  have hlocks := B.notSynchronized
  have hK := hE.1
  have hS : va_S A s.heap s.heap [] := va_S.rf
  have hl := lv_entry ([.ref a, .int (nI j)]) (n := 2) (Nat.le_of_ble_eq_true rfl)
  rw [lg_entry_eq]
  generalize (lg_sl ([.ref a, .int (nI j)]) ++ List.replicate (2 - (lg_sl ([.ref a, .int (nI j)])).length) Slot.unset).toArray = ls at hl ⊢
  have hl : lv_has ls 2 [(0, .ref a), (1, .int (nI j))] := hl
  obtain ⟨kK, xaK, yaK, zaK, c0K, s1K, s2K, s3K⟩ := id hc
  obtain ⟨kxK, jxK, cxK, fxK, pxK, qxK, nxK, oxK, exK, bxK⟩ := id s1K
  obtain ⟨kyK, jyK, cyK, fyK, pyK, qyK, nyK, oyK, eyK, byK⟩ := id s2K
  obtain ⟨kzK, jzK, czK, fzK, pzK, qzK, nzK, ozK, ezK, bzK⟩ := id s3K
  have wxK := bxK j hj
  have wyK := byK j hj
  have wzK := bzK j hj
  refine lv_aload_n hx hb d_K_hasVariable_0 rfl (lv_at hl 0 rfl) ?_
  refine va_get (D := xD G) (ci := 4) (C := R_K) (T := F_K) (N := 3) hx hb ht in_K hown hK hP kK c0K rfl 0 (by decide) (ht _ k_fl_K_7) (fun _ h9 => h9) rfl d_K_hasVariable_1 ?_
  refine va_get (D := xD G) (ci := 1) (C := R_S) (T := F_S) (N := 1) hx hb ht in_S hown hK hP kxK pxK rfl 0 (by decide) (ht _ k_fl_K_31) (fun _ h9 => h9) rfl d_K_hasVariable_4 ?_
  refine lv_iload_n hx hb d_K_hasVariable_7 rfl (lv_at hl 1 rfl) ?_
  refine x_iald hx hb hK hP qxK j rfl (by omega) (by omega) d_K_hasVariable_8 ?_
  refine x_top (nI (x.1 j)) (exK j hj) ?_
  refine x_if_ne hx hb (x.1 j) rfl (by omega) (tgt := 36) d_K_hasVariable_9 (by decide) (fun c1 => ?_) (fun c1 => ?_)
  · refine lv_iconst (v := (nI 1)) hx hb d_K_hasVariable_36 (by decide) ?_
    refine lv_goto (tgt := 41) hx hb d_K_hasVariable_37 (by decide) ?_
    exact x_zret hx hb hr hlocks hS hP hD (Nat.le_of_ble_eq_true rfl) (Nat.le_of_ble_eq_true rfl) d_K_hasVariable_41 rfl (⟨rfl, Or.inl ⟨rfl, Or.inl c1⟩⟩)
  · refine lv_aload_n hx hb d_K_hasVariable_12 rfl (lv_at hl 0 rfl) ?_
    refine va_get (D := xD G) (ci := 4) (C := R_K) (T := F_K) (N := 3) hx hb ht in_K hown hK hP kK c0K rfl 1 (by decide) (ht _ k_fl_K_13) (fun _ h9 => h9) rfl d_K_hasVariable_13 ?_
    refine va_get (D := xD G) (ci := 1) (C := R_S) (T := F_S) (N := 1) hx hb ht in_S hown hK hP kyK pyK rfl 0 (by decide) (ht _ k_fl_K_31) (fun _ h9 => h9) rfl d_K_hasVariable_16 ?_
    refine lv_iload_n hx hb d_K_hasVariable_19 rfl (lv_at hl 1 rfl) ?_
    refine x_iald hx hb hK hP qyK j rfl (by omega) (by omega) d_K_hasVariable_20 ?_
    refine x_top (nI (x.2.1 j)) (eyK j hj) ?_
    refine x_if_ne hx hb (x.2.1 j) rfl (by omega) (tgt := 36) d_K_hasVariable_21 (by decide) (fun c2 => ?_) (fun c2 => ?_)
    · refine lv_iconst (v := (nI 1)) hx hb d_K_hasVariable_36 (by decide) ?_
      refine lv_goto (tgt := 41) hx hb d_K_hasVariable_37 (by decide) ?_
      exact x_zret hx hb hr hlocks hS hP hD (Nat.le_of_ble_eq_true rfl) (Nat.le_of_ble_eq_true rfl) d_K_hasVariable_41 rfl (⟨rfl, Or.inl ⟨rfl, Or.inr (Or.inl c2)⟩⟩)
    · refine lv_aload_n hx hb d_K_hasVariable_24 rfl (lv_at hl 0 rfl) ?_
      refine va_get (D := xD G) (ci := 4) (C := R_K) (T := F_K) (N := 3) hx hb ht in_K hown hK hP kK c0K rfl 2 (by decide) (ht _ k_fl_K_16) (fun _ h9 => h9) rfl d_K_hasVariable_25 ?_
      refine va_get (D := xD G) (ci := 1) (C := R_S) (T := F_S) (N := 1) hx hb ht in_S hown hK hP kzK pzK rfl 0 (by decide) (ht _ k_fl_K_31) (fun _ h9 => h9) rfl d_K_hasVariable_28 ?_
      refine lv_iload_n hx hb d_K_hasVariable_31 rfl (lv_at hl 1 rfl) ?_
      refine x_iald hx hb hK hP qzK j rfl (by omega) (by omega) d_K_hasVariable_32 ?_
      refine x_top (nI (x.2.2 j)) (ezK j hj) ?_
      refine x_if_eq hx hb (x.2.2 j) rfl (by omega) (tgt := 40) d_K_hasVariable_33 (by decide) (fun c3 => ?_) (fun c3 => ?_)
      · refine lv_iconst (v := (nI 0)) hx hb d_K_hasVariable_40 (by decide) ?_
        exact x_zret hx hb hr hlocks hS hP hD (Nat.le_of_ble_eq_true rfl) (Nat.le_of_ble_eq_true rfl) d_K_hasVariable_41 rfl (⟨rfl, Or.inr ⟨rfl, by omega⟩⟩)
      · refine lv_iconst (v := (nI 1)) hx hb d_K_hasVariable_36 (by decide) ?_
        refine lv_goto (tgt := 41) hx hb d_K_hasVariable_37 (by decide) ?_
        exact x_zret hx hb hr hlocks hS hP hD (Nat.le_of_ble_eq_true rfl) (Nat.le_of_ble_eq_true rfl) d_K_hasVariable_41 rfl (⟨rfl, Or.inl ⟨rfl, Or.inr (Or.inr c3)⟩⟩)
end
section
theorem nI_m1 {v : Nat} (h : v < 2 ^ 31) : nI v ≠ -1 := fun e => by
  have h1 := congrArg Int32.toInt e
  rw [nI_toInt h] at h1
  have h2 : (-1 : Int32).toInt = -1 := by decide
  omega

set_option maxHeartbeats 4000000 in
set_option maxRecDepth 100000 in
theorem c_broken (l : Launch) (G : xG) (A : Nat → Prop) (ws : va_W) (o z u lv le lk : Nat) (V : List VV) (E : List EE) (K : List KK) (inp : Nat) (w d : Nat → Nat) (wV wC : Nat) (hR : CCs G ws o z u lv le lk V E K inp w d wV wC) (bK : K.length ≤ 80) (bC : wC ≤ K.length) : Met l y_C_howManyBroken (cw_C_howManyBroken :: TW) { frames := 5, cells := 0, slots := 0, locals := 130 } (va_Pc [.ref o] (x_P G A ws)) (qI G A (fun r w9 => ws = w9 ∧ r = nI (brk K w wC))) 0 0 A := by
  refine Met.ofW (cc := b_C_howManyBroken) (maxL := 3) (ret := (some .int)) (by decide) rfl ?_
  intro p e s m args below meth c s₁ B hml hv
  obtain ⟨rfl, hE, hA, hP, hD⟩ := hv
  have hx := B.exec
  have hb := B.bytes
  have hr := B.returns
  have ht : ∀ w ∈ TW, w.before _ s = true := fun w h => atoms_spec (ws := cw_C_howManyBroken :: TW) B.pre w (List.mem_cons_of_mem _ h)
  have hown : s.vm.findClass R_C = some m.cls := findClass_of_methodNamed B.named
  have hlocks := B.notSynchronized
  have hK := hE.1
  have hS : va_S A s.heap s.heap [] := va_S.rf
  have hl := lv_entry ([.ref o]) (n := 3) (Nat.le_of_ble_eq_true rfl)
  rw [lg_entry_eq]
  generalize (lg_sl ([.ref o]) ++ List.replicate (3 - (lg_sl ([.ref o])).length) Slot.unset).toArray = ls at hl ⊢
  have hl : lv_has ls 3 [(0, .ref o)] := hl
  obtain ⟨wa, da, kV, kE, kK, gV, gE, gK, hX⟩ := id hR
  obtain ⟨x1, x2, x3, x4, x5, x6, x7, x8, x9, x10, x11, x12, x13⟩ := id hX
  obtain ⟨mo_v, ae_v, li_v, -⟩ := id x4
  obtain ⟨mo_e, ae_e, li_e, -⟩ := id x5
  obtain ⟨mo_k, ae_k, li_k, -⟩ := id x6
  obtain ⟨kw, kd, hw, hd, y0, y1, y2, y3, y4, y5, y6⟩ := id x12
  have iw : isW G ws wa w := ⟨kw, hw, y1, y3, y4⟩
  refine lv_iconst (v := (nI 0)) hx hb d_C_howManyBroken_0 (by decide) ?_
  refine lv_istore_n (lv' := [(1, .int (nI 0)), (0, .ref o)]) hx hb d_C_howManyBroken_1 rfl hl (by decide) rfl (fun ls hl => ?_)
  refine lv_iconst (v := (nI 0)) hx hb d_C_howManyBroken_2 (by decide) ?_
  refine lv_istore_n (lv' := [(2, .int (nI 0)), (1, .int (nI 0)), (0, .ref o)]) hx hb d_C_howManyBroken_3 rfl hl (by decide) rfl (fun ls hl => ?_)
  have loop : ∀ (n i : Nat), i + n = wC → ∀ (H : Heap) (locs : List Loc) (ls : Array Slot), (va_P (xD G) CL ws H) → (va_S A s.heap H locs) → lv_has ls 3 [(2, .int (nI i)), (1, .int (nI (brk K w i))), (0, .ref o)] → W p l e (headSpec (cw_C_howManyBroken :: TW) { frames := 5, cells := 0, slots := 0, locals := 130 }).room s m ([.ref o] : List Value).toArray below meth c H locs 0 0 (MQ below (qI G A (fun r w9 => ws = w9 ∧ r = nI (brk K w wC))) ([.ref o] : List Value).toArray s 0 0 A) (F0 m 4 ls []) := by
    intro n
    induction n with
    | zero =>
      intro i hi H locs ls hP hS hl
      refine lv_iload_n hx hb d_C_howManyBroken_4 rfl (lv_at hl 0 rfl) ?_
      refine lv_aload_n hx hb d_C_howManyBroken_5 rfl (lv_at hl 2 rfl) ?_
      refine va_get (D := xD G) (ci := 0) (C := R_C) (T := F_C) (N := 10) hx hb ht in_C hown hK hP 0 x1 rfl 9 (by decide) (ht _ k_fl_C_135) (fun _ h9 => h9) rfl d_C_howManyBroken_6 ?_
      refine x_ge hx hb i wC rfl rfl (by omega) (by omega) (tgt := 42) d_C_howManyBroken_9 (by decide) (fun c1 => ?_) (fun c1 => ?_)
      · have i0 : i = wC := by omega
        refine lv_iload_n hx hb d_C_howManyBroken_42 rfl (lv_at hl 1 rfl) ?_
        exact x_iret hx hb hr hlocks hS hP hD (Nat.le_of_ble_eq_true rfl) (Nat.le_of_ble_eq_true rfl) d_C_howManyBroken_43 (⟨rfl, by rw [i0]⟩)
      · exact False.elim (by omega)
    | succ n ih =>
      intro i hi H locs ls hP hS hl
      refine lv_iload_n hx hb d_C_howManyBroken_4 rfl (lv_at hl 0 rfl) ?_
      refine lv_aload_n hx hb d_C_howManyBroken_5 rfl (lv_at hl 2 rfl) ?_
      refine va_get (D := xD G) (ci := 0) (C := R_C) (T := F_C) (N := 10) hx hb ht in_C hown hK hP 0 x1 rfl 9 (by decide) (ht _ k_fl_C_135) (fun _ h9 => h9) rfl d_C_howManyBroken_6 ?_
      refine x_ge hx hb i wC rfl rfl (by omega) (by omega) (tgt := 42) d_C_howManyBroken_9 (by decide) (fun c2 => ?_) (fun c2 => ?_)
      · exact False.elim (by omega)
      · obtain ⟨y, hy⟩ := V_get (show i < K.length by omega)
        have hi9 : i < K.length := by omega
        have bl := brk_le K w i
        refine lv_aload_n hx hb d_C_howManyBroken_12 rfl (lv_at hl 2 rfl) ?_
        refine va_get (D := xD G) (ci := 0) (C := R_C) (T := F_C) (N := 10) hx hb ht in_C hown hK hP 0 x1 rfl 4 (by decide) (ht _ k_fl_C_33) (fun _ h9 => h9) rfl d_C_howManyBroken_13 ?_
        refine lv_iload_n hx hb d_C_howManyBroken_16 rfl (lv_at hl 0 rfl) ?_
        refine x_callr (va_runV (As := [.int (nI i)]) (rest := []) ⟨hx, hb, hml, hown, ht⟩ (c_A_get l G A ws 7 kK lk K.length i gK x6 hi9 (by omega)) (cwV 1 ht (TW_V k_ml_C_104 k_im_A_get k_se_A_get k_in_A k_code_A_get) rfl rfl rfl hv_A_get ⟨Nat.le_of_ble_eq_true rfl, Nat.le_of_ble_eq_true rfl⟩) ⟨x_blind, va_recv hK hP rfl li_k, x_pre hE hA hS hP hD⟩ rfl rfl hl.1 rfl (lv_room (Nat.le_of_ble_eq_true rfl)) d_C_howManyBroken_17 ⟨Nat.le_of_ble_eq_true rfl, Nat.le_of_ble_eq_true rfl⟩) hS (fun r5 w4 H locs q3 hP hD hS => ?_)
        obtain ⟨rfl, rfl⟩ := q3
        have ic := x9 i y hy
        obtain ⟨k9, xa9, ya9, za9, c9, -⟩ := id ic
        refine va_castY hx hb hown (ht _ k_cl_C_151) (hE.2.2.2.2.2.2.2 _ k_ca_K_K) (va_recv hK hP rfl c9) d_C_howManyBroken_20 ?_
        refine lv_aload_n hx hb d_C_howManyBroken_23 rfl (lv_at hl 2 rfl) ?_
        refine va_get (D := xD G) (ci := 0) (C := R_C) (T := F_C) (N := 10) hx hb ht in_C hown hK hP 0 x1 rfl 6 (by decide) (ht _ k_fl_C_36) (fun _ h9 => h9) rfl d_C_howManyBroken_24 ?_
        refine x_calli (va_runV (As := [.ref wa]) (rest := []) ⟨hx, hb, hml, hown, ht⟩ (c_holds l G A ws (gK i) wa y w ic iw) (cwV 1 ht (TW_V k_ml_C_153 k_im_K_holdsFor k_se_K_holdsFor k_in_K k_code_K_holdsFor) rfl rfl rfl hv_K_holdsFor ⟨Nat.le_of_ble_eq_true rfl, Nat.le_of_ble_eq_true rfl⟩) ⟨x_blind, va_recv hK hP rfl c9, x_pre hE hA hS hP hD⟩ rfl rfl hl.1 rfl (lv_room (Nat.le_of_ble_eq_true rfl)) d_C_howManyBroken_27 ⟨Nat.le_of_ble_eq_true rfl, Nat.le_of_ble_eq_true rfl⟩) hS (fun r8 w7 H locs q6 hP hD hS => ?_)
        obtain ⟨rfl, ⟨rfl, hq⟩ | ⟨rfl, hq⟩⟩ := q6
        · refine x_if_ne hx hb 1 rfl (by omega) (tgt := 36) d_C_howManyBroken_30 (by decide) (fun c9 => ?_) (fun c9 => ?_)
          · refine lv_iinc (v := nI (i + 1)) (lv' := [(2, .int (nI (i + 1))), (1, .int (nI (brk K w i))), (0, .ref o)]) hx hb d_C_howManyBroken_36 hl (k := 0) rfl (n_inc _) (by decide) rfl (fun ls hl => ?_)
            refine lv_goto (tgt := 4) hx hb d_C_howManyBroken_39 (by decide) ?_
            have e9 : brk K w (i + 1) = brk K w i + 0 := by show brk K w i + _ = _; rw [kAt_of hy, if_pos hq]
            exact ih (i + 1) (by omega) H locs ls hP hS (by rw [e9]; exact (lv_sub hl [0, 1, 2] rfl))
          · exact False.elim (by omega)
        · refine x_if_ne hx hb 0 rfl (by omega) (tgt := 36) d_C_howManyBroken_30 (by decide) (fun c10 => ?_) (fun c10 => ?_)
          · exact False.elim (by omega)
          · refine lv_iinc (v := nI (brk K w i + 1)) (lv' := [(1, .int (nI (brk K w i + 1))), (2, .int (nI i)), (0, .ref o)]) hx hb d_C_howManyBroken_33 hl (k := 1) rfl (n_inc _) (by decide) rfl (fun ls hl => ?_)
            refine lv_iinc (v := nI (i + 1)) (lv' := [(2, .int (nI (i + 1))), (1, .int (nI (brk K w i + 1))), (0, .ref o)]) hx hb d_C_howManyBroken_36 hl (k := 1) rfl (n_inc _) (by decide) rfl (fun ls hl => ?_)
            refine lv_goto (tgt := 4) hx hb d_C_howManyBroken_39 (by decide) ?_
            have e9 : brk K w (i + 1) = brk K w i + 1 := by show brk K w i + _ = _; rw [kAt_of hy, if_neg hq]
            exact ih (i + 1) (by omega) H locs ls hP hS (by rw [e9]; exact (lv_sub hl [0, 1, 2] rfl))
  exact loop wC 0 (by omega) s.heap [] ls hP hS hl

set_option maxHeartbeats 4000000 in
set_option maxRecDepth 100000 in
theorem c_fill (l : Launch) (G : xG) (A : Nat → Prop) (ws : va_W) (o z u lv le lk : Nat) (V : List VV) (E : List EE) (K : List KK) (inp : Nat) (w d : Nat → Nat) (wV wC : Nat) (hR : CCs G ws o z u lv le lk V E K inp w d wV wC) (bV : V.length ≤ 60) (bR : ∀ (i : Nat) (x : VV), V[i]? = some x → x.1 ≤ 5 ∧ x.2.2.2 < 97) : Met l y_C_fillDraft (cw_C_fillDraft :: TW) { frames := 5, cells := 0, slots := 0, locals := 130 } (va_Pc [.ref o] (x_P G A ws)) (qI G A (fun r w9 => ∃ d' : Nat → Nat, CCs G w9 o z u lv le lk V E K inp w d' wV wC ∧ kp ws w9 ∧ ((r = nI 1 ∧ fil V V.length 0 d = (true, d')) ∨ (r = nI 0 ∧ fil V V.length 0 d = (false, d'))))) 0 0 A := by
  refine Met.ofW (cc := b_C_fillDraft) (maxL := 3) (ret := (some .boolean)) (by decide) rfl ?_
  intro p e s m args below meth c s₁ B hml hv
  obtain ⟨rfl, hE, hA, hP, hD⟩ := hv
  have hx := B.exec
  have hb := B.bytes
  have hr := B.returns
  have ht : ∀ w ∈ TW, w.before _ s = true := fun w h => atoms_spec (ws := cw_C_fillDraft :: TW) B.pre w (List.mem_cons_of_mem _ h)
  have hown : s.vm.findClass R_C = some m.cls := findClass_of_methodNamed B.named
  have hlocks := B.notSynchronized
  have hK := hE.1
  have hS : va_S A s.heap s.heap [] := va_S.rf
  have hl := lv_entry ([.ref o]) (n := 3) (Nat.le_of_ble_eq_true rfl)
  rw [lg_entry_eq]
  generalize (lg_sl ([.ref o]) ++ List.replicate (3 - (lg_sl ([.ref o])).length) Slot.unset).toArray = ls at hl ⊢
  have hl : lv_has ls 3 [(0, .ref o)] := hl
  refine lv_iconst (v := (nI 0)) hx hb d_C_fillDraft_0 (by decide) ?_
  refine lv_istore_n (lv' := [(1, .int (nI 0)), (0, .ref o)]) hx hb d_C_fillDraft_1 rfl hl (by decide) rfl (fun ls hl => ?_)
  have loop : ∀ (n i : Nat), i + n = V.length → ∀ (d9 : Nat → Nat) (w9 : va_W) (H : Heap) (locs : List Loc) (ls : Array Slot), fil V n i d9 = fil V V.length 0 d → CCs G w9 o z u lv le lk V E K inp w d9 wV wC → kp ws w9 → va_P (xD G) CL w9 H → va_D A w9 → va_S A s.heap H locs → lv_has ls 3 [(1, .int (nI i)), (0, .ref o)] → W p l e (headSpec (cw_C_fillDraft :: TW) { frames := 5, cells := 0, slots := 0, locals := 130 }).room s m ([.ref o] : List Value).toArray below meth c H locs 0 0 (MQ below (qI G A (fun r w9 => ∃ d' : Nat → Nat, CCs G w9 o z u lv le lk V E K inp w d' wV wC ∧ kp ws w9 ∧ ((r = nI 1 ∧ fil V V.length 0 d = (true, d')) ∨ (r = nI 0 ∧ fil V V.length 0 d = (false, d'))))) ([.ref o] : List Value).toArray s 0 0 A) (F0 m 2 ls []) := by
    intro n
    induction n with
    | zero =>
      intro i hi d9 w9 H locs ls he hR9 kk hP hD hS hl
      obtain ⟨wa, da, kV, kE, kK, gV, gE, gK, hX⟩ := id hR9
      obtain ⟨x1, x2, x3, x4, x5, x6, x7, x8, x9, x10, x11, x12, x13⟩ := id hX
      obtain ⟨mo_v, ae_v, li_v, -⟩ := id x4
      obtain ⟨mo_e, ae_e, li_e, -⟩ := id x5
      obtain ⟨mo_k, ae_k, li_k, -⟩ := id x6
      obtain ⟨kw, kd, hw, hd, y0, y1, y2, y3, y4, y5, y6⟩ := id x12
      refine lv_iload_n hx hb d_C_fillDraft_2 rfl (lv_at hl 0 rfl) ?_
      refine lv_aload_n hx hb d_C_fillDraft_3 rfl (lv_at hl 1 rfl) ?_
      refine va_get (D := xD G) (ci := 0) (C := R_C) (T := F_C) (N := 10) hx hb ht in_C hown hK hP 0 x1 rfl 2 (by decide) (ht _ k_fl_C_26) (fun _ h9 => h9) rfl d_C_fillDraft_4 ?_
      refine x_calli (va_runV (As := []) (rest := [.int (nI i)]) ⟨hx, hb, hml, hown, ht⟩ (c_A_size l G A w9 5 kV lv V.length gV x4) (cwV 0 ht (TW_V k_ml_C_78 k_im_A_size k_se_A_size k_in_A k_code_A_size) rfl rfl rfl hv_A_size ⟨Nat.le_of_ble_eq_true rfl, Nat.le_of_ble_eq_true rfl⟩) ⟨x_blind, va_recv hK hP rfl li_v, x_pre hE hA hS hP hD⟩ rfl rfl hl.1 rfl (lv_room (Nat.le_of_ble_eq_true rfl)) d_C_fillDraft_7 ⟨Nat.le_of_ble_eq_true rfl, Nat.le_of_ble_eq_true rfl⟩) hS (fun r3 w2 H locs q1 hP hD hS => ?_)
      obtain ⟨rfl, rfl⟩ := q1
      refine x_ge hx hb i V.length rfl rfl (by omega) (by omega) (tgt := 52) d_C_fillDraft_10 (by decide) (fun c4 => ?_) (fun c4 => ?_)
      · refine lv_iconst (v := (nI 1)) hx hb d_C_fillDraft_52 (by decide) ?_
        exact x_zret hx hb hr hlocks hS hP hD (Nat.le_of_ble_eq_true rfl) (Nat.le_of_ble_eq_true rfl) d_C_fillDraft_53 rfl (⟨d9, hR9, kk, Or.inl ⟨rfl, he.symm⟩⟩)
      · exact False.elim (by omega)
    | succ n ih =>
      intro i hi d9 w9 H locs ls he hR9 kk hP hD hS hl
      obtain ⟨wa, da, kV, kE, kK, gV, gE, gK, hX⟩ := id hR9
      obtain ⟨x1, x2, x3, x4, x5, x6, x7, x8, x9, x10, x11, x12, x13⟩ := id hX
      obtain ⟨mo_v, ae_v, li_v, -⟩ := id x4
      obtain ⟨mo_e, ae_e, li_e, -⟩ := id x5
      obtain ⟨mo_k, ae_k, li_k, -⟩ := id x6
      obtain ⟨kw, kd, hw, hd, y0, y1, y2, y3, y4, y5, y6⟩ := id x12
      refine lv_iload_n hx hb d_C_fillDraft_2 rfl (lv_at hl 0 rfl) ?_
      refine lv_aload_n hx hb d_C_fillDraft_3 rfl (lv_at hl 1 rfl) ?_
      refine va_get (D := xD G) (ci := 0) (C := R_C) (T := F_C) (N := 10) hx hb ht in_C hown hK hP 0 x1 rfl 2 (by decide) (ht _ k_fl_C_26) (fun _ h9 => h9) rfl d_C_fillDraft_4 ?_
      refine x_calli (va_runV (As := []) (rest := [.int (nI i)]) ⟨hx, hb, hml, hown, ht⟩ (c_A_size l G A w9 5 kV lv V.length gV x4) (cwV 0 ht (TW_V k_ml_C_78 k_im_A_size k_se_A_size k_in_A k_code_A_size) rfl rfl rfl hv_A_size ⟨Nat.le_of_ble_eq_true rfl, Nat.le_of_ble_eq_true rfl⟩) ⟨x_blind, va_recv hK hP rfl li_v, x_pre hE hA hS hP hD⟩ rfl rfl hl.1 rfl (lv_room (Nat.le_of_ble_eq_true rfl)) d_C_fillDraft_7 ⟨Nat.le_of_ble_eq_true rfl, Nat.le_of_ble_eq_true rfl⟩) hS (fun r7 w6 H locs q5 hP hD hS => ?_)
      obtain ⟨rfl, rfl⟩ := q5
      refine x_ge hx hb i V.length rfl rfl (by omega) (by omega) (tgt := 52) d_C_fillDraft_10 (by decide) (fun c8 => ?_) (fun c8 => ?_)
      · exact False.elim (by omega)
      · have hi9 : i < V.length := by omega
        obtain ⟨y, hy⟩ := V_get hi9
        refine lv_aload_n hx hb d_C_fillDraft_13 rfl (lv_at hl 1 rfl) ?_
        refine va_get (D := xD G) (ci := 0) (C := R_C) (T := F_C) (N := 10) hx hb ht in_C hown hK hP 0 x1 rfl 2 (by decide) (ht _ k_fl_C_26) (fun _ h9 => h9) rfl d_C_fillDraft_14 ?_
        refine lv_iload_n hx hb d_C_fillDraft_17 rfl (lv_at hl 0 rfl) ?_
        refine x_callr (va_runV (As := [.int (nI i)]) (rest := []) ⟨hx, hb, hml, hown, ht⟩ (c_A_get l G A w9 5 kV lv V.length i gV x4 hi9 (by omega)) (cwV 1 ht (TW_V k_ml_C_104 k_im_A_get k_se_A_get k_in_A k_code_A_get) rfl rfl rfl hv_A_get ⟨Nat.le_of_ble_eq_true rfl, Nat.le_of_ble_eq_true rfl⟩) ⟨x_blind, va_recv hK hP rfl li_v, x_pre hE hA hS hP hD⟩ rfl rfl hl.1 rfl (lv_room (Nat.le_of_ble_eq_true rfl)) d_C_fillDraft_18 ⟨Nat.le_of_ble_eq_true rfl, Nat.le_of_ble_eq_true rfl⟩) hS (fun r11 w10 H locs q9 hP hD hS => ?_)
        obtain ⟨rfl, rfl⟩ := q9
        have iv := x7 i y hy
        obtain ⟨k9, la9, ra9, c9, -⟩ := id iv
        refine va_castY hx hb hown (ht _ k_cl_C_43) (hE.2.2.2.2.2.2.2 _ k_ca_V_V) (va_recv hK hP rfl c9) d_C_fillDraft_21 ?_
        refine lv_aload_n hx hb d_C_fillDraft_24 rfl (lv_at hl 1 rfl) ?_
        refine va_get (D := xD G) (ci := 0) (C := R_C) (T := F_C) (N := 10) hx hb ht in_C hown hK hP 0 x1 rfl 7 (by decide) (ht _ k_fl_C_40) (fun _ h9 => h9) rfl d_C_fillDraft_25 ?_
        refine x_calli (va_runV (As := [.ref da]) (rest := []) ⟨hx, hb, hml, hown, ht⟩ (c_num l G A w9 (gV i) da y d9 iv ⟨kd, hd, y2, y5, y6⟩ (bR i y hy).1 (bR i y hy).2) (cwV 1 ht (TW_V k_ml_C_224 k_im_V_numberFor k_se_V_numberFor k_in_V k_code_V_numberFor) rfl rfl rfl hv_V_numberFor ⟨Nat.le_of_ble_eq_true rfl, Nat.le_of_ble_eq_true rfl⟩) ⟨x_blind, va_recv hK hP rfl c9, x_pre hE hA hS hP hD⟩ rfl rfl hl.1 rfl (lv_room (Nat.le_of_ble_eq_true rfl)) d_C_fillDraft_28 ⟨Nat.le_of_ble_eq_true rfl, Nat.le_of_ble_eq_true rfl⟩) hS (fun r14 w13 H locs q12 hP hD hS => ?_)
        obtain ⟨rfl, ⟨v, n1, rfl, n3⟩ | ⟨n1, rfl⟩⟩ := q12
        · refine lv_istore_n (lv' := [(2, .int (nI v)), (1, .int (nI i)), (0, .ref o)]) hx hb d_C_fillDraft_31 rfl hl (by decide) rfl (fun ls hl => ?_)
          refine lv_iload_n hx hb d_C_fillDraft_32 rfl (lv_at hl 0 rfl) ?_
          refine lv_iconst (v := (-1)) hx hb d_C_fillDraft_33 (by decide) ?_
          refine lv_icmp_ne (tgt := 39) hx hb d_C_fillDraft_34 (by decide) (fun c15 => ?_) (fun c15 => ?_)
          · refine lv_aload_n hx hb d_C_fillDraft_39 rfl (lv_at hl 2 rfl) ?_
            refine va_get (D := xD G) (ci := 0) (C := R_C) (T := F_C) (N := 10) hx hb ht in_C hown hK hP 0 x1 rfl 7 (by decide) (ht _ k_fl_C_40) (fun _ h9 => h9) rfl d_C_fillDraft_40 ?_
            refine lv_iload_n hx hb d_C_fillDraft_43 rfl (lv_at hl 1 rfl) ?_
            refine lv_iload_n hx hb d_C_fillDraft_44 rfl (lv_at hl 0 rfl) ?_
            refine x_iast hx hb hK hP hD hS y2 i rfl (by omega) (by omega) d_C_fillDraft_45 (fun H locs hP hD hS => ?_)
            have hP : va_P (xD G) CL (w9.set kd (da, aI G 60 (upd hd i (nI v)))) H := hP
            have hD : va_D A (w9.set kd (da, aI G 60 (upd hd i (nI v)))) := hD
            obtain ⟨w16, e_w16⟩ : ∃ zz : va_W, zz = w9.set kd (da, aI G 60 (upd hd i (nI v))) := ⟨_, rfl⟩
            rw [← e_w16] at hP hD
            have h17 : w16[0]? = some (o, .inr (0, [.ref z, .ref u, .ref lv, .ref le, .ref lk, .int (nI inp), .ref wa, .ref da, .int (nI wV), .int (nI wC)])) := by rw [e_w16]; exact w_ne (w_dif y2 x1 (by simp)) x1
            have h18 : w16[kd]? = some (da, aI G 60 (upd hd i (nI v))) := by rw [e_w16]; exact w_eq y2
            have r2 : rows2 G (w9.set kd (da, aI G 60 (upd hd i (nI v)))) wa da w (va_up d9 i v) := ⟨kw, kd, hw, upd hd i (nI v), y0, w_ne (by omega) y1, w_eq y2, y3, y4, fun j hj => by unfold upd va_up; split; rfl; exact y5 j hj, fun j hj => by unfold va_up; split; exact n3; exact y6 j hj⟩
            obtain ⟨hX2, kk2⟩ := CCx.setRow hX (by omega) y2 r2
            rw [← e_w16] at hX2 kk2
            refine lv_iinc (v := nI (i + 1)) (lv' := [(1, .int (nI (i + 1))), (2, .int (nI v)), (0, .ref o)]) hx hb d_C_fillDraft_46 hl (k := 1) rfl (n_inc _) (by decide) rfl (fun ls hl => ?_)
            refine lv_goto (tgt := 2) hx hb d_C_fillDraft_49 (by decide) ?_
            exact ih (i + 1) (by omega) (va_up d9 i v) w16 H locs ls (by rw [← he]; show _ = (match num (vAt V i) d9 with | none => (false, d9) | some v => fil V n (i + 1) (va_up d9 i v)); rw [vAt_of hy, n1]) ⟨_, _, _, _, _, _, _, _, hX2⟩ (kk.tr kk2) hP hD hS (lv_sub hl [0, 2] rfl)
          · exact absurd c15 (nI_m1 (by omega))
        · refine lv_istore_n (lv' := [(2, .int (-1)), (1, .int (nI i)), (0, .ref o)]) hx hb d_C_fillDraft_31 rfl hl (by decide) rfl (fun ls hl => ?_)
          refine lv_iload_n hx hb d_C_fillDraft_32 rfl (lv_at hl 0 rfl) ?_
          refine lv_iconst (v := (-1)) hx hb d_C_fillDraft_33 (by decide) ?_
          refine lv_icmp_ne (tgt := 39) hx hb d_C_fillDraft_34 (by decide) (fun c19 => ?_) (fun c19 => ?_)
          · exact absurd rfl c19
          · refine lv_iconst (v := (nI 0)) hx hb d_C_fillDraft_37 (by decide) ?_
            exact x_zret hx hb hr hlocks hS hP hD (Nat.le_of_ble_eq_true rfl) (Nat.le_of_ble_eq_true rfl) d_C_fillDraft_38 rfl (⟨d9, hR9, kk, Or.inr ⟨rfl, by rw [← he]; show (match num (vAt V i) d9 with | none => (false, d9) | some v => fil V n (i + 1) (va_up d9 i v)) = _; rw [vAt_of hy, n1]⟩⟩)
  exact loop V.length 0 (by omega) d ws s.heap [] ls rfl hR kp.rf hP hD hS hl
end
section
/-! the public methods -/
def okI (V : List VV) (E : List EE) (K : List KK) (inp wV wC : Nat) : Prop := 1 ≤ V.length ∧ V.length ≤ 60 ∧ E.length ≤ 60 ∧ K.length ≤ 80 ∧ inp ≤ 60 ∧ wV ≤ V.length ∧ wC ≤ K.length ∧ (∀ (i : Nat) (x : VV), V[i]? = some x → x.1 ≤ 5 ∧ x.2.2.2 < 97) ∧ ∀ (i : Nat) (x : EE), E[i]? = some x → x.2 < V.length
def exS (kd : Nat) (V : List VV) (E : List EE) (K : List KK) (inp : Nat) (x1 x2 x3 : Int32) : List VV × List EE × List KK × Nat :=
  if kd = 1 then (V ++ [(1, zr, zr, 0)], E ++ [(unit V.length, V.length)], K, inp + 1) else ((mkSum kd E (V, K) x1 x2 x3).1.1, E ++ [((mkSum kd E (V, K) x1 x2 x3).2, 0)], (mkSum kd E (V, K) x1 x2 x3).1.2, inp)

set_option maxHeartbeats 4000000 in
set_option maxRecDepth 100000 in
theorem c_expression (l : Launch) (G : xG) (A : Nat → Prop) (ws : va_W) (hst : l.stackTraces = false) (o z u lv le lk : Nat) (V : List VV) (E : List EE) (K : List KK) (inp : Nat) (w d : Nat → Nat) (wV wC : Nat) (hR : CCs G ws o z u lv le lk V E K inp w d wV wC) (hI : okI V E K inp wV wC) (x0 x1 x2 x3 : Int32) : vx_Met l y_C_expression (cw_C_expression :: TW) { frames := 13, cells := 40, slots := 2000, locals := 338 } (va_Pc [.ref o, .int x0, .int x1, .int x2, .int x3] (x_P G A ws)) (qI G A (fun r w9 => r = nI E.length ∧ ∃ kq, x0 = nI kq ∧ wfd kq E.length x1 x2 x3 ∧ room kq V E K x1 x2 x3 ∧ CCs G w9 o z u lv le lk (exS kq V E K inp x1 x2 x3).1 (exS kq V E K inp x1 x2 x3).2.1 (exS kq V E K inp x1 x2 x3).2.2.1 (exS kq V E K inp x1 x2 x3).2.2.2 w d wV wC)) (qX G A (fun Ex w9 => CCs G w9 o z u lv le lk V E K inp w d wV wC ∧ ((Ex = "java/lang/IllegalArgumentException" ∧ ¬ wfx E.length x0 x1 x2 x3) ∨ (Ex = "java/lang/IllegalStateException" ∧ ∃ kq, x0 = nI kq ∧ wfd kq E.length x1 x2 x3 ∧ ¬ room kq V E K x1 x2 x3)))) 40 2000 A := by
  refine vx_ofW (cc := b_C_expression) (maxL := 5) (ret := (some .int)) (by decide) rfl ?_
  intro p e s m args below meth c s₁ B hml hno hv
  obtain ⟨rfl, hE, hA, hP, hD⟩ := hv
  have hx := B.exec
  have hb := B.bytes
  have hr := B.returns
  have ht : ∀ w ∈ TW, w.before _ s = true := fun w h => atoms_spec (ws := cw_C_expression :: TW) B.pre w (List.mem_cons_of_mem _ h)
  have hown : s.vm.findClass R_C = some m.cls := findClass_of_methodNamed B.named
  have hlocks := B.notSynchronized
  have hK := hE.1
  have hS : va_S A s.heap s.heap [] := va_S.rf
  have hl := lv_entry ([.ref o, .int x0, .int x1, .int x2, .int x3]) (n := 5) (Nat.le_of_ble_eq_true rfl)
  rw [lg_entry_eq]
  generalize (lg_sl ([.ref o, .int x0, .int x1, .int x2, .int x3]) ++ List.replicate (5 - (lg_sl ([.ref o, .int x0, .int x1, .int x2, .int x3])).length) Slot.unset).toArray = ls at hl ⊢
  have hl : lv_has ls 5 [(0, .ref o), (1, .int x0), (2, .int x1), (3, .int x2), (4, .int x3)] := hl
  obtain ⟨i1, i2, i3, i4, i5, i6, i7, i8, i9⟩ := id hI
  obtain ⟨wa0, da0, ho0⟩ := CCs.o hR
  refine lv_aload_n hx hb d_C_expression_0 rfl (lv_at hl 0 rfl) ?_
  refine lv_iload_n hx hb d_C_expression_1 rfl (lv_at hl 1 rfl) ?_
  refine lv_iload_n hx hb d_C_expression_2 rfl (lv_at hl 2 rfl) ?_
  refine lv_iload_n hx hb d_C_expression_3 rfl (lv_at hl 3 rfl) ?_
  refine lv_iload hx hb d_C_expression_4 (lv_at hl 4 rfl) ?_
  refine x_calli (va_runV (As := [.int x0, .int x1, .int x2, .int x3]) (rest := []) ⟨hx, hb, hml, hown, ht⟩ (c_wf l G A ws o z u lv le lk V E K inp w d wV wC hR i3 x0 x1 x2 x3) (cwV 4 ht (TW_V k_ml_C_52 k_im_C_isWellFormed k_se_C_isWellFormed k_in_C k_code_C_isWellFormed) rfl rfl rfl hv_C_isWellFormed ⟨Nat.le_of_ble_eq_true rfl, Nat.le_of_ble_eq_true rfl⟩) ⟨x_blind, va_recv hK hP rfl ho0, x_pre hE hA hS hP hD⟩ rfl rfl hl.1 rfl (lv_room (Nat.le_of_ble_eq_true rfl)) d_C_expression_6 ⟨Nat.le_of_ble_eq_true rfl, Nat.le_of_ble_eq_true rfl⟩) hS (fun r3 w2 H locs q1 hP hD hS => ?_)
  obtain ⟨rfl, ⟨rfl, hw⟩ | ⟨rfl, hw⟩⟩ := q1
  · refine x_if_ne hx hb 1 rfl (by omega) (tgt := 20) d_C_expression_9 (by decide) (fun c4 => ?_) (fun c4 => ?_)
    · obtain ⟨kd, rfl, hw⟩ := hw
      have k9 := hw.1
      refine lv_aload_n hx hb d_C_expression_20 rfl (lv_at hl 0 rfl) ?_
      refine lv_iload_n hx hb d_C_expression_21 rfl (lv_at hl 1 rfl) ?_
      refine lv_iload_n hx hb d_C_expression_22 rfl (lv_at hl 2 rfl) ?_
      refine lv_iload_n hx hb d_C_expression_23 rfl (lv_at hl 3 rfl) ?_
      refine lv_iload hx hb d_C_expression_24 (lv_at hl 4 rfl) ?_
      refine x_calli (va_runV (As := [.int (nI kd), .int x1, .int x2, .int x3]) (rest := []) ⟨hx, hb, hml, hown, ht⟩ (c_room l G A ws o z u lv le lk V E K inp w d wV wC hR i3 i2 i4 kd x1 x2 x3 hw) (cwV 4 ht (TW_V k_ml_C_59 k_im_C_hasRoomFor k_se_C_hasRoomFor k_in_C k_code_C_hasRoomFor) rfl rfl rfl hv_C_hasRoomFor ⟨Nat.le_of_ble_eq_true rfl, Nat.le_of_ble_eq_true rfl⟩) ⟨x_blind, va_recv hK hP rfl ho0, x_pre hE hA hS hP hD⟩ rfl rfl hl.1 rfl (lv_room (Nat.le_of_ble_eq_true rfl)) d_C_expression_26 ⟨Nat.le_of_ble_eq_true rfl, Nat.le_of_ble_eq_true rfl⟩) hS (fun r7 w6 H locs q5 hP hD hS => ?_)
      refine W.widen (k := 2) (n := 61) (Nat.le_of_ble_eq_true rfl) (Nat.le_of_ble_eq_true rfl) ?_
      obtain ⟨⟨rfl, hr9⟩ | ⟨rfl, hr9⟩, hR1, kk1⟩ := q5
      · refine x_if_ne hx hb 1 rfl (by omega) (tgt := 40) d_C_expression_29 (by decide) (fun c8 => ?_) (fun c8 => ?_)
        · obtain ⟨o1, o2, o3⟩ := id hr9
          obtain ⟨wa1, da1, ho1⟩ := CCs.o hR1
          refine lv_aload_n hx hb d_C_expression_40 rfl (lv_at hl 0 rfl) ?_
          refine va_get (D := xD G) (ci := 0) (C := R_C) (T := F_C) (N := 10) hx hb ht in_C hown hK hP 0 ho1 rfl 3 (by decide) (ht _ k_fl_C_30) (fun _ h9 => h9) rfl d_C_expression_41 ?_
          have fin : ∀ (V1 : List VV) (K1 : List KK) (inp1 : Nat) (x9 : EE) (r9 : Nat) (w9 : va_W) (H : Heap) (locs : List Loc), exS kd V E K inp x1 x2 x3 = (V1, E ++ [x9], K1, inp1) → isE G w9 r9 x9 → CCs G w9 o z u lv le lk V1 E K1 inp1 w d wV wC → va_P (xD G) CL w9 H → va_D A w9 → va_S A s.heap H locs → W p l e (headSpec (cw_C_expression :: TW) { frames := 13, cells := 40, slots := 2000, locals := 338 }).room s m ([.ref o, .int (nI kd), .int x1, .int x2, .int x3] : List Value).toArray below meth c H locs 27 1535 (vx_MQ below (qI G A (fun r w9 => r = nI E.length ∧ ∃ kq, (nI kd) = nI kq ∧ wfd kq E.length x1 x2 x3 ∧ room kq V E K x1 x2 x3 ∧ CCs G w9 o z u lv le lk (exS kq V E K inp x1 x2 x3).1 (exS kq V E K inp x1 x2 x3).2.1 (exS kq V E K inp x1 x2 x3).2.2.1 (exS kq V E K inp x1 x2 x3).2.2.2 w d wV wC)) (qX G A (fun Ex w9 => CCs G w9 o z u lv le lk V E K inp w d wV wC ∧ ((Ex = "java/lang/IllegalArgumentException" ∧ ¬ wfx E.length (nI kd) x1 x2 x3) ∨ (Ex = "java/lang/IllegalStateException" ∧ ∃ kq, (nI kd) = nI kq ∧ wfd kq E.length x1 x2 x3 ∧ ¬ room kq V E K x1 x2 x3)))) ([.ref o, .int (nI kd), .int x1, .int x2, .int x3] : List Value).toArray s 40 2000 A) (F0 m 73 ls [.ref r9, .ref le]) := by
            intro V1 K1 inp1 x9 r9 w9 H locs he hx9 hR2 hP hD hS
            obtain ⟨wa2, da2, kV2, kE2, kK2, gV2, gE2, gK2, hX2⟩ := id hR2
            have l5 := hX2.2.2.2.2.1
            have l8 := hX2.2.2.2.2.2.2.2.1
            obtain ⟨mo2, ae2, li2, -⟩ := id l5
            refine x_calli (va_runV (As := [.ref r9]) (rest := []) ⟨hx, hb, hml, hown, ht⟩ (c_add l G A w9 6 kE2 le E.length r9 gE2 l5 (by omega) (fun j hj => by obtain ⟨y, hy⟩ := V_get hj; exact (l8 j y hy).O) hx9.O) (cwV 1 ht (TW_V k_ml_C_48 k_im_A_add1 k_se_A_add1 k_in_A k_code_A_add1) rfl rfl rfl hv_A_add1 ⟨Nat.le_of_ble_eq_true rfl, Nat.le_of_ble_eq_true rfl⟩) ⟨x_blind, va_recv hK hP rfl li2, x_pre hE hA hS hP hD⟩ rfl rfl hl.1 rfl (lv_room (Nat.le_of_ble_eq_true rfl)) d_C_expression_73 ⟨Nat.le_of_ble_eq_true rfl, Nat.le_of_ble_eq_true rfl⟩) hS (fun r11 w10 H locs q9 hP hD hS => ?_)
            refine W.widen (k := 28) (n := 1685) (Nat.le_of_ble_eq_true rfl) (Nat.le_of_ble_eq_true rfl) ?_
            obtain ⟨ka', e1, e2, e3, e4⟩ := q9
            have kk := keep2.kp l5 e2
            have hX3 := CCx.addE (x := x9) hX2 e1 e2 e3 (hx9.kp kk)
            obtain ⟨mo3, ae3, li3, -⟩ := id e1
            refine lv_pop hx hb d_C_expression_76 rfl ?_
            refine lv_aload_n hx hb d_C_expression_77 rfl (lv_at hl 0 rfl) ?_
            refine va_get (D := xD G) (ci := 0) (C := R_C) (T := F_C) (N := 10) hx hb ht in_C hown hK hP 0 hX3.1 rfl 3 (by decide) (ht _ k_fl_C_30) (fun _ h9 => h9) rfl d_C_expression_78 ?_
            refine x_calli (va_runV (As := []) (rest := []) ⟨hx, hb, hml, hown, ht⟩ (c_A_size l G A w10 6 ka' le (E.length + 1) (va_up gE2 E.length r9) e1) (cwV 0 ht (TW_V k_ml_C_78 k_im_A_size k_se_A_size k_in_A k_code_A_size) rfl rfl rfl hv_A_size ⟨Nat.le_of_ble_eq_true rfl, Nat.le_of_ble_eq_true rfl⟩) ⟨x_blind, va_recv hK hP rfl li3, x_pre hE hA hS hP hD⟩ rfl rfl hl.1 rfl (lv_room (Nat.le_of_ble_eq_true rfl)) d_C_expression_81 ⟨Nat.le_of_ble_eq_true rfl, Nat.le_of_ble_eq_true rfl⟩) hS (fun r14 w13 H locs q12 hP hD hS => ?_)
            obtain ⟨rfl, rfl⟩ := q12
            refine lv_iconst (v := (nI 1)) hx hb d_C_expression_84 (by decide) ?_
            refine lv_isub hx hb d_C_expression_85 ?_
            refine x_top (nI ((E.length + 1) - 1)) (pk_sub (by omega)) ?_
            refine vx_ret ?_
            exact x_iret hx hb hr hlocks hS hP hD (Nat.le_of_ble_eq_true rfl) (Nat.le_of_ble_eq_true rfl) d_C_expression_86 (⟨by rw [Nat.add_sub_cancel], kd, rfl, hw, hr9, by rw [he]; exact ⟨_, _, _, _, _, _, _, _, hX3⟩⟩)
          refine lv_iload_n hx hb d_C_expression_44 rfl (lv_at hl 1 rfl) ?_
          refine lv_iconst (v := (nI 1)) hx hb d_C_expression_45 (by decide) ?_
          refine x_ne hx hb kd 1 rfl rfl (by omega) (by omega) (tgt := 56) d_C_expression_46 (by decide) (fun c15 => ?_) (fun c15 => ?_)
          · rw [if_neg c15] at o2
            refine va_new (ci := 3) (fs := [.null, .int 0]) (C := R_E) (T := F_E) (N := 2) hx hb ht in_E ft_E fo_E hown (ht _ k_cl_C_69) (ht _ k_new_E) (ht _ k_in_E) hK hP hD hS hA rfl (fun j hj => by rcases (show j = 0 ∨ j = 1 by omega) with rfl | rfl <;> rfl) (Nat.le_of_ble_eq_true rfl) (Nat.le_of_ble_eq_true rfl) d_C_expression_56 (fun ea H hP hD hS => ?_)
            refine W.widen (k := 3) (n := 63) (Nat.le_of_ble_eq_true rfl) (Nat.le_of_ble_eq_true rfl) ?_
            have hP : va_P (xD G) CL (w6 ++ [(ea, .inr (3, [.null, .int 0]))]) H := hP
            have hD : va_D A (w6 ++ [(ea, .inr (3, [.null, .int 0]))]) := hD
            obtain ⟨w16, e_w16⟩ : ∃ zz : va_W, zz = w6 ++ [(ea, .inr (3, [.null, .int 0]))] := ⟨_, rfl⟩
            rw [← e_w16] at hP hD
            have h17 : w16[0]? = some (o, .inr (0, [.ref z, .ref u, .ref lv, .ref le, .ref lk, .int (nI inp), .ref wa1, .ref da1, .int (nI wV), .int (nI wC)])) := by rw [e_w16]; exact w_app ho1
            have h18 : w16[w6.length]? = some (ea, .inr (3, [.null, .int 0])) := by rw [e_w16]; exact w_new0
            have hR2 := hR1.app (n := [(ea, .inr (3, [.null, .int 0]))])
            rw [← e_w16] at hR2
            refine lv_dup hx hb d_C_expression_59 rfl ?_
            refine lv_aload_n hx hb d_C_expression_60 rfl (lv_at hl 0 rfl) ?_
            refine lv_iload_n hx hb d_C_expression_61 rfl (lv_at hl 1 rfl) ?_
            refine lv_iload_n hx hb d_C_expression_62 rfl (lv_at hl 2 rfl) ?_
            refine lv_iload_n hx hb d_C_expression_63 rfl (lv_at hl 3 rfl) ?_
            refine lv_iload hx hb d_C_expression_64 (lv_at hl 4 rfl) ?_
            refine x_callr (va_runV (As := [.int (nI kd), .int x1, .int x2, .int x3]) (rest := [.ref ea, .ref ea, .ref le]) ⟨hx, hb, hml, hown, ht⟩ (c_msum l G A w16 o z u lv le lk V E K inp w d wV wC hR2 i3 kd x1 x2 x3 hw o2 o3) (cwV 4 ht (TW_V k_ml_C_71 k_im_C_makeSum k_se_C_makeSum k_in_C k_code_C_makeSum) rfl rfl rfl hv_C_makeSum ⟨Nat.le_of_ble_eq_true rfl, Nat.le_of_ble_eq_true rfl⟩) ⟨x_blind, va_recv hK hP rfl h17, x_pre hE hA hS hP hD⟩ rfl rfl hl.1 rfl (lv_room (Nat.le_of_ble_eq_true rfl)) d_C_expression_66 ⟨Nat.le_of_ble_eq_true rfl, Nat.le_of_ble_eq_true rfl⟩) hS (fun r21 w20 H locs q19 hP hD hS => ?_)
            refine W.widen (k := 27) (n := 1535) (Nat.le_of_ble_eq_true rfl) (Nat.le_of_ble_eq_true rfl) ?_
            obtain ⟨iS, hR3, kk3⟩ := q19
            have he4 := kk3 _ _ _ h18 (hard_o (Or.inr (Or.inr (Or.inl rfl))))
            refine lv_iconst (v := (nI 0)) hx hb d_C_expression_69 (by decide) ?_
            refine x_callv (va_runI (As := [.ref r21, .int (nI 0)]) (rest := [.ref ea, .ref le]) ⟨hx, hb, hml, hown, ht⟩ (c_E_init l G A w20 w6.length ea r21 (nI 0) he4) (cwI 2 ht (TW_good k_code_E_init) rfl rfl rfl (ht _ k_in_E) (ht _ k_ml_C_75) (ht _ k_im_E_init) rfl hv_E_init.2 ⟨Nat.le_of_ble_eq_true rfl, Nat.le_of_ble_eq_true rfl⟩) ⟨x_blind, x_pre hE hA hS hP hD⟩ rfl rfl hl.1 rfl (lv_room (Nat.le_of_ble_eq_true rfl)) d_C_expression_70 ⟨Nat.le_of_ble_eq_true rfl, Nat.le_of_ble_eq_true rfl⟩) hS (fun w23 H locs q22 hP hD hS => ?_)
            have hR5 := CCs.setE hR3 he4 (.inr (3, [.ref r21, .int (nI 0)]))
            rw [← q22] at hR5
            have hh5 : w23[w6.length]? = some (ea, .inr (3, [.ref r21, .int (nI 0)])) := by rw [q22]; exact w_eq he4
            have iS5 : isS G w23 r21 (mkSum kd E (V, K) x1 x2 x3).2 := by rw [q22]; exact iS.setE he4
            exact fin _ _ _ ((mkSum kd E (V, K) x1 x2 x3).2, 0) ea w23 H locs (by unfold exS; rw [if_neg c15]) ⟨_, _, hh5, iS5⟩ hR5 hP hD hS
          · have o4 : V.length < 60 := by rw [if_pos c15] at o2; omega
            refine lv_aload_n hx hb d_C_expression_49 rfl (lv_at hl 0 rfl) ?_
            refine x_callr (va_runV (As := []) (rest := [.ref le]) ⟨hx, hb, hml, hown, ht⟩ (c_minput l G A w6 o z u lv le lk V E K inp w d wV wC hR1 o4 (by omega)) (cwV 0 ht (TW_V k_ml_C_65 k_im_C_makeInput k_se_C_makeInput k_in_C k_code_C_makeInput) rfl rfl rfl hv_C_makeInput ⟨Nat.le_of_ble_eq_true rfl, Nat.le_of_ble_eq_true rfl⟩) ⟨x_blind, va_recv hK hP rfl ho1, x_pre hE hA hS hP hD⟩ rfl rfl hl.1 rfl (lv_room (Nat.le_of_ble_eq_true rfl)) d_C_expression_50 ⟨Nat.le_of_ble_eq_true rfl, Nat.le_of_ble_eq_true rfl⟩) hS (fun r26 w25 H locs q24 hP hD hS => ?_)
            refine W.widen (k := 7) (n := 278) (Nat.le_of_ble_eq_true rfl) (Nat.le_of_ble_eq_true rfl) ?_
            obtain ⟨hx9, hR2, kk2⟩ := q24
            refine lv_goto (tgt := 73) hx hb d_C_expression_53 (by decide) ?_
            refine W.widen (k := 27) (n := 1535) (Nat.le_of_ble_eq_true rfl) (Nat.le_of_ble_eq_true rfl) ?_
            exact fin _ _ _ (unit V.length, V.length) r26 w25 H locs (by unfold exS; rw [if_pos c15]) hx9 hR2 hP hD hS
        · exact False.elim (by omega)
      · refine x_if_ne hx hb 0 rfl (by omega) (tgt := 40) d_C_expression_29 (by decide) (fun c27 => ?_) (fun c27 => ?_)
        · exact False.elim (by omega)
        · exact vx_throw0 (own := R_C) (cls := "java/lang/IllegalStateException") (names := ["java/lang/RuntimeException", "java/lang/Exception"]) hx hb hst hown (by decide) (by decide) (ht _ k_cl_C_62) (ht _ k_in_IllegalStateException) (x_hat ht hE.2.2.2.2.2.2.2 at_ISE) hg_ISE hE.2.2.2.2.2.1 hE.2.2.2.2.2.2.1 hS (hl.1.trans hml.symm) d_C_expression_32 d_C_expression_35 d_C_expression_36 d_C_expression_39 (fun x h => (hno x h).elim) (Nat.le_of_ble_eq_true rfl) (Nat.le_of_ble_eq_true rfl) (Nat.le_of_ble_eq_true rfl) (Nat.le_of_ble_eq_true rfl) hlocks (x_thrown hS hP hD (⟨hR1, Or.inr ⟨rfl, kd, rfl, hw, hr9⟩⟩)) hS.2.2 (Nat.le_of_ble_eq_true rfl) (Nat.le_of_ble_eq_true rfl)
    · exact False.elim (by omega)
  · refine x_if_ne hx hb 0 rfl (by omega) (tgt := 20) d_C_expression_9 (by decide) (fun c28 => ?_) (fun c28 => ?_)
    · exact False.elim (by omega)
    · exact vx_throw0 (own := R_C) (cls := "java/lang/IllegalArgumentException") (names := ["java/lang/RuntimeException", "java/lang/Exception"]) hx hb hst hown (by decide) (by decide) (ht _ k_cl_C_56) (ht _ k_in_IllegalArgumentException) (x_hat ht hE.2.2.2.2.2.2.2 at_IAE) hg_IAE hE.2.2.2.2.2.1 hE.2.2.2.2.2.2.1 hS (hl.1.trans hml.symm) d_C_expression_12 d_C_expression_15 d_C_expression_16 d_C_expression_19 (fun x h => (hno x h).elim) (Nat.le_of_ble_eq_true rfl) (Nat.le_of_ble_eq_true rfl) (Nat.le_of_ble_eq_true rfl) (Nat.le_of_ble_eq_true rfl) hlocks (x_thrown hS hP hD (⟨hR, Or.inl ⟨rfl, hw⟩⟩)) hS.2.2 (Nat.le_of_ble_eq_true rfl) (Nat.le_of_ble_eq_true rfl)
end
