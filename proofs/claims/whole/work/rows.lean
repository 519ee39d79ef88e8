section
-- ===== PART A: goes FIRST, ahead of the names: the tables' words, and 'selects' of the private methods out of them =====
/-- a private method of a class that the tables say can be made, by its rows of tables_1 -/
def lw_okq (q : MethodName × Nat) : Prop := (q.1.cls ≠ "java/lang/invoke/MethodHandle" ∧ q.1.cls ≠ "java/lang/invoke/VarHandle") ∧ Cond.instantiable q.1.cls q.2 ∈ tables_1 ∧ Cond.privateMethod q.1 ∈ tables_1 ∧ Cond.instanceMethod q.1 ∈ tables_1
theorem lw_p0 : lw_okq (⟨"java/util/ArrayList", "add", "(Ljava/lang/Object;[Ljava/lang/Object;I)V"⟩, 3) := ⟨⟨by decide +kernel, by decide +kernel⟩, List.mem_of_getElem? (i := 51) (by decide +kernel), List.mem_of_getElem? (i := 101) (by decide +kernel), List.mem_of_getElem? (i := 102) (by decide +kernel)⟩
theorem lw_p1 : lw_okq (⟨"java/util/ArrayList", "grow", "()[Ljava/lang/Object;"⟩, 3) := ⟨⟨by decide +kernel, by decide +kernel⟩, List.mem_of_getElem? (i := 51) (by decide +kernel), List.mem_of_getElem? (i := 105) (by decide +kernel), List.mem_of_getElem? (i := 106) (by decide +kernel)⟩
theorem lw_p2 : lw_okq (⟨"java/util/ArrayList", "grow", "(I)[Ljava/lang/Object;"⟩, 3) := ⟨⟨by decide +kernel, by decide +kernel⟩, List.mem_of_getElem? (i := 51) (by decide +kernel), List.mem_of_getElem? (i := 109) (by decide +kernel), List.mem_of_getElem? (i := 110) (by decide +kernel)⟩
theorem lw_p3 : lw_okq (⟨"ConstraintCompiler", "isWellFormed", "(IIII)Z"⟩, 10) := ⟨⟨by decide +kernel, by decide +kernel⟩, List.mem_of_getElem? (i := 25) (by decide +kernel), List.mem_of_getElem? (i := 196) (by decide +kernel), List.mem_of_getElem? (i := 197) (by decide +kernel)⟩
theorem lw_p4 : lw_okq (⟨"ConstraintCompiler", "isMade", "(I)Z"⟩, 10) := ⟨⟨by decide +kernel, by decide +kernel⟩, List.mem_of_getElem? (i := 25) (by decide +kernel), List.mem_of_getElem? (i := 200) (by decide +kernel), List.mem_of_getElem? (i := 201) (by decide +kernel)⟩
theorem lw_p5 : lw_okq (⟨"java/lang/Throwable", "fillInStackTrace", "(I)Ljava/lang/Throwable;"⟩, 6) := ⟨⟨by decide +kernel, by decide +kernel⟩, List.mem_of_getElem? (i := 248) (by decide +kernel), List.mem_of_getElem? (i := 246) (by decide +kernel), List.mem_of_getElem? (i := 247) (by decide +kernel)⟩
theorem lw_p6 : lw_okq (⟨"ConstraintCompiler", "hasRoomFor", "(IIII)Z"⟩, 10) := ⟨⟨by decide +kernel, by decide +kernel⟩, List.mem_of_getElem? (i := 25) (by decide +kernel), List.mem_of_getElem? (i := 273) (by decide +kernel), List.mem_of_getElem? (i := 274) (by decide +kernel)⟩
theorem lw_p7 : lw_okq (⟨"ConstraintCompiler", "constraintsNeeded", "(IIII)I"⟩, 10) := ⟨⟨by decide +kernel, by decide +kernel⟩, List.mem_of_getElem? (i := 25) (by decide +kernel), List.mem_of_getElem? (i := 277) (by decide +kernel), List.mem_of_getElem? (i := 278) (by decide +kernel)⟩
theorem lw_p8 : lw_okq (⟨"ConstraintCompiler", "sumOf", "(I)LConstraintCompiler$Sum;"⟩, 10) := ⟨⟨by decide +kernel, by decide +kernel⟩, List.mem_of_getElem? (i := 25) (by decide +kernel), List.mem_of_getElem? (i := 281) (by decide +kernel), List.mem_of_getElem? (i := 282) (by decide +kernel)⟩
theorem lw_p9 : lw_okq (⟨"ConstraintCompiler", "difference", "(II)LConstraintCompiler$Sum;"⟩, 10) := ⟨⟨by decide +kernel, by decide +kernel⟩, List.mem_of_getElem? (i := 25) (by decide +kernel), List.mem_of_getElem? (i := 311) (by decide +kernel), List.mem_of_getElem? (i := 312) (by decide +kernel)⟩
theorem lw_p10 : lw_okq (⟨"ConstraintCompiler$Sum", "combinedWith", "(LConstraintCompiler$Sum;II)LConstraintCompiler$Sum;"⟩, 1) := ⟨⟨by decide +kernel, by decide +kernel⟩, List.mem_of_getElem? (i := 33) (by decide +kernel), List.mem_of_getElem? (i := 319) (by decide +kernel), List.mem_of_getElem? (i := 320) (by decide +kernel)⟩
theorem lw_p11 : lw_okq (⟨"ConstraintCompiler", "makeInput", "()LConstraintCompiler$Expression;"⟩, 10) := ⟨⟨by decide +kernel, by decide +kernel⟩, List.mem_of_getElem? (i := 25) (by decide +kernel), List.mem_of_getElem? (i := 344) (by decide +kernel), List.mem_of_getElem? (i := 345) (by decide +kernel)⟩
theorem lw_p12 : lw_okq (⟨"ConstraintCompiler", "addVariable", "(ILConstraintCompiler$Sum;LConstraintCompiler$Sum;)I"⟩, 10) := ⟨⟨by decide +kernel, by decide +kernel⟩, List.mem_of_getElem? (i := 25) (by decide +kernel), List.mem_of_getElem? (i := 348) (by decide +kernel), List.mem_of_getElem? (i := 349) (by decide +kernel)⟩
theorem lw_p13 : lw_okq (⟨"ConstraintCompiler", "makeSum", "(IIII)LConstraintCompiler$Sum;"⟩, 10) := ⟨⟨by decide +kernel, by decide +kernel⟩, List.mem_of_getElem? (i := 25) (by decide +kernel), List.mem_of_getElem? (i := 366) (by decide +kernel), List.mem_of_getElem? (i := 367) (by decide +kernel)⟩
theorem lw_p14 : lw_okq (⟨"ConstraintCompiler", "makeProduct", "(LConstraintCompiler$Sum;LConstraintCompiler$Sum;)LConstraintCompiler$Sum;"⟩, 10) := ⟨⟨by decide +kernel, by decide +kernel⟩, List.mem_of_getElem? (i := 25) (by decide +kernel), List.mem_of_getElem? (i := 374) (by decide +kernel), List.mem_of_getElem? (i := 375) (by decide +kernel)⟩
theorem lw_p15 : lw_okq (⟨"ConstraintCompiler", "makeConstrainedProduct", "(LConstraintCompiler$Sum;LConstraintCompiler$Sum;)LConstraintCompiler$Sum;"⟩, 10) := ⟨⟨by decide +kernel, by decide +kernel⟩, List.mem_of_getElem? (i := 25) (by decide +kernel), List.mem_of_getElem? (i := 382) (by decide +kernel), List.mem_of_getElem? (i := 383) (by decide +kernel)⟩
def lw_privs_1 : List (MethodName × Nat) := [(⟨"java/util/ArrayList", "add", "(Ljava/lang/Object;[Ljava/lang/Object;I)V"⟩, 3), (⟨"java/util/ArrayList", "grow", "()[Ljava/lang/Object;"⟩, 3), (⟨"java/util/ArrayList", "grow", "(I)[Ljava/lang/Object;"⟩, 3), (⟨"ConstraintCompiler", "isWellFormed", "(IIII)Z"⟩, 10), (⟨"ConstraintCompiler", "isMade", "(I)Z"⟩, 10), (⟨"java/lang/Throwable", "fillInStackTrace", "(I)Ljava/lang/Throwable;"⟩, 6), (⟨"ConstraintCompiler", "hasRoomFor", "(IIII)Z"⟩, 10), (⟨"ConstraintCompiler", "constraintsNeeded", "(IIII)I"⟩, 10), (⟨"ConstraintCompiler", "sumOf", "(I)LConstraintCompiler$Sum;"⟩, 10), (⟨"ConstraintCompiler", "difference", "(II)LConstraintCompiler$Sum;"⟩, 10), (⟨"ConstraintCompiler$Sum", "combinedWith", "(LConstraintCompiler$Sum;II)LConstraintCompiler$Sum;"⟩, 1), (⟨"ConstraintCompiler", "makeInput", "()LConstraintCompiler$Expression;"⟩, 10), (⟨"ConstraintCompiler", "addVariable", "(ILConstraintCompiler$Sum;LConstraintCompiler$Sum;)I"⟩, 10), (⟨"ConstraintCompiler", "makeSum", "(IIII)LConstraintCompiler$Sum;"⟩, 10), (⟨"ConstraintCompiler", "makeProduct", "(LConstraintCompiler$Sum;LConstraintCompiler$Sum;)LConstraintCompiler$Sum;"⟩, 10), (⟨"ConstraintCompiler", "makeConstrainedProduct", "(LConstraintCompiler$Sum;LConstraintCompiler$Sum;)LConstraintCompiler$Sum;"⟩, 10)]
theorem lw_r1 : ∀ q ∈ lw_privs_1, lw_okq q := List.forall_mem_cons.mpr ⟨lw_p0, List.forall_mem_cons.mpr ⟨lw_p1, List.forall_mem_cons.mpr ⟨lw_p2, List.forall_mem_cons.mpr ⟨lw_p3, List.forall_mem_cons.mpr ⟨lw_p4, List.forall_mem_cons.mpr ⟨lw_p5, List.forall_mem_cons.mpr ⟨lw_p6, List.forall_mem_cons.mpr ⟨lw_p7, List.forall_mem_cons.mpr ⟨lw_p8, List.forall_mem_cons.mpr ⟨lw_p9, List.forall_mem_cons.mpr ⟨lw_p10, List.forall_mem_cons.mpr ⟨lw_p11, List.forall_mem_cons.mpr ⟨lw_p12, List.forall_mem_cons.mpr ⟨lw_p13, List.forall_mem_cons.mpr ⟨lw_p14, List.forall_mem_cons.mpr ⟨lw_p15, fun _ h => absurd h List.not_mem_nil⟩⟩⟩⟩⟩⟩⟩⟩⟩⟩⟩⟩⟩⟩⟩⟩
theorem lw_p16 : lw_okq (⟨"ConstraintCompiler", "addConstraint", "(LConstraintCompiler$Sum;LConstraintCompiler$Sum;LConstraintCompiler$Sum;)V"⟩, 10) := ⟨⟨by decide +kernel, by decide +kernel⟩, List.mem_of_getElem? (i := 25) (by decide +kernel), List.mem_of_getElem? (i := 386) (by decide +kernel), List.mem_of_getElem? (i := 387) (by decide +kernel)⟩
theorem lw_p17 : lw_okq (⟨"ConstraintCompiler", "makeShare", "(LConstraintCompiler$Sum;LConstraintCompiler$Sum;)LConstraintCompiler$Sum;"⟩, 10) := ⟨⟨by decide +kernel, by decide +kernel⟩, List.mem_of_getElem? (i := 25) (by decide +kernel), List.mem_of_getElem? (i := 406) (by decide +kernel), List.mem_of_getElem? (i := 407) (by decide +kernel)⟩
theorem lw_p18 : lw_okq (⟨"ConstraintCompiler", "makeSame", "(LConstraintCompiler$Sum;)LConstraintCompiler$Sum;"⟩, 10) := ⟨⟨by decide +kernel, by decide +kernel⟩, List.mem_of_getElem? (i := 25) (by decide +kernel), List.mem_of_getElem? (i := 410) (by decide +kernel), List.mem_of_getElem? (i := 411) (by decide +kernel)⟩
theorem lw_p19 : lw_okq (⟨"ConstraintCompiler", "makePower", "(LConstraintCompiler$Sum;I)LConstraintCompiler$Sum;"⟩, 10) := ⟨⟨by decide +kernel, by decide +kernel⟩, List.mem_of_getElem? (i := 25) (by decide +kernel), List.mem_of_getElem? (i := 414) (by decide +kernel), List.mem_of_getElem? (i := 415) (by decide +kernel)⟩
theorem lw_p20 : lw_okq (⟨"ConstraintCompiler", "fillDraft", "()Z"⟩, 10) := ⟨⟨by decide +kernel, by decide +kernel⟩, List.mem_of_getElem? (i := 25) (by decide +kernel), List.mem_of_getElem? (i := 477) (by decide +kernel), List.mem_of_getElem? (i := 478) (by decide +kernel)⟩
theorem lw_p21 : lw_okq (⟨"ConstraintCompiler", "howManyBroken", "()I"⟩, 10) := ⟨⟨by decide +kernel, by decide +kernel⟩, List.mem_of_getElem? (i := 25) (by decide +kernel), List.mem_of_getElem? (i := 508) (by decide +kernel), List.mem_of_getElem? (i := 509) (by decide +kernel)⟩
theorem lw_p22 : lw_okq (⟨"ConstraintCompiler", "hasWitness", "()Z"⟩, 10) := ⟨⟨by decide +kernel, by decide +kernel⟩, List.mem_of_getElem? (i := 25) (by decide +kernel), List.mem_of_getElem? (i := 525) (by decide +kernel), List.mem_of_getElem? (i := 526) (by decide +kernel)⟩
theorem lw_p23 : lw_okq (⟨"ConstraintCompilerModel", "fits", "(IIII)Z"⟩, 19) := ⟨⟨by decide +kernel, by decide +kernel⟩, List.mem_of_getElem? (i := 595) (by decide +kernel), List.mem_of_getElem? (i := 667) (by decide +kernel), List.mem_of_getElem? (i := 668) (by decide +kernel)⟩
theorem lw_p24 : lw_okq (⟨"ConstraintCompilerModel", "made", "(I)Z"⟩, 19) := ⟨⟨by decide +kernel, by decide +kernel⟩, List.mem_of_getElem? (i := 595) (by decide +kernel), List.mem_of_getElem? (i := 674) (by decide +kernel), List.mem_of_getElem? (i := 675) (by decide +kernel)⟩
theorem lw_p25 : lw_okq (⟨"ConstraintCompilerModel", "raise", "(I)I"⟩, 19) := ⟨⟨by decide +kernel, by decide +kernel⟩, List.mem_of_getElem? (i := 595) (by decide +kernel), List.mem_of_getElem? (i := 678) (by decide +kernel), List.mem_of_getElem? (i := 679) (by decide +kernel)⟩
theorem lw_p26 : lw_okq (⟨"ConstraintCompilerModel", "needs", "(IIII)I"⟩, 19) := ⟨⟨by decide +kernel, by decide +kernel⟩, List.mem_of_getElem? (i := 595) (by decide +kernel), List.mem_of_getElem? (i := 682) (by decide +kernel), List.mem_of_getElem? (i := 683) (by decide +kernel)⟩
theorem lw_p27 : lw_okq (⟨"ConstraintCompilerModel", "isConstant", "(I)Z"⟩, 19) := ⟨⟨by decide +kernel, by decide +kernel⟩, List.mem_of_getElem? (i := 595) (by decide +kernel), List.mem_of_getElem? (i := 686) (by decide +kernel), List.mem_of_getElem? (i := 687) (by decide +kernel)⟩
theorem lw_p28 : lw_okq (⟨"ConstraintCompilerModel", "plainEither", "(III)Z"⟩, 19) := ⟨⟨by decide +kernel, by decide +kernel⟩, List.mem_of_getElem? (i := 595) (by decide +kernel), List.mem_of_getElem? (i := 690) (by decide +kernel), List.mem_of_getElem? (i := 691) (by decide +kernel)⟩
theorem lw_p29 : lw_okq (⟨"ConstraintCompilerModel", "add", "([III)V"⟩, 19) := ⟨⟨by decide +kernel, by decide +kernel⟩, List.mem_of_getElem? (i := 595) (by decide +kernel), List.mem_of_getElem? (i := 700) (by decide +kernel), List.mem_of_getElem? (i := 701) (by decide +kernel)⟩
theorem lw_p30 : lw_okq (⟨"ConstraintCompilerModel", "work", "(IIII)V"⟩, 19) := ⟨⟨by decide +kernel, by decide +kernel⟩, List.mem_of_getElem? (i := 595) (by decide +kernel), List.mem_of_getElem? (i := 707) (by decide +kernel), List.mem_of_getElem? (i := 708) (by decide +kernel)⟩
theorem lw_p31 : lw_okq (⟨"ConstraintCompilerModel", "variable", "(II)I"⟩, 19) := ⟨⟨by decide +kernel, by decide +kernel⟩, List.mem_of_getElem? (i := 595) (by decide +kernel), List.mem_of_getElem? (i := 711) (by decide +kernel), List.mem_of_getElem? (i := 712) (by decide +kernel)⟩
def lw_privs_2 : List (MethodName × Nat) := [(⟨"ConstraintCompiler", "addConstraint", "(LConstraintCompiler$Sum;LConstraintCompiler$Sum;LConstraintCompiler$Sum;)V"⟩, 10), (⟨"ConstraintCompiler", "makeShare", "(LConstraintCompiler$Sum;LConstraintCompiler$Sum;)LConstraintCompiler$Sum;"⟩, 10), (⟨"ConstraintCompiler", "makeSame", "(LConstraintCompiler$Sum;)LConstraintCompiler$Sum;"⟩, 10), (⟨"ConstraintCompiler", "makePower", "(LConstraintCompiler$Sum;I)LConstraintCompiler$Sum;"⟩, 10), (⟨"ConstraintCompiler", "fillDraft", "()Z"⟩, 10), (⟨"ConstraintCompiler", "howManyBroken", "()I"⟩, 10), (⟨"ConstraintCompiler", "hasWitness", "()Z"⟩, 10), (⟨"ConstraintCompilerModel", "fits", "(IIII)Z"⟩, 19), (⟨"ConstraintCompilerModel", "made", "(I)Z"⟩, 19), (⟨"ConstraintCompilerModel", "raise", "(I)I"⟩, 19), (⟨"ConstraintCompilerModel", "needs", "(IIII)I"⟩, 19), (⟨"ConstraintCompilerModel", "isConstant", "(I)Z"⟩, 19), (⟨"ConstraintCompilerModel", "plainEither", "(III)Z"⟩, 19), (⟨"ConstraintCompilerModel", "add", "([III)V"⟩, 19), (⟨"ConstraintCompilerModel", "work", "(IIII)V"⟩, 19), (⟨"ConstraintCompilerModel", "variable", "(II)I"⟩, 19)]
theorem lw_r2 : ∀ q ∈ lw_privs_2, lw_okq q := List.forall_mem_cons.mpr ⟨lw_p16, List.forall_mem_cons.mpr ⟨lw_p17, List.forall_mem_cons.mpr ⟨lw_p18, List.forall_mem_cons.mpr ⟨lw_p19, List.forall_mem_cons.mpr ⟨lw_p20, List.forall_mem_cons.mpr ⟨lw_p21, List.forall_mem_cons.mpr ⟨lw_p22, List.forall_mem_cons.mpr ⟨lw_p23, List.forall_mem_cons.mpr ⟨lw_p24, List.forall_mem_cons.mpr ⟨lw_p25, List.forall_mem_cons.mpr ⟨lw_p26, List.forall_mem_cons.mpr ⟨lw_p27, List.forall_mem_cons.mpr ⟨lw_p28, List.forall_mem_cons.mpr ⟨lw_p29, List.forall_mem_cons.mpr ⟨lw_p30, List.forall_mem_cons.mpr ⟨lw_p31, fun _ h => absurd h List.not_mem_nil⟩⟩⟩⟩⟩⟩⟩⟩⟩⟩⟩⟩⟩⟩⟩⟩
theorem lw_p32 : lw_okq (⟨"ConstraintCompilerModel", "fetch", "([II)V"⟩, 19) := ⟨⟨by decide +kernel, by decide +kernel⟩, List.mem_of_getElem? (i := 595) (by decide +kernel), List.mem_of_getElem? (i := 718) (by decide +kernel), List.mem_of_getElem? (i := 719) (by decide +kernel)⟩
theorem lw_p33 : lw_okq (⟨"ConstraintCompilerModel", "multiply", "()V"⟩, 19) := ⟨⟨by decide +kernel, by decide +kernel⟩, List.mem_of_getElem? (i := 595) (by decide +kernel), List.mem_of_getElem? (i := 722) (by decide +kernel), List.mem_of_getElem? (i := 723) (by decide +kernel)⟩
theorem lw_p34 : lw_okq (⟨"ConstraintCompilerModel", "keep", "(II[I)V"⟩, 19) := ⟨⟨by decide +kernel, by decide +kernel⟩, List.mem_of_getElem? (i := 595) (by decide +kernel), List.mem_of_getElem? (i := 726) (by decide +kernel), List.mem_of_getElem? (i := 727) (by decide +kernel)⟩
theorem lw_p35 : lw_okq (⟨"ConstraintCompilerModel", "share", "(II)V"⟩, 19) := ⟨⟨by decide +kernel, by decide +kernel⟩, List.mem_of_getElem? (i := 595) (by decide +kernel), List.mem_of_getElem? (i := 730) (by decide +kernel), List.mem_of_getElem? (i := 731) (by decide +kernel)⟩
theorem lw_p36 : lw_okq (⟨"ConstraintCompilerModel", "same", "(II)V"⟩, 19) := ⟨⟨by decide +kernel, by decide +kernel⟩, List.mem_of_getElem? (i := 595) (by decide +kernel), List.mem_of_getElem? (i := 734) (by decide +kernel), List.mem_of_getElem? (i := 735) (by decide +kernel)⟩
theorem lw_p37 : lw_okq (⟨"ConstraintCompilerModel", "valueOf", "(II[I)I"⟩, 19) := ⟨⟨by decide +kernel, by decide +kernel⟩, List.mem_of_getElem? (i := 595) (by decide +kernel), List.mem_of_getElem? (i := 750) (by decide +kernel), List.mem_of_getElem? (i := 751) (by decide +kernel)⟩
theorem lw_p38 : lw_okq (⟨"ConstraintCompilerModel", "bad", "()I"⟩, 19) := ⟨⟨by decide +kernel, by decide +kernel⟩, List.mem_of_getElem? (i := 595) (by decide +kernel), List.mem_of_getElem? (i := 757) (by decide +kernel), List.mem_of_getElem? (i := 758) (by decide +kernel)⟩
theorem lw_p39 : lw_okq (⟨"ConstraintCompilerModel", "holds", "(I[I)Z"⟩, 19) := ⟨⟨by decide +kernel, by decide +kernel⟩, List.mem_of_getElem? (i := 595) (by decide +kernel), List.mem_of_getElem? (i := 761) (by decide +kernel), List.mem_of_getElem? (i := 762) (by decide +kernel)⟩
def lw_privs_3 : List (MethodName × Nat) := [(⟨"ConstraintCompilerModel", "fetch", "([II)V"⟩, 19), (⟨"ConstraintCompilerModel", "multiply", "()V"⟩, 19), (⟨"ConstraintCompilerModel", "keep", "(II[I)V"⟩, 19), (⟨"ConstraintCompilerModel", "share", "(II)V"⟩, 19), (⟨"ConstraintCompilerModel", "same", "(II)V"⟩, 19), (⟨"ConstraintCompilerModel", "valueOf", "(II[I)I"⟩, 19), (⟨"ConstraintCompilerModel", "bad", "()I"⟩, 19), (⟨"ConstraintCompilerModel", "holds", "(I[I)Z"⟩, 19)]
theorem lw_r3 : ∀ q ∈ lw_privs_3, lw_okq q := List.forall_mem_cons.mpr ⟨lw_p32, List.forall_mem_cons.mpr ⟨lw_p33, List.forall_mem_cons.mpr ⟨lw_p34, List.forall_mem_cons.mpr ⟨lw_p35, List.forall_mem_cons.mpr ⟨lw_p36, List.forall_mem_cons.mpr ⟨lw_p37, List.forall_mem_cons.mpr ⟨lw_p38, List.forall_mem_cons.mpr ⟨lw_p39, fun _ h => absurd h List.not_mem_nil⟩⟩⟩⟩⟩⟩⟩⟩
def lw_privs : List (MethodName × Nat) := lw_privs_1 ++ (lw_privs_2 ++ (lw_privs_3))
def lw_tbl : List Cond := k2_sels lw_privs ++ tables_1
theorem lw_privs_ok : ∀ q ∈ lw_privs, lw_okq q := by
  show ∀ q ∈ lw_privs_1 ++ (lw_privs_2 ++ (lw_privs_3)), lw_okq q
  exact List.forall_mem_append.mpr ⟨lw_r1, List.forall_mem_append.mpr ⟨lw_r2, lw_r3⟩⟩
end
section
/-! ===== BEGIN words of one list among another's, by their places ===== -/
theorem goodIn_r {big : List Cond} (ws : List Cond) (ps : List Nat) (hp : ws = ps.filterMap (fun i => big[i]?)) (h : ws.all goodWord = true) : GoodIn big ws := by
  intro w hw
  have h1 := List.all_eq_true.mp h w hw
  rw [hp] at hw
  obtain ⟨i, -, hi⟩ := List.mem_filterMap.mp hw
  have hm : w ∈ big := by first | exact List.mem_of_getElem? hi | exact List.getElem?_mem hi
  exact ⟨hm, good_of_word h1⟩
theorem goodIn_app {big a b : List Cond} (ha : GoodIn big a) (hb : GoodIn big b) : GoodIn big (a ++ b) := fun w h => (List.mem_append.mp h).elim (ha w) (hb w)
theorem goodIn_ca {big a b : List Cond} {c : Cond} (ha : GoodIn big (c :: a)) (hb : GoodIn big b) : GoodIn big (c :: (a ++ b)) := fun w h => (List.mem_cons.mp h).elim (fun e => ha w (List.mem_cons.mpr (Or.inl e))) (fun h => (List.mem_append.mp h).elim (fun h => ha w (List.mem_cons.mpr (Or.inr h))) (hb w))
theorem goodIn_sub {big ws : List Cond} (hm : ∀ w ∈ ws, w ∈ big) (h : ws.all goodWord = true) : GoodIn big ws := fun w hw => ⟨hm w hw, good_of_word (List.all_eq_true.mp h w hw)⟩
/-! ===== END ===== -/

/-! ===== BEGIN exceptions that leave a method, and their catching by the caller (launches without stack traces) ===== -/
section VXA
/-! The laws vx_back, vx_callV, vx_callS, vx_callSW, vx_throw0, vx_throwS follow proofs of the library, with one case more: JvmDerived/Free/Laws.lean (Back.of_free), Shelf42/LK1.lean (callV, callS), Shelf/KitTraced.lean (throwNew0V, throwNewS). -/
/-- where a method has thrown q: the class by its name, the cell, what was written, the world -/
def vx_T (XC : String → State → State → Prop) (st : State) (q : Addr) (t : State) (mc ms : Nat) (free : Addr → Prop) : Prop :=
  ∃ (E : String) (ce : Cell) (L : List Loc), XC E st t ∧ t.heap[q]? = some ce ∧ ce.vm = .none ∧ st.vm.findClass E = some ce.cls ∧ st.WarmedH t.vm ∧ st.sameButNew ({ t with vm := st.vm } : State) L mc ms ∧ ∀ z ∈ L, free z.base
def vx_Q (Qc : Array Value → State → Outcome → State → Prop) (XC : String → State → State → Prop) (mc ms : Nat) (free : Addr → Prop) : Array Value → State → Outcome → State → Prop := fun a st o t =>
  (Qc a st o t ∧ ∃ L, FrameEnd st o t L mc ms ∧ ∀ q ∈ L, free q.base) ∨ ∃ q, o = .threw q ∧ vx_T XC st q t mc ms free
/-- a callee that returns or throws -/
def vx_Met (l : Launch) (y : MethodName) (ws : List Cond) (rm : Room) (Pc : Array Value → State → Prop) (Qc : Array Value → State → Outcome → State → Prop) (XC : String → State → State → Prop) (mc ms : Nat) (free : Addr → Prop) : Prop :=
  MetFree l y (headSpec ws rm) Pc (fun _ _ _ _ _ => True) (vx_Q Qc XC mc ms free)
def vx_Post (XC : String → State → State → Prop) (mc ms : Nat) (free : Addr → Prop) : Pt → Array Value → Addr → Pt → Prop := fun A a q B =>
  ∃ (g : JFrame) (mk : MethodId) (t : State) (L : List Loc) (E : String) (ce : Cell), B.U.heap = t.heap ∧ B.U.vm = t.vm ∧ XC E (A.U.calling g mk a) t ∧ t.heap[q]? = some ce ∧ ce.vm = .none ∧ A.U.vm.findClass E = some ce.cls ∧ B.locs = A.locs ++ L ∧ (∀ z ∈ L, free z.base) ∧ B.cells = A.cells + mc ∧ B.slots = A.slots + ms
def vx_Back (l : Launch) (R : Room) (p : Program) (e : Env) (below : List Frame) (s : State) (sargs : Array Value) (y : MethodName) (len W9 : Nat)
    (Pre : Pt → Array Value → Prop) (Post : Pt → Array Value → Option Value → Pt → Prop) (PostX : Pt → Array Value → Addr → Pt → Prop) : Prop :=
  ∀ (m : MethodId) (meth : Method) (c : Code) (A : Pt) (g : JFrame) (ig : Instr) (mk : MethodId) (a : Array Value),
    Stand p l e R s m sargs below meth c A.U A.locs A.cells A.slots → g.method = m → g.locals.size = c.maxLocals → decode c.code g.pc = .ok (ig, len) →
    2 * g.monitorRoom + (g.stack.map fun v => v.category).sum ≤ W9 → A.U.methodNamed? y = some mk → Pre A a →
    (∃ (v : Option Value) (B : Pt), Stand p l e R s m sargs below meth c B.U B.locs B.cells B.slots ∧ Post A a v B ∧
      Steps p.tables e below (doInvoke e (A.U.setTop g) [] mk a).1 (B.U.setTop { g with pc := g.pc + len, stack := v.toList ++ g.stack })) ∨
    (∃ (q : Addr) (B : Pt), Stand p l e R s m sargs below meth c B.U B.locs B.cells B.slots ∧ PostX A a q B ∧
      Steps p.tables e below (doInvoke e (A.U.setTop g) [] mk a).1 ((B.U.setTop g).pushFrame (.throwing q)))
section Payer
variable {l : Launch} {R : Room} {p : Program} {e : Env} {below : List Frame} {s : State} {sargs : Array Value} {y : MethodName} {len W9 : Nat}
theorem vx_back {ws : List Cond} {rm : Room} {Pc : Array Value → State → Prop} {Qc : Array Value → State → Outcome → State → Prop} {XC : String → State → State → Prop} {mc ms : Nat} {free : Addr → Prop} {bytes : ByteArray} {maxL : Nat} {ret : Option FieldType}
    (hM : vx_Met l y ws rm Pc Qc XC mc ms free) (hblind : FrameBlind Pc) (hrc : rm.cells = mc) (hrs : rm.slots = ms)
    (hframes : rm.frames + 1 ≤ R.frames) (hlocals : W9 + (maxL + 11) + rm.locals ≤ R.locals)
    (hws : ∀ w ∈ ws, ∀ a' U, s.WarmedH U.vm → w.before a' U = true) (hcode : Cond.code y bytes maxL ret ∈ ws) (hinit : ∀ a' U, s.WarmedH U.vm → (Cond.initialized y.cls).before a' U = true) :
    vx_Back l R p e below s sargs y len W9 (PreOf R mc ms Pc) (PostOf Qc mc ms free) (vx_Post XC mc ms free) := by
  intro m meth c A g ig mk a X hg hsize hdg hW hn hp
  have h1 : (headSpec ws rm).pre.before a A.U = true := atoms_intro fun w hw => hws w hw _ _ X.warmed
  have h2 : (Cond.code y bytes maxL ret).before a A.U = true := hws _ hcode _ _ X.warmed
  have h3 : (Cond.initialized y.cls).before a A.U = true := hinit _ _ X.warmed
  have h4 : A.cells + (headSpec ws rm).room.cells ≤ R.cells := by rw [show (headSpec ws rm).room.cells = mc from hrc]; exact hp.1
  have h5 : A.slots + (headSpec ws rm).room.slots ≤ R.slots := by rw [show (headSpec ws rm).room.slots = ms from hrs]; exact hp.2.1
  have hPc : Pc a (A.U.calling g mk a) := hblind _ _ _ _ hp.2.2
  obtain ⟨U, Ls, c0, s0⟩ := A
  dsimp only [Pt.U, Pt.locs, Pt.cells, Pt.slots] at h1 h2 h3 h4 h5 X hn hPc ⊢
  obtain ⟨methY, cY, hmY, hcY, -, hlY, -, -, -, -⟩ := Cond.code_spec hn h2
  obtain ⟨kY, hkY, -⟩ := className_of_methodNamed hn
  have hinitY : kY.init = .initialized := Cond.initialized_spec (findClass_of_methodNamed hn) hkY h3
  have h : At U g.method c below := by rw [hg]; exact X.here
  have hlocals9 : W9 + (maxL + 11) + (headSpec ws rm).room.locals ≤ R.locals := hlocals
  have happ : (headSpec ws rm).appliesLoose y e.platform (U.calling g mk a) = true :=
    Spec.appliesLoose_calling (g := g) h hdg hn hkY hinitY
      (X.room_calling (g := g) (R' := (headSpec ws rm).room) hsize hmY hcY hframes (by rw [hlY]; omega) h4 h5) h1
  obtain ⟨mid, hmid⟩ := h.above
  have hfr : (U.setTop g).frames = (.java g :: mid) ++ below := by rw [State.frames_setTop' g h.top, hmid]; rfl
  obtain ⟨o, s₂, hsteps, -, hend, hq⟩ := Steps.callFree hM p X.admits X.cas X.clock (acts := []) hfr happ hPc trivial
  have hq' : vx_Q Qc XC mc ms free a (U.calling g mk a) o s₂ := hq
  rw [State.frames_setTop' g h.top] at hend
  obtain ⟨g₀, hg0⟩ := Option.isSome_iff_exists.mp h.top
  obtain ⟨r, hr⟩ := State.topJava?_eq_some.mp hg0
  have hr' : (({ U with heap := s₂.heap, slotsUsed := s₂.slotsUsed } : State).setVm s₂.vm).frames = .java g₀ :: r := hr
  rcases hq' with ⟨hqc, L, hfe, hL⟩ | ⟨q, rfl, E, ce, L, hx, hce, hcv, hcl, hW₂, hsm, hL⟩
  · obtain ⟨⟨v, rfl⟩, hW₂, e2, q2, q3, q4, q5, q6⟩ := id hfe
    have e3 : s₂ = ({ (U.calling g mk a).setFrames s₂.frames with heap := s₂.heap, slotsUsed := s₂.slotsUsed } : State).setVm s₂.vm := by
      have : s₂ = ({ s₂ with vm := (U.calling g mk a).vm } : State).setVm s₂.vm := rfl
      rw [e2] at this
      exact this
    obtain ⟨c₂, i₂, len₂, hc₂, hd₂, hf₂⟩ := hend
    have hW' : U.WarmedH s₂.vm := hW₂
    have hcc : c₂ = c := by
      have h1 : s₂.code? g.method = U.code? g.method := by
        rw [State.code?_eq, State.code?_eq, hW'.alike.method?]
      exact Option.some.inj (hc₂.symm.trans (h1.trans h.code))
    subst hcc
    have hlen : len₂ = len := by rw [hdg] at hd₂; cases hd₂; rfl
    subst hlen
    have hs₂ : s₂ = (({ U with heap := s₂.heap, slotsUsed := s₂.slotsUsed } : State).setVm s₂.vm).setTop { g with pc := g.pc + len₂, stack := v.toList ++ g.stack } := by
      refine e3.trans ?_
      rw [hf₂, State.calling_eq h.top, State.setFrames_setFrames, State.setTop_of_frames _ hr', hr]
      rfl
    have hsame : U.sameButNew ({ U with heap := s₂.heap, slotsUsed := s₂.slotsUsed } : State) L mc ms := by
      refine ⟨?_, q2, q3, q4, q5, q6⟩
      obtain ⟨t, ht, -⟩ := State.frames_cons hr
      show ({ U with heap := s₂.heap, slotsUsed := s₂.slotsUsed } : State) = { U.setFrames U.frames with heap := s₂.heap, slotsUsed := s₂.slotsUsed }
      rw [State.setFrames_self ht]
    subst hg
    refine Or.inl ⟨v, ⟨(({ U with heap := s₂.heap, slotsUsed := s₂.slotsUsed } : State).setVm s₂.vm), Ls ++ L, c0 + mc, s0 + ms⟩,
      ⟨X.admits, X.cas, X.clock, X.frames, X.room, X.hears, X.method, X.code, (X.here.setHeapUsed s₂.heap s₂.slotsUsed).setVm hW'.alike, X.tail, State.WarmedH.trans X.warmed hW', X.limits, X.bytes, X.same.trans (hsame.setVm s.vm)⟩,
      ⟨g, mk, s₂, L, rfl, rfl, hqc, rfl, hL, rfl, rfl⟩, ?_⟩
    show Steps p.tables e below _ ((({ U with heap := s₂.heap, slotsUsed := s₂.slotsUsed } : State).setVm s₂.vm).setTop { g with pc := g.pc + len₂, stack := v.toList ++ g.stack })
    rw [← hs₂]
    exact hsteps
  · obtain ⟨e2, q2, q3, q4, q5, q6⟩ := id hsm
    have e3 : s₂ = ({ (U.calling g mk a).setFrames s₂.frames with heap := s₂.heap, slotsUsed := s₂.slotsUsed } : State).setVm s₂.vm := by
      have : s₂ = ({ s₂ with vm := (U.calling g mk a).vm } : State).setVm s₂.vm := rfl
      rw [e2] at this
      exact this
    have hf₂ : s₂.frames = .throwing q :: .java g :: U.frames.tail := hend
    have hW' : U.WarmedH s₂.vm := hW₂
    have hs₂ : s₂ = ((({ U with heap := s₂.heap, slotsUsed := s₂.slotsUsed } : State).setVm s₂.vm).setTop g).pushFrame (.throwing q) := by
      refine e3.trans ?_
      rw [hf₂, State.calling_eq h.top, State.setFrames_setFrames, State.pushFrame, State.frames_setTop _ hr', State.setTop_of_frames _ hr', State.setFrames_setFrames, hr]
      rfl
    have hsame : U.sameButNew ({ U with heap := s₂.heap, slotsUsed := s₂.slotsUsed } : State) L mc ms := by
      refine ⟨?_, q2, q3, q4, q5, q6⟩
      obtain ⟨t, ht, -⟩ := State.frames_cons hr
      show ({ U with heap := s₂.heap, slotsUsed := s₂.slotsUsed } : State) = { U.setFrames U.frames with heap := s₂.heap, slotsUsed := s₂.slotsUsed }
      rw [State.setFrames_self ht]
    subst hg
    refine Or.inr ⟨q, ⟨(({ U with heap := s₂.heap, slotsUsed := s₂.slotsUsed } : State).setVm s₂.vm), Ls ++ L, c0 + mc, s0 + ms⟩,
      ⟨X.admits, X.cas, X.clock, X.frames, X.room, X.hears, X.method, X.code, (X.here.setHeapUsed s₂.heap s₂.slotsUsed).setVm hW'.alike, X.tail, State.WarmedH.trans X.warmed hW', X.limits, X.bytes, X.same.trans (hsame.setVm s.vm)⟩,
      ⟨g, mk, s₂, L, E, ce, rfl, rfl, hx, hce, hcv, hcl, rfl, hL, rfl, rfl⟩, ?_⟩
    show Steps p.tables e below _ (((({ U with heap := s₂.heap, slotsUsed := s₂.slotsUsed } : State).setVm s₂.vm).setTop g).pushFrame (.throwing q))
    rw [← hs₂]
    exact hsteps
end Payer
section Calls
variable {p : Program} {l : Launch} {e : Env} {R : Room} {s : State} {m : MethodId} {args : Array Value} {below : List Frame} {meth : Method} {c : Code} {T : State} {locs : List Loc} {cells slots : Nat}
theorem vx_callV (X : Stand p l e R s m args below meth c T locs cells slots) (hexec : p.tables.exec = Jvm.exec) {own C : String} {index : Nat} {y : MethodName} {bytes : ByteArray} {maxL : Nat} {ret : Option FieldType}
    (hown : s.vm.findClass own = some m.cls) (hlink : (Cond.methodLink own index y).before args s = true) (hinst : (Cond.instanceMethod y).before args s = true) (hsel : (Cond.selects C y y).before args s = true)
    (hcode : (Cond.code y bytes maxL ret).before args s = true) (hy : y.cls ≠ "java/lang/invoke/MethodHandle" ∧ y.cls ≠ "java/lang/invoke/VarHandle")
    {W9 : Nat} {Pre : Pt → Array Value → Prop} {Post : Pt → Array Value → Option Value → Pt → Prop} {PostX : Pt → Array Value → Addr → Pt → Prop} (hK : vx_Back l R p e below s args y 3 W9 Pre Post PostX)
    {b : Addr} {cellB : Cell} (hcell : T.heap[b]? = some cellB) (hobj : cellB.vm.isStatics = false) (hcls : s.vm.findClass C = some cellB.cls)
    {g : JFrame} (hg : g.method = m) (hsize : g.locals.size = c.maxLocals) {argsL rest : List Value} (hlen : ∀ sig, parseMethodDescriptor y.desc = some sig → argsL.length = sig.parameters.length)
    (hstack : g.stack = argsL.reverse ++ .ref b :: rest) (hW : 2 * g.monitorRoom + (rest.map fun v => v.category).sum ≤ W9) (hdg : decode c.code g.pc = .ok (.invokevirtual index, 3))
    (hpre : ∀ vm₁, s.WarmedH vm₁ → Pre ⟨T.setVm vm₁, locs, cells, slots⟩ (Value.ref b :: argsL).toArray) :
    (∃ (v : Option Value) (vm₁ : Vm) (B : Pt), s.WarmedH vm₁ ∧ Stand p l e R s m args below meth c B.U B.locs B.cells B.slots ∧ Post ⟨T.setVm vm₁, locs, cells, slots⟩ (Value.ref b :: argsL).toArray v B ∧
      ∀ target, Steps p.tables e below (B.U.setTop { g with pc := g.pc + 3, stack := v.toList ++ rest }) target → Steps p.tables e below (T.setTop g) target) ∨
    (∃ (q : Addr) (vm₁ : Vm) (B : Pt), s.WarmedH vm₁ ∧ Stand p l e R s m args below meth c B.U B.locs B.cells B.slots ∧ PostX ⟨T.setVm vm₁, locs, cells, slots⟩ (Value.ref b :: argsL).toArray q B ∧
      Steps p.tables e below (T.setTop g) ((B.U.setTop { g with stack := rest }).pushFrame (.throwing q))) := by
  obtain ⟨mk, methM, hnamed, hmethM, hstM, habM⟩ := Cond.instanceMethod_spec hinst
  obtain ⟨methM', cM, hmethM', -, -, -, -, -, -, hsigM⟩ := Cond.code_spec hnamed hcode
  cases hmethM.symm.trans hmethM'
  obtain ⟨c2, r2, m2, q1, q2, q3, q4, kP, hkP, hkPi⟩ := Cond.selects_spec hsel
  cases hcls.symm.trans q1
  cases (State.methodFound?_of_named hnamed hy).symm.trans q2
  cases hnamed.symm.trans q3
  have hselP : selectMethod e.platform s.vm cellB.cls mk = .method mk := by rw [Launch.admits_selectMethod X.admits]; exact q4
  obtain ⟨vm₁, X₁, hstep₁⟩ := X.invokevirtual hexec hown hlink hnamed hmethM hstM hkP hkPi hy (a := b) (cell := cellB) hcell
    (fun z h => by rw [h] at hobj; cases hobj) hselP hmethM habM hkP hkPi (g := g) hg (argsL := argsL) (rest := rest) (hlen _ hsigM) hstack hdg
  rcases hK m meth c ⟨T.setVm vm₁, locs, cells, slots⟩ { g with stack := rest } (.invokevirtual index) mk (Value.ref b :: argsL).toArray X₁ hg hsize hdg hW (X₁.named hnamed) (hpre vm₁ X₁.warmed) with ⟨v, B, X', hpost, hsteps⟩ | ⟨q, B, X', hpost, hsteps⟩
  · exact Or.inl ⟨v, vm₁, B, X₁.warmed, X', hpost, fun target h => hstep₁ _ fun acts => by rw [doInvoke_state]; exact hsteps.trans h⟩
  · exact Or.inr ⟨q, vm₁, B, X₁.warmed, X', hpost, hstep₁ _ fun acts => by rw [doInvoke_state]; exact hsteps⟩
theorem vx_callS (X : Stand p l e R s m args below meth c T locs cells slots) (hexec : p.tables.exec = Jvm.exec) {own : String} {index : Nat} {y : MethodName} {bytes : ByteArray} {maxL : Nat} {ret : Option FieldType}
    (hown : s.vm.findClass own = some m.cls) (hlink : (Cond.methodLink own index y).before args s = true) (hstat : (Cond.static y).before args s = true) (hinit : (Cond.initialized y.cls).before args s = true)
    (hcode : (Cond.code y bytes maxL ret).before args s = true) (hy : y.cls ≠ "java/lang/invoke/MethodHandle" ∧ y.cls ≠ "java/lang/invoke/VarHandle")
    {W9 : Nat} {Pre : Pt → Array Value → Prop} {Post : Pt → Array Value → Option Value → Pt → Prop} {PostX : Pt → Array Value → Addr → Pt → Prop} (hK : vx_Back l R p e below s args y 3 W9 Pre Post PostX)
    {g : JFrame} (hg : g.method = m) (hsize : g.locals.size = c.maxLocals) {argsL rest : List Value} (hlen : ∀ sig, parseMethodDescriptor y.desc = some sig → argsL.length = sig.parameters.length)
    (hstack : g.stack = argsL.reverse ++ rest) (hW : 2 * g.monitorRoom + (rest.map fun v => v.category).sum ≤ W9) (hdg : decode c.code g.pc = .ok (.invokestatic index, 3))
    (hpre : ∀ vm₁, s.WarmedH vm₁ → Pre ⟨T.setVm vm₁, locs, cells, slots⟩ argsL.toArray) :
    (∃ (v : Option Value) (vm₁ : Vm) (B : Pt), s.WarmedH vm₁ ∧ Stand p l e R s m args below meth c B.U B.locs B.cells B.slots ∧ Post ⟨T.setVm vm₁, locs, cells, slots⟩ argsL.toArray v B ∧
      ∀ target, Steps p.tables e below (B.U.setTop { g with pc := g.pc + 3, stack := v.toList ++ rest }) target → Steps p.tables e below (T.setTop g) target) ∨
    (∃ (q : Addr) (vm₁ : Vm) (B : Pt), s.WarmedH vm₁ ∧ Stand p l e R s m args below meth c B.U B.locs B.cells B.slots ∧ PostX ⟨T.setVm vm₁, locs, cells, slots⟩ argsL.toArray q B ∧
      Steps p.tables e below (T.setTop g) ((B.U.setTop { g with stack := rest }).pushFrame (.throwing q))) := by
  obtain ⟨mk, hnamed⟩ := Cond.code_named hcode
  obtain ⟨methM, cM, hmethM, -, -, -, -, -, -, hsigM⟩ := Cond.code_spec hnamed hcode
  have hstatic : methM.isStatic = true := Cond.static_spec hnamed hmethM hstat
  obtain ⟨kP, hkP, -⟩ := className_of_methodNamed hnamed
  have hinitP : kP.init = .initialized := Cond.initialized_spec (findClass_of_methodNamed hnamed) hkP hinit
  obtain ⟨vm₁, X₁, hstep₁⟩ := X.invokestatic hexec hown hlink hnamed hmethM hstatic hkP hinitP hy (g := g) hg (argsL := argsL) (rest := rest) (hlen _ hsigM) hstack hdg
  rcases hK m meth c ⟨T.setVm vm₁, locs, cells, slots⟩ { g with stack := rest } (.invokestatic index) mk argsL.toArray X₁ hg hsize hdg hW (X₁.named hnamed) (hpre vm₁ X₁.warmed) with ⟨v, B, X', hpost, hsteps⟩ | ⟨q, B, X', hpost, hsteps⟩
  · exact Or.inl ⟨v, vm₁, B, X₁.warmed, X', hpost, fun target h => hstep₁ _ fun acts => by rw [doInvoke_state]; exact hsteps.trans h⟩
  · exact Or.inr ⟨q, vm₁, B, X₁.warmed, X', hpost, hstep₁ _ fun acts => by rw [doInvoke_state]; exact hsteps⟩
end Calls
theorem vx_cls {s : State} {T : State} {vm₁ : Vm} {E : String} {k : ClassId} (hW : s.WarmedH vm₁) (h : (T.setVm vm₁).vm.findClass E = some k) : s.vm.findClass E = some k := by
  have h1 : vm₁.findClass E = some k := h
  rw [hW.alike.findClass] at h1
  exact h1
/-- the method's frame g, with q thrown over it -/
def vx_W (p : Program) (l : Launch) (e : Env) (R : Room) (s : State) (m : MethodId) (args : Array Value) (below : List Frame) (meth : Method) (c : Code) (H : Heap) (locs : List Loc) (cells slots : Nat) (Q : State → Prop) (g : JFrame) (q : Addr) : Prop :=
  ∀ T : State, T.heap = H → Stand p l e R s m args below meth c T locs cells slots → ∃ t, Steps p.tables e below ((T.setTop g).pushFrame (.throwing q)) t ∧ Q t
def vx_Run (p : Program) (l : Launch) (e : Env) (R : Room) (s : State) (m : MethodId) (args : Array Value) (below : List Frame) (meth : Method) (c : Code) (H : Heap) (locs : List Loc) (cells slots mc ms : Nat) (g : JFrame) (rest : List Value) (Qa : State → Outcome → State → Prop) (XC : String → State → State → Prop) (free : Addr → Prop) : Prop :=
  ∀ T : State, T.heap = H → Stand p l e R s m args below meth c T locs cells slots →
    (∃ (v : Option Value) (st₀ t T' : State) (L : List Loc), st₀.heap = H ∧ Stand p l e R s m args below meth c T' (locs ++ L) (cells + mc) (slots + ms) ∧ (∀ q ∈ L, free q.base) ∧ T'.heap = t.heap ∧ T'.vm = t.vm ∧ Qa st₀ (.returned v) t ∧
      Goes p e below T g T' { g with pc := g.pc + 3, stack := v.toList ++ rest }) ∨
    (∃ (q : Addr) (st₀ t T' : State) (L : List Loc) (E : String) (ce : Cell), st₀.heap = H ∧ Stand p l e R s m args below meth c T' (locs ++ L) (cells + mc) (slots + ms) ∧ (∀ z ∈ L, free z.base) ∧ T'.heap = t.heap ∧ T'.vm = t.vm ∧ XC E st₀ t ∧ t.heap[q]? = some ce ∧ ce.vm = .none ∧ s.vm.findClass E = some ce.cls ∧
      Steps p.tables e below (T.setTop g) ((T'.setTop { g with stack := rest }).pushFrame (.throwing q)))
def vx_X {S : Type} (px : S → Prop) (B : String → S → State → Prop) (A : Nat → Prop) : String → State → State → Prop := fun E st t => ∃ u : S, px u ∧ B E u t ∧ va_F A st t
section Runs
variable {p : Program} {l : Launch} {e : Env} {R : Room} {s : State} {m : MethodId} {args : Array Value} {below : List Frame} {meth : Method} {c : Code} {H : Heap} {locs : List Loc} {cells slots : Nat}
variable {y : MethodName} {bytes cc : ByteArray} {maxL nL mc ms n index : Nat} {ret : Option FieldType} {ws : List Cond} {rm : Room} {Pc : Array Value → State → Prop} {Qc : Array Value → State → Outcome → State → Prop} {XC : String → State → State → Prop} {free : Addr → Prop} {Ts : List Cond} {own C : String} {b : Addr} {As rest : List Value} {g : JFrame}
theorem vx_callBack (cb : CallB R s args own index y bytes maxL ret ws rm mc ms n) (hM : vx_Met l y ws rm Pc Qc XC mc ms free) (hbl : FrameBlind Pc) : vx_Back l R p e below s args y 3 8 (PreOf R mc ms Pc) (PostOf Qc mc ms free) (vx_Post XC mc ms free) := by
  obtain ⟨hrc, hrs, hfr, hlo, hws, hcw, -, hini, -⟩ := cb
  exact vx_back (bytes := bytes) (maxL := maxL) (ret := ret) hM hbl hrc hrs hfr hlo hws hcw (fun a' U hW => word_at hW (Or.inl (by first | rfl | simp [Cond.onTables, Cond.keeps, Cond.steady])) hini)
theorem vx_runV (S : CallFix p m c cc nL s args Ts own) (hM : vx_Met l y ws rm Pc Qc XC mc ms free) (cw : CallW R s args own C index y bytes maxL ret ws rm mc ms n) (hp : PreV s H C b Pc As)
    (hg : g.method = m) (hn : As.length = n) (hsize : g.locals.size = nL) (hstack : g.stack = As.reverse ++ .ref b :: rest) (hW : 2 * g.monitorRoom + (rest.map fun v => v.category).sum ≤ 8) (hdg : decode cc g.pc = .ok (.invokevirtual index, 3)) (hf : cells + mc ≤ R.cells ∧ slots + ms ≤ R.slots) :
    vx_Run p l e R s m args below meth c H locs cells slots mc ms g rest (Qc (Value.ref b :: As).toArray) XC free := by
  have hK : vx_Back l R p e below s args y 3 8 (PreOf R mc ms Pc) (PostOf Qc mc ms free) (vx_Post XC mc ms free) := vx_callBack cw.1 hM hp.1
  obtain ⟨⟨-, -, -, -, -, -, hcode, -, hy, hlen, hl⟩, hin, hse⟩ := cw
  obtain ⟨hx, hb, hml, ho, -⟩ := S
  obtain ⟨-, ⟨cellB, hcB, hoB, hclB⟩, hPc⟩ := hp
  intro T hT X
  rcases vx_callV X hx (C := C) (bytes := bytes) (maxL := maxL) (ret := ret) ho hl hin hse hcode hy hK (by rw [hT]; exact hcB) hoB hclB hg (hsize.trans hml.symm) (argsL := As) (rest := rest) (fun sig h => hn.trans (hlen sig h)) hstack hW (by rw [hb]; exact hdg)
    (fun vm₁ hW₁ => ⟨hf.1, hf.2, hPc (T.setVm vm₁) hT hW₁⟩) with ⟨v, vm₁, ⟨U', l2, c2, s2⟩, hW₁, X', ⟨g', mk, t, L, e1, e2, hq, h1, hL, h2, h3⟩, st⟩ | ⟨q, vm₁, ⟨U', l2, c2, s2⟩, hW₁, X', ⟨g', mk, t, L, E, ce, e1, e2, hq, hce, hcv, hcl, h1, hL, h2, h3⟩, st⟩
  · dsimp only [Pt.U, Pt.locs, Pt.cells, Pt.slots] at X' e1 e2 h1 h2 h3 st
    subst h1; subst h2; subst h3
    exact Or.inl ⟨v, (T.setVm vm₁).calling g' mk (Value.ref b :: As).toArray, t, U', L, hT, X', hL, e1, e2, hq, st⟩
  · dsimp only [Pt.U, Pt.locs, Pt.cells, Pt.slots] at X' e1 e2 h1 h2 h3 st hcl
    subst h1; subst h2; subst h3
    exact Or.inr ⟨q, (T.setVm vm₁).calling g' mk (Value.ref b :: As).toArray, t, U', L, E, ce, hT, X', hL, e1, e2, hq, hce, hcv, vx_cls hW₁ hcl, st⟩
theorem vx_runS (S : CallFix p m c cc nL s args Ts own) (hM : vx_Met l y ws rm Pc Qc XC mc ms free) (cw : CallB R s args own index y bytes maxL ret ws rm mc ms n ∧ (Cond.static y).before args s = true) (hp : PreS s H Pc As)
    (hg : g.method = m) (hn : As.length = n) (hsize : g.locals.size = nL) (hstack : g.stack = As.reverse ++ rest) (hW : 2 * g.monitorRoom + (rest.map fun v => v.category).sum ≤ 8) (hdg : decode cc g.pc = .ok (.invokestatic index, 3)) (hf : cells + mc ≤ R.cells ∧ slots + ms ≤ R.slots) :
    vx_Run p l e R s m args below meth c H locs cells slots mc ms g rest (Qc As.toArray) XC free := by
  have hK : vx_Back l R p e below s args y 3 8 (PreOf R mc ms Pc) (PostOf Qc mc ms free) (vx_Post XC mc ms free) := vx_callBack cw.1 hM hp.1
  obtain ⟨⟨-, -, -, -, -, -, hcode, hini, hy, hlen, hl⟩, hstt⟩ := cw
  obtain ⟨hx, hb, hml, ho, -⟩ := S
  intro T hT X
  rcases vx_callS X hx (bytes := bytes) (maxL := maxL) (ret := ret) ho hl hstt hini hcode hy hK hg (hsize.trans hml.symm) (argsL := As) (rest := rest) (fun sig h => hn.trans (hlen sig h)) hstack hW (by rw [hb]; exact hdg)
    (fun vm₁ hW₁ => ⟨hf.1, hf.2, hp.2 (T.setVm vm₁) hT hW₁⟩) with ⟨v, vm₁, ⟨U', l2, c2, s2⟩, hW₁, X', ⟨g', mk, t, L, e1, e2, hq, h1, hL, h2, h3⟩, st⟩ | ⟨q, vm₁, ⟨U', l2, c2, s2⟩, hW₁, X', ⟨g', mk, t, L, E, ce, e1, e2, hq, hce, hcv, hcl, h1, hL, h2, h3⟩, st⟩
  · dsimp only [Pt.U, Pt.locs, Pt.cells, Pt.slots] at X' e1 e2 h1 h2 h3 st
    subst h1; subst h2; subst h3
    exact Or.inl ⟨v, (T.setVm vm₁).calling g' mk As.toArray, t, U', L, hT, X', hL, e1, e2, hq, st⟩
  · dsimp only [Pt.U, Pt.locs, Pt.cells, Pt.slots] at X' e1 e2 h1 h2 h3 st hcl
    subst h1; subst h2; subst h3
    exact Or.inr ⟨q, (T.setVm vm₁).calling g' mk As.toArray, t, U', L, E, ce, hT, X', hL, e1, e2, hq, hce, hcv, vx_cls hW₁ hcl, st⟩
end Runs
section Rows
variable {p : Program} {l : Launch} {e : Env} {R : Room} {s : State} {m : MethodId} {args : Array Value} {below : List Frame} {meth : Method} {c : Code} {H : Heap} {locs : List Loc} {cells slots : Nat} {Q : State → Prop}
variable {mc ms : Nat} {free : Addr → Prop} {A0 A1 : Nat → Prop} {H0 : Heap} {a : Array Value} {pc : Nat} {ls : Array Slot} {st0 rest : List Value}
theorem vx_keep {st₀ t T' : State} {L : List Loc} (h0 : st₀.heap = H) (e1 : T'.heap = t.heap) (hS : va_S A0 H0 H locs) (hA : ∀ q, q < H.size → A1 q → A0 q) (hf : ∀ q, free q → A0 q) (hL : ∀ q ∈ L, free q.base) (hF : va_F A1 st₀ t) :
    H.size ≤ T'.heap.size ∧ (∀ q : Nat, q < H.size → ¬ A1 q → T'.heap[q]? = H[q]?) ∧ va_S A0 H0 T'.heap (locs ++ L) := by
  obtain ⟨hz, hk⟩ := hF
  rw [h0] at hz hk
  exact ⟨by rw [e1]; exact hz, fun q h1 h2 => by rw [e1]; exact hk q h1 h2,
    ⟨Nat.le_trans hS.1 (by rw [e1]; exact hz), fun q h1 h2 => by rw [e1, hk q (Nat.lt_of_lt_of_le h1 hS.1) (fun z => h2 (hA q (Nat.lt_of_lt_of_le h1 hS.1) z))]; exact hS.2.1 q h1 h2, fun q hq => by
      rcases List.mem_append.mp hq with h | h
      · exact hS.2.2 q h
      · exact hf _ (hL q h)⟩⟩
theorem vx_calli {S SX : Type} {post : Int32 → S → Prop} {px : SX → Prop} {B : S → State → Prop} {BX : String → SX → State → Prop} {AX : Nat → Prop} (hr : vx_Run p l e R s m args below meth c H locs cells slots mc ms (F0 m pc ls st0) rest (va_Qi post B A1 a) (vx_X px BX AX) free) (hS : va_S A0 H0 H locs) (hA : ∀ q, q < H.size → A1 q → A0 q) (hf : ∀ q, free q → A0 q) (hAX : ∀ q, q < H.size → AX q → A0 q)
    (kx : ∀ (E : String) (ce : Cell) (q9 : Addr) (u : SX) (t : State) (H1 : Heap) (locs1 : List Loc), t.heap = H1 → s.vm.Alike t.vm → px u → BX E u t → H.size ≤ H1.size → (∀ q : Nat, q < H.size → ¬ AX q → H1[q]? = H[q]?) → va_S A0 H0 H1 locs1 → H1[q9]? = some ce → ce.vm = .none → s.vm.findClass E = some ce.cls → vx_W p l e R s m args below meth c H1 locs1 (cells + mc) (slots + ms) Q (F0 m pc ls rest) q9)
    (kk : ∀ (r : Int32) (u : S) (t : State) (H1 : Heap) (locs1 : List Loc), t.heap = H1 → s.vm.Alike t.vm → post r u → B u t → H.size ≤ H1.size → (∀ q : Nat, q < H.size → ¬ A1 q → H1[q]? = H[q]?) → va_S A0 H0 H1 locs1 → W p l e R s m args below meth c H1 locs1 (cells + mc) (slots + ms) Q (F0 m (pc + 3) ls (.int r :: rest))) : W p l e R s m args below meth c H locs cells slots Q (F0 m pc ls st0) := by
  intro T hT X
  rcases hr T hT X with ⟨v, st₀, t, T', L, h0, X', hL, e1, e2, ⟨⟨r, u, hv, hp, hb⟩, hF⟩, st⟩ | ⟨q, st₀, t, T', L, E, ce, h0, X', hL, e1, e2, ⟨u, hp, hb, hF⟩, hce, hcv, hcl, st⟩
  · cases hv
    obtain ⟨k1, k2, k3⟩ := vx_keep h0 e1 hS hA hf hL hF
    obtain ⟨t2, a1, b1⟩ := kk r u t T'.heap (locs ++ L) e1.symm (by rw [← e2]; exact X'.warmed.alike) hp hb k1 k2 k3 T' rfl X'
    exact ⟨t2, st t2 a1, b1⟩
  · obtain ⟨k1, k2, k3⟩ := vx_keep h0 e1 hS hAX hf hL hF
    obtain ⟨t2, a1, b1⟩ := kx E ce q u t T'.heap (locs ++ L) e1.symm (by rw [← e2]; exact X'.warmed.alike) hp hb k1 k2 k3 (by rw [e1]; exact hce) hcv hcl T' rfl X'
    exact ⟨t2, st.trans a1, b1⟩
theorem vx_calll {S SX : Type} {post : Int64 → S → Prop} {px : SX → Prop} {B : S → State → Prop} {BX : String → SX → State → Prop} {AX : Nat → Prop} (hr : vx_Run p l e R s m args below meth c H locs cells slots mc ms (F0 m pc ls st0) rest (va_Ql post B A1 a) (vx_X px BX AX) free) (hS : va_S A0 H0 H locs) (hA : ∀ q, q < H.size → A1 q → A0 q) (hf : ∀ q, free q → A0 q) (hAX : ∀ q, q < H.size → AX q → A0 q)
    (kx : ∀ (E : String) (ce : Cell) (q9 : Addr) (u : SX) (t : State) (H1 : Heap) (locs1 : List Loc), t.heap = H1 → s.vm.Alike t.vm → px u → BX E u t → H.size ≤ H1.size → (∀ q : Nat, q < H.size → ¬ AX q → H1[q]? = H[q]?) → va_S A0 H0 H1 locs1 → H1[q9]? = some ce → ce.vm = .none → s.vm.findClass E = some ce.cls → vx_W p l e R s m args below meth c H1 locs1 (cells + mc) (slots + ms) Q (F0 m pc ls rest) q9)
    (kk : ∀ (r : Int64) (u : S) (t : State) (H1 : Heap) (locs1 : List Loc), t.heap = H1 → s.vm.Alike t.vm → post r u → B u t → H.size ≤ H1.size → (∀ q : Nat, q < H.size → ¬ A1 q → H1[q]? = H[q]?) → va_S A0 H0 H1 locs1 → W p l e R s m args below meth c H1 locs1 (cells + mc) (slots + ms) Q (F0 m (pc + 3) ls (.long r :: rest))) : W p l e R s m args below meth c H locs cells slots Q (F0 m pc ls st0) := by
  intro T hT X
  rcases hr T hT X with ⟨v, st₀, t, T', L, h0, X', hL, e1, e2, ⟨⟨r, u, hv, hp, hb⟩, hF⟩, st⟩ | ⟨q, st₀, t, T', L, E, ce, h0, X', hL, e1, e2, ⟨u, hp, hb, hF⟩, hce, hcv, hcl, st⟩
  · cases hv
    obtain ⟨k1, k2, k3⟩ := vx_keep h0 e1 hS hA hf hL hF
    obtain ⟨t2, a1, b1⟩ := kk r u t T'.heap (locs ++ L) e1.symm (by rw [← e2]; exact X'.warmed.alike) hp hb k1 k2 k3 T' rfl X'
    exact ⟨t2, st t2 a1, b1⟩
  · obtain ⟨k1, k2, k3⟩ := vx_keep h0 e1 hS hAX hf hL hF
    obtain ⟨t2, a1, b1⟩ := kx E ce q u t T'.heap (locs ++ L) e1.symm (by rw [← e2]; exact X'.warmed.alike) hp hb k1 k2 k3 (by rw [e1]; exact hce) hcv hcl T' rfl X'
    exact ⟨t2, st.trans a1, b1⟩
theorem vx_callf {S SX : Type} {post : UInt32 → S → Prop} {px : SX → Prop} {B : S → State → Prop} {BX : String → SX → State → Prop} {AX : Nat → Prop} (hr : vx_Run p l e R s m args below meth c H locs cells slots mc ms (F0 m pc ls st0) rest (va_Qf post B A1 a) (vx_X px BX AX) free) (hS : va_S A0 H0 H locs) (hA : ∀ q, q < H.size → A1 q → A0 q) (hf : ∀ q, free q → A0 q) (hAX : ∀ q, q < H.size → AX q → A0 q)
    (kx : ∀ (E : String) (ce : Cell) (q9 : Addr) (u : SX) (t : State) (H1 : Heap) (locs1 : List Loc), t.heap = H1 → s.vm.Alike t.vm → px u → BX E u t → H.size ≤ H1.size → (∀ q : Nat, q < H.size → ¬ AX q → H1[q]? = H[q]?) → va_S A0 H0 H1 locs1 → H1[q9]? = some ce → ce.vm = .none → s.vm.findClass E = some ce.cls → vx_W p l e R s m args below meth c H1 locs1 (cells + mc) (slots + ms) Q (F0 m pc ls rest) q9)
    (kk : ∀ (r : UInt32) (u : S) (t : State) (H1 : Heap) (locs1 : List Loc), t.heap = H1 → s.vm.Alike t.vm → post r u → B u t → H.size ≤ H1.size → (∀ q : Nat, q < H.size → ¬ A1 q → H1[q]? = H[q]?) → va_S A0 H0 H1 locs1 → W p l e R s m args below meth c H1 locs1 (cells + mc) (slots + ms) Q (F0 m (pc + 3) ls (.float r :: rest))) : W p l e R s m args below meth c H locs cells slots Q (F0 m pc ls st0) := by
  intro T hT X
  rcases hr T hT X with ⟨v, st₀, t, T', L, h0, X', hL, e1, e2, ⟨⟨r, u, hv, hp, hb⟩, hF⟩, st⟩ | ⟨q, st₀, t, T', L, E, ce, h0, X', hL, e1, e2, ⟨u, hp, hb, hF⟩, hce, hcv, hcl, st⟩
  · cases hv
    obtain ⟨k1, k2, k3⟩ := vx_keep h0 e1 hS hA hf hL hF
    obtain ⟨t2, a1, b1⟩ := kk r u t T'.heap (locs ++ L) e1.symm (by rw [← e2]; exact X'.warmed.alike) hp hb k1 k2 k3 T' rfl X'
    exact ⟨t2, st t2 a1, b1⟩
  · obtain ⟨k1, k2, k3⟩ := vx_keep h0 e1 hS hAX hf hL hF
    obtain ⟨t2, a1, b1⟩ := kx E ce q u t T'.heap (locs ++ L) e1.symm (by rw [← e2]; exact X'.warmed.alike) hp hb k1 k2 k3 (by rw [e1]; exact hce) hcv hcl T' rfl X'
    exact ⟨t2, st.trans a1, b1⟩
theorem vx_calld {S SX : Type} {post : UInt64 → S → Prop} {px : SX → Prop} {B : S → State → Prop} {BX : String → SX → State → Prop} {AX : Nat → Prop} (hr : vx_Run p l e R s m args below meth c H locs cells slots mc ms (F0 m pc ls st0) rest (va_Qd post B A1 a) (vx_X px BX AX) free) (hS : va_S A0 H0 H locs) (hA : ∀ q, q < H.size → A1 q → A0 q) (hf : ∀ q, free q → A0 q) (hAX : ∀ q, q < H.size → AX q → A0 q)
    (kx : ∀ (E : String) (ce : Cell) (q9 : Addr) (u : SX) (t : State) (H1 : Heap) (locs1 : List Loc), t.heap = H1 → s.vm.Alike t.vm → px u → BX E u t → H.size ≤ H1.size → (∀ q : Nat, q < H.size → ¬ AX q → H1[q]? = H[q]?) → va_S A0 H0 H1 locs1 → H1[q9]? = some ce → ce.vm = .none → s.vm.findClass E = some ce.cls → vx_W p l e R s m args below meth c H1 locs1 (cells + mc) (slots + ms) Q (F0 m pc ls rest) q9)
    (kk : ∀ (r : UInt64) (u : S) (t : State) (H1 : Heap) (locs1 : List Loc), t.heap = H1 → s.vm.Alike t.vm → post r u → B u t → H.size ≤ H1.size → (∀ q : Nat, q < H.size → ¬ A1 q → H1[q]? = H[q]?) → va_S A0 H0 H1 locs1 → W p l e R s m args below meth c H1 locs1 (cells + mc) (slots + ms) Q (F0 m (pc + 3) ls (.double r :: rest))) : W p l e R s m args below meth c H locs cells slots Q (F0 m pc ls st0) := by
  intro T hT X
  rcases hr T hT X with ⟨v, st₀, t, T', L, h0, X', hL, e1, e2, ⟨⟨r, u, hv, hp, hb⟩, hF⟩, st⟩ | ⟨q, st₀, t, T', L, E, ce, h0, X', hL, e1, e2, ⟨u, hp, hb, hF⟩, hce, hcv, hcl, st⟩
  · cases hv
    obtain ⟨k1, k2, k3⟩ := vx_keep h0 e1 hS hA hf hL hF
    obtain ⟨t2, a1, b1⟩ := kk r u t T'.heap (locs ++ L) e1.symm (by rw [← e2]; exact X'.warmed.alike) hp hb k1 k2 k3 T' rfl X'
    exact ⟨t2, st t2 a1, b1⟩
  · obtain ⟨k1, k2, k3⟩ := vx_keep h0 e1 hS hAX hf hL hF
    obtain ⟨t2, a1, b1⟩ := kx E ce q u t T'.heap (locs ++ L) e1.symm (by rw [← e2]; exact X'.warmed.alike) hp hb k1 k2 k3 (by rw [e1]; exact hce) hcv hcl T' rfl X'
    exact ⟨t2, st.trans a1, b1⟩
theorem vx_callv {S SX : Type} {post : S → Prop} {px : SX → Prop} {B : S → State → Prop} {BX : String → SX → State → Prop} {AX : Nat → Prop} (hr : vx_Run p l e R s m args below meth c H locs cells slots mc ms (F0 m pc ls st0) rest (va_Qv post B A1 a) (vx_X px BX AX) free) (hS : va_S A0 H0 H locs) (hA : ∀ q, q < H.size → A1 q → A0 q) (hf : ∀ q, free q → A0 q) (hAX : ∀ q, q < H.size → AX q → A0 q)
    (kx : ∀ (E : String) (ce : Cell) (q9 : Addr) (u : SX) (t : State) (H1 : Heap) (locs1 : List Loc), t.heap = H1 → s.vm.Alike t.vm → px u → BX E u t → H.size ≤ H1.size → (∀ q : Nat, q < H.size → ¬ AX q → H1[q]? = H[q]?) → va_S A0 H0 H1 locs1 → H1[q9]? = some ce → ce.vm = .none → s.vm.findClass E = some ce.cls → vx_W p l e R s m args below meth c H1 locs1 (cells + mc) (slots + ms) Q (F0 m pc ls rest) q9)
    (kk : ∀ (u : S) (t : State) (H1 : Heap) (locs1 : List Loc), t.heap = H1 → s.vm.Alike t.vm → post u → B u t → H.size ≤ H1.size → (∀ q : Nat, q < H.size → ¬ A1 q → H1[q]? = H[q]?) → va_S A0 H0 H1 locs1 → W p l e R s m args below meth c H1 locs1 (cells + mc) (slots + ms) Q (F0 m (pc + 3) ls (rest))) : W p l e R s m args below meth c H locs cells slots Q (F0 m pc ls st0) := by
  intro T hT X
  rcases hr T hT X with ⟨v, st₀, t, T', L, h0, X', hL, e1, e2, ⟨⟨u, hv, hp, hb⟩, hF⟩, st⟩ | ⟨q, st₀, t, T', L, E, ce, h0, X', hL, e1, e2, ⟨u, hp, hb, hF⟩, hce, hcv, hcl, st⟩
  · cases hv
    obtain ⟨k1, k2, k3⟩ := vx_keep h0 e1 hS hA hf hL hF
    obtain ⟨t2, a1, b1⟩ := kk u t T'.heap (locs ++ L) e1.symm (by rw [← e2]; exact X'.warmed.alike) hp hb k1 k2 k3 T' rfl X'
    exact ⟨t2, st t2 a1, b1⟩
  · obtain ⟨k1, k2, k3⟩ := vx_keep h0 e1 hS hAX hf hL hF
    obtain ⟨t2, a1, b1⟩ := kx E ce q u t T'.heap (locs ++ L) e1.symm (by rw [← e2]; exact X'.warmed.alike) hp hb k1 k2 k3 (by rw [e1]; exact hce) hcv hcl T' rfl X'
    exact ⟨t2, st.trans a1, b1⟩
/-- caught by the row x of this method's table; the rows ahead don't take it -/
theorem vx_catch {own name : String} {E : String} {ce : Cell} {q : Addr} (hown : s.vm.findClass own = some m.cls) (pre : List ExceptionTableEntry) (x : ExceptionTableEntry) (suf : List ExceptionTableEntry) (hsplit : c.exceptionTable.toList = pre ++ x :: suf)
    (hpass : ∀ z ∈ pre, covers z pc = false ∨ (z.catchType ≠ 0 ∧ ∃ nm : String, (Cond.classLink own z.catchType nm).before args s = true ∧ va_Nc E nm s)) (hx : covers x pc = true) (h0 : x.catchType ≠ 0)
    (hlink : (Cond.classLink own x.catchType name).before args s = true) (hcast : (Cond.castable E name).before args s = true) (hcell : H[q]? = some ce) (hv : ce.vm = .none) (hcl : s.vm.findClass E = some ce.cls)
    (kk : W p l e R s m args below meth c H locs cells slots Q (F0 m x.handlerPc ls [.ref q])) : vx_W p l e R s m args below meth c H locs cells slots Q (F0 m pc ls rest) q := by
  intro T hT X
  have hpl : e.platform.magicAccessors = ({} : Platform).magicAccessors := by rw [X.admits.platform]
  obtain ⟨c3, c4, hc3, hc4, hasg⟩ := Cond.castable_spec hcast
  cases Option.some.inj (hc3.symm.trans hcl)
  obtain ⟨c5, hc5, hcl5⟩ := Cond.classLink_spec hown hlink e.platform hpl
  cases Option.some.inj (hc4.symm.trans hc5)
  obtain ⟨vm', X', st⟩ := X.thenCaughtThrough q (g := F0 m pc ls rest) rfl (Steps.refl _) (by rw [hT]; exact hcell) (by rw [hv]; rfl) (by obtain ⟨k9, h9, -⟩ := Vm.findClass_spec hcl; exact ⟨k9, h9⟩) pre x suf hsplit
    (fun z hz => by
      rcases hpass z hz with h | ⟨hz0, nm, hl1, hn1⟩
      · exact Or.inl h
      · obtain ⟨c6, hc6, hcl6⟩ := Cond.classLink_spec hown hl1 e.platform hpl
        obtain ⟨a8, b8, h1, h2, h3⟩ := hn1
        cases Option.some.inj (h1.symm.trans hcl)
        cases Option.some.inj (h2.symm.trans hc6)
        exact Or.inr ⟨hz0, _, hcl6, h3⟩) hx (Or.inr ⟨h0, c4, hcl5, hasg⟩)
  obtain ⟨t, a1, b1⟩ := kk (T.setVm vm') hT X'
  exact ⟨t, st.trans a1, b1⟩
end Rows
section Ends
variable {p : Program} {l : Launch} {e : Env} {R : Room} {s : State} {m : MethodId} {args : Array Value} {below : List Frame} {meth : Method} {c : Code} {H : Heap} {locs : List Loc} {cells slots : Nat} {Q : State → Prop}
variable {mc ms : Nat} {free : Addr → Prop} {A0 A1 : Nat → Prop} {H0 : Heap} {a : Array Value} {ls : Array Slot} {st0 rest : List Value}
variable {Qc : Array Value → State → Outcome → State → Prop} {XC : String → State → State → Prop}
/-- what a body that may throw owes at its end -/
def vx_MQ (below : List Frame) (Qc : Array Value → State → Outcome → State → Prop) (XC : String → State → State → Prop) (a : Array Value) (s : State) (mc ms : Nat) (free : Addr → Prop) : State → Prop := fun t =>
  ∃ o, t.status = .running ∧ Ended t below o ∧ vx_Q Qc XC mc ms free a s o t
theorem vx_ret {g : JFrame} {mc ms : Nat} (k : W p l e R s m args below meth c H locs cells slots (MQ below Qc args s mc ms free) g) : W p l e R s m args below meth c H locs cells slots (vx_MQ below Qc XC args s mc ms free) g := by
  intro T hT X
  obtain ⟨t, a1, o, b1, b2, b3, b4⟩ := k T hT X
  exact ⟨t, a1, o, b1, b2, Or.inl ⟨b3, b4⟩⟩
/-- not caught here: it goes on to the caller -/
theorem vx_widen {g : JFrame} {q : Addr} {k n : Nat} (h1 : cells ≤ k) (h2 : slots ≤ n) (kk : vx_W p l e R s m args below meth c H locs k n Q g q) : vx_W p l e R s m args below meth c H locs cells slots Q g q := fun T hT X => kk T hT (stand_widen X h1 h2)
theorem vx_out {pc : Nat} {E : String} {ce : Cell} {q : Addr} {mc ms : Nat} (hout : ∀ x ∈ c.exceptionTable.toList, covers x pc = false) (hlocks : meth.locks = false) (hcell : H[q]? = some ce) (hv : ce.vm = .none) (hcl : s.vm.findClass E = some ce.cls)
    (hx : ∀ t : State, t.heap = H → s.vm.Alike t.vm → XC E s t) (hf : ∀ z ∈ locs, free z.base) (hc : cells ≤ mc) (hs : slots ≤ ms) :
    vx_W p l e R s m args below meth c H locs cells slots (vx_MQ below Qc XC args s mc ms free) (F0 m pc ls rest) q := by
  intro T hT X
  obtain ⟨st1, hrun, hend, hW, hsm⟩ := X.leaveThrown q (g := F0 m pc ls rest) rfl rfl rfl hout hlocks
  have hcell9 : (T.setFrames (.throwing q :: below)).heap[q]? = some ce := by
    show T.heap[q]? = some ce
    rw [hT]; exact hcell
  exact ⟨_, st1, .threw q, hrun, hend, Or.inr ⟨q, rfl, E, ce, locs, hx _ hT hW.alike, hcell9, hv, hcl, hW, hsm.mono hc hs, hf⟩⟩
theorem vx_frame {U : State} {k n : Nat} (h : s.sameButNew ({ U with vm := s.vm } : State) locs k n) : s.heap.size ≤ U.heap.size ∧ ∀ q : Nat, q < s.heap.size → (∀ z ∈ locs, z.base ≠ q) → U.heap[q]? = s.heap[q]? := by
  obtain ⟨-, h2, -, -, -, h6⟩ := h
  refine ⟨h2, fun q hq hz => ?_⟩
  obtain ⟨c9, e1, e2, e3, e4⟩ := h6 q _ (Array.getElem?_eq_getElem hq)
  have hs : c9.slots = (s.heap[q]).slots := Array.ext_getElem? fun i => e4 i fun hm => hz _ hm rfl
  have h9 : c9 = s.heap[q] := by
    rw [hs] at e2
    exact e2
  have e5 : U.heap[q]? = some c9 := e1
  rw [e5, h9, Array.getElem?_eq_getElem hq]
/-- the words of a throw but the four that speak of the heap -/
def vx_no (w : Cond) : Bool := decide (w ≠ .isRef (.static Bundle.tN "UNASSIGNED_STACK" Bundle.steD)) && decide (w ≠ .isRef (.static Bundle.tN "SUPPRESSED_SENTINEL" Bundle.listD)) && decide (w ≠ .laysStatic Bundle.tN "UNASSIGNED_STACK" Bundle.steD) && decide (w ≠ .laysStatic Bundle.tN "SUPPRESSED_SENTINEL" Bundle.listD)
def vx_at0 (own : String) (ic : Nat) (X : String) (names : List String) : List Cond := (Bundle.ownAtoms0 own ic X names).filter vx_no
def vx_atS (own : String) (ic : Nat) (X : String) (names : List String) : List Cond := (Bundle.ownAtoms own ic X names).filter vx_no
/-- a word that the tables alone decide, or a good one -/
def vx_ot (w : Cond) : Bool := w.onTables || goodWord w
theorem vx_ot_at {args a' : Array Value} {s U : State} {w : Cond} (hW : s.WarmedH U.vm) (hvm : s.vm = U.vm) (hg : vx_ot w = true) (h : w.before args s = true) : w.before a' U = true := by
  simp only [vx_ot, Bool.or_eq_true] at hg
  rcases hg with hg | hg
  · exact va_tabs hg hvm h
  · exact word_at hW (good_of_word hg) h
/-- a list's words: the good ones out of the method's own list, the others by premises of their own -/
theorem vx_hat {args : Array Value} {s : State} {L B : List Cond} (h1 : ∀ w ∈ L.filter goodWord, w.before args s = true) (h2 : ∀ w ∈ L.filter (fun w => !goodWord w), w ∈ B) (h3 : ∀ w ∈ B, w.before args s = true) : ∀ w ∈ L, w.before args s = true := by
  intro w hw
  by_cases g : goodWord w = true
  · exact h1 w (List.mem_filter.mpr ⟨hw, g⟩)
  · refine h3 w (h2 w (List.mem_filter.mpr ⟨hw, ?_⟩))
    show (!goodWord w) = true
    cases hgw : goodWord w
    · rfl
    · exact absurd hgw g
theorem vx_c {args : Array Value} {s : State} {w : Cond} {B : List Cond} (h : w.before args s = true) (t : ∀ w ∈ B, w.before args s = true) : ∀ w' ∈ w :: B, w'.before args s = true := fun w' h' => (List.mem_cons.mp h').elim (fun e => by rw [e]; exact h) (t w')
theorem vx_n {args : Array Value} {s : State} : ∀ w ∈ ([] : List Cond), w.before args s = true := fun _ h => nomatch h
theorem vx_own {args : Array Value} {s : State} {L : List Cond} (h1 : ∀ w ∈ L.filter vx_no, w.before args s = true)
    (hU : (Cond.isRef (.static Bundle.tN "UNASSIGNED_STACK" Bundle.steD)).before args s = true) (hN : (Cond.isRef (.static Bundle.tN "SUPPRESSED_SENTINEL" Bundle.listD)).before args s = true)
    (lU : (Cond.laysStatic Bundle.tN "UNASSIGNED_STACK" Bundle.steD).before args s = true) (lN : (Cond.laysStatic Bundle.tN "SUPPRESSED_SENTINEL" Bundle.listD).before args s = true) : ∀ w ∈ L, w.before args s = true := by
  intro w hw
  by_cases e1 : w = .isRef (.static Bundle.tN "UNASSIGNED_STACK" Bundle.steD)
  · rw [e1]; exact hU
  · by_cases e2 : w = .isRef (.static Bundle.tN "SUPPRESSED_SENTINEL" Bundle.listD)
    · rw [e2]; exact hN
    · by_cases e3 : w = .laysStatic Bundle.tN "UNASSIGNED_STACK" Bundle.steD
      · rw [e3]; exact lU
      · by_cases e4 : w = .laysStatic Bundle.tN "SUPPRESSED_SENTINEL" Bundle.listD
        · rw [e4]; exact lN
        · exact h1 w (List.mem_filter.mpr ⟨hw, by unfold vx_no; rw [decide_eq_true e1, decide_eq_true e2, decide_eq_true e3, decide_eq_true e4]; rfl⟩)
/-- where a static field lies, its class's statics cell in H -/
def vx_L (C n d : String) (A : Nat → Prop) (U : State) (H : Heap) : Prop := ∃ (c : ClassId) (k : Class) (i : Nat) (f : Field) (a : Nat) (cell : Cell), U.vm.findClass C = some c ∧ U.fieldFound? C n d = some (c, k, i, f) ∧ f.isStatic = true ∧ k.statics = some a ∧ H[a]? = some cell ∧ cell.vm.isStatics = true ∧ cell.cls = c ∧ f.slot < cell.slots.size ∧ k.staticTypes[f.slot]? = some f.type ∧ ¬ A a
theorem vx_L.moved {C n d : String} {A : Nat → Prop} {u U : State} {H : Heap} (hvm : u.vm.Alike U.vm) (h : vx_L C n d A u H) : vx_L C n d A U H := by
  obtain ⟨c, k, i, f, a, cell, h1, h2, h3, h4, h5, h6, h7, h8, h9, h10⟩ := h
  obtain ⟨k', hi', he⟩ := State.fieldFound?_setVm hvm h2
  exact ⟨c, k', i, f, a, cell, by rw [hvm.findClass]; exact h1, hi', h3, by rw [he]; exact h4, h5, h6, h7, h8, by rw [he]; exact h9, h10⟩
theorem vx_L.kept {C n d : String} {A : Nat → Prop} {U : State} {H H1 : Heap} (h : vx_L C n d A U H) (hq : ∀ a : Nat, a < H.size → ¬ A a → H1[a]? = H[a]?) : vx_L C n d A U H1 := by
  obtain ⟨c, k, i, f, a, cell, h1, h2, h3, h4, h5, h6, h7, h8, h9, h10⟩ := h
  exact ⟨c, k, i, f, a, cell, h1, h2, h3, h4, by rw [hq a (Array.getElem?_eq_some_iff.mp h5).1 h10]; exact h5, h6, h7, h8, h9, h10⟩
theorem vx_L.narrow {C n d : String} {A B : Nat → Prop} {U : State} {H : Heap} (h : vx_L C n d A U H) (hAB : ∀ q, B q → A q) : vx_L C n d B U H := by
  obtain ⟨c, k, i, f, a, cell, h1, h2, h3, h4, h5, h6, h7, h8, h9, h10⟩ := h
  exact ⟨c, k, i, f, a, cell, h1, h2, h3, h4, h5, h6, h7, h8, h9, fun z => h10 (hAB _ z)⟩
theorem vx_L.word {C n d : String} {A : Nat → Prop} {s : State} {args : Array Value} (h : vx_L C n d A s s.heap) : (Cond.laysStatic C n d).before args s = true := by
  obtain ⟨c, k, i, f, a, cell, h1, h2, h3, h4, h5, h6, h7, h8, h9, -⟩ := h
  show (Cond.laysStatic C n d).holds args s none s [] = true
  exact Cond.laysStatic_of h1 h2 h3 h4 h5 h6 h7 h8 h9
/-- .. and what it holds: null or some reference -/
def vx_Zq (C n d : String) (A : Nat → Prop) (U : State) (H : Heap) : Prop := va_Zq C n d A U H ∧ vx_L C n d A U H
theorem vx_Zq.moved {C n d : String} {A : Nat → Prop} {u U : State} {H : Heap} (hvm : u.vm.Alike U.vm) (h : vx_Zq C n d A u H) : vx_Zq C n d A U H := ⟨va_Zq.moved hvm h.1, vx_L.moved hvm h.2⟩
theorem vx_Zq.kept {C n d : String} {A : Nat → Prop} {U : State} {H H1 : Heap} (h : vx_Zq C n d A U H) (hq : ∀ a : Nat, a < H.size → ¬ A a → H1[a]? = H[a]?) : vx_Zq C n d A U H1 := ⟨va_Zq.kept h.1 hq, vx_L.kept h.2 hq⟩
theorem vx_Zq.narrow {C n d : String} {A B : Nat → Prop} {U : State} {H : Heap} (h : vx_Zq C n d A U H) (hAB : ∀ q, B q → A q) : vx_Zq C n d B U H := ⟨va_Zq.narrow h.1 hAB, vx_L.narrow h.2 hAB⟩
theorem vx_Zqof {args : Array Value} {s : State} {C n d : String} {A : Nat → Prop} (hl : (Cond.laysStatic C n d).before args s = true) (hini : (Cond.initialized C).before args s = true) (h : (Cond.isRef (.static C n d)).before args s = true) (hA : ∀ a : Nat, a < s.heap.size → ¬ A a) : vx_Zq C n d A s s.heap := by
  refine ⟨va_Zqof hl hini h hA, ?_⟩
  obtain ⟨c, k, i, f, a, cell, h1, h2, h3, h4, h5, h6, h7, h8, h9⟩ := Cond.laysStatic_spec hl
  exact ⟨c, k, i, f, a, cell, h1, h2, h3, h4, h5, h6, h7, h8, h9, hA a (Array.getElem?_eq_some_iff.mp h5).1⟩
theorem vx_isRef {C n d : String} {v : Value} {A : Nat → Prop} {s : State} {args : Array Value} (h : va_Z C n d v A s s.heap) (hv : v.isRef = true) : (Cond.isRef (.static C n d)).before args s = true := by
  obtain ⟨cf, kf, fi, f, a, cell, h1, h2, h3, h4, h5, h6, h7, -⟩ := h
  have he : (Term.static C n d).eval args s none [] s = some v := by
    simp [Term.eval, State.fieldNamed?, h1, h2, h4, h5, h6, h7]
  simp only [Cond.before, Cond.holds, Cond.value, he]
  cases v <;> simp_all [Value.isRef]
theorem vx_isRefq {C n d : String} {A : Nat → Prop} {s : State} {args : Array Value} (h : va_Zq C n d A s s.heap) : (Cond.isRef (.static C n d)).before args s = true := by
  rcases h with h | ⟨t, h⟩
  · exact vx_isRef h rfl
  · exact vx_isRef h rfl
/-- the same frame, seen from here: as if the method were called anew in this heap -/
theorem vx_rebase {T : State} (X : Stand p l e R s m args below meth c T locs cells slots) {R' : Room} (hf : R'.frames ≤ R.frames) (hl : R'.locals ≤ R.locals) (hc : cells + R'.cells ≤ R.cells) (hs : slots + R'.slots ≤ R.slots) :
    Stand p l e R' ((T.setVm s.vm).setFrames (.invoking m args :: below)) m args below meth c T [] 0 0 := by
  have htop : (T.setVm s.vm).topJava?.isSome := X.here.top
  have hF : ((T.setVm s.vm).setFrames (.invoking m args :: below)).frames = .invoking m args :: below := State.frames_setFrames _ (State.cur_lt_of_top htop)
  obtain ⟨g₀, hg0⟩ := Option.isSome_iff_exists.mp htop
  obtain ⟨r, hr⟩ := State.topJava?_eq_some.mp hg0
  have hl9 : e.platform.stackLimits (T.setVm s.vm).me = e.platform.stackLimits s.me := X.limits
  have hb9 : (T.setVm s.vm).me.stackBytes = s.me.stackBytes := X.bytes
  refine ⟨X.admits, X.cas, X.clock, hF, ?_, X.hears, X.method, X.code, X.here, X.tail, X.warmed, ?_, ?_, ?_⟩
  · have h := X.room
    have hU : ((T.setVm s.vm).setFrames (.invoking m args :: below)).localsInUse = s.localsInUse := by
      rw [State.localsInUse_invoking hF (meth := meth) (c := c) X.method X.code, State.localsInUse_invoking X.frames X.method X.code]
    simp only [State.hasRoom, Bool.and_eq_true, decide_eq_true_eq] at h ⊢
    obtain ⟨⟨⟨⟨h1, h2, h3, h4, h5, h6⟩, h7⟩, h8⟩, h9⟩ := h
    rw [X.frames, List.length_cons] at h2 h3
    have q1 := X.heapSize
    have q2 := X.used
    simp only [hF, hU, List.length_cons, State.stackLimits_setFrames, State.stackBytes_setFrames, hl9, hb9]
    refine ⟨⟨⟨⟨by omega, by omega, by omega, by omega, by omega, h6⟩, ?_⟩, ?_⟩, X.book⟩
    · show T.heap.size + R'.cells ≤ e.platform.maxCells
      omega
    · show T.slotsUsed + R'.slots ≤ e.platform.maxSlots
      omega
  · rw [State.stackLimits_setFrames]; rfl
  · rw [State.stackBytes_setFrames]; rfl
  · refine ⟨?_, Nat.le_refl _, Nat.le_refl _, ?_, ?_, fun a c9 h9 => ⟨c9, h9, rfl, rfl, fun _ _ => rfl⟩⟩
    · obtain ⟨t, ht, -⟩ := State.frames_cons hr
      show T.setVm s.vm = { ((T.setVm s.vm).setFrames (.invoking m args :: below)).setFrames (T.setVm s.vm).frames with heap := T.heap, slotsUsed := T.slotsUsed }
      rw [State.setFrames_setFrames, State.setFrames_self ht]
      rfl
    · show T.slotsUsed = T.slotsUsed + ((T.heap.toList.drop T.heap.size).map (·.slots.size)).sum
      rw [List.drop_eq_nil_of_le (Nat.le_of_eq Array.length_toList)]
      rfl
    · show ((T.heap.toList.drop T.heap.size).map (·.slots.size)).sum ≤ 0
      rw [List.drop_eq_nil_of_le (Nat.le_of_eq Array.length_toList)]
      exact Nat.le_refl _
/-- 'throw new E()': new; dup; invokespecial; athrow -/
theorem vx_throw0 {cc : ByteArray} {pc : Nat} (hexec : p.tables.exec = Jvm.exec) (hb : c.code = cc) (hl : l.stackTraces = false) {own cls : String} {names : List String} {ik ic mc ms : Nat} {A : Nat → Prop}
    (hown : s.vm.findClass own = some m.cls) (hcls : Bundle.fit cls = true) (hnames : ∀ n ∈ names, Bundle.fit n = true)
    (hk : (Cond.classLink own ik cls).before args s = true) (hini : (Cond.initialized cls).before args s = true) (hat : ∀ w ∈ vx_at0 own ic cls names, w.before args s = true)
    (hgood : ∀ w ∈ Cond.classLink own ik cls :: Cond.initialized cls :: vx_at0 own ic cls names, vx_ot w = true)
    (hU : vx_Zq Bundle.tN "UNASSIGNED_STACK" Bundle.steD A s s.heap) (hN : vx_Zq Bundle.tN "SUPPRESSED_SENTINEL" Bundle.listD A s s.heap) (hS : va_S A s.heap H locs) (hsize : ls.size = c.maxLocals)
    (d0 : decode cc pc = .ok (.new ik, 3)) (d3 : decode cc (pc + 3) = .ok (.dup, 1)) (d4 : decode cc (pc + 4) = .ok (.invokespecial ic, 3)) (d7 : decode cc (pc + 7) = .ok (.athrow, 1))
    (hout : ∀ x ∈ c.exceptionTable.toList, covers x (pc + 7) = false)
    (hRframes : names.length + 3 < R.frames) (hRlocals : (rest.map fun v => v.category).sum + (13 * (names.length + 1) + 42) ≤ R.locals) (hRcells : cells + 1 ≤ R.cells) (hRslots : slots + 6 ≤ R.slots) (hlocks : meth.locks = false)
    (hx : ∀ t : State, s.vm.Alike t.vm → H.size ≤ t.heap.size → (∀ q : Nat, q < H.size → t.heap[q]? = H[q]?) → XC cls s t)
    (hf : ∀ z ∈ locs, free z.base) (hc : cells + 1 ≤ mc) (hs : slots + 6 ≤ ms) :
    W p l e R s m args below meth c H locs cells slots (vx_MQ below Qc XC args s mc ms free) (F0 m pc ls rest) := by
  intro T hT X
  have htr : e.platform.stackTraces = false := (show e.platform.stackTraces = l.stackTraces by rw [X.admits.platform]).trans hl
  have Y := vx_rebase X (R' := { frames := R.frames, locals := R.locals, cells := 1, slots := 6 }) (Nat.le_refl _) (Nat.le_refl _) hRcells hRslots
  obtain ⟨s', hA⟩ : ∃ z, z = (T.setVm s.vm).setFrames (.invoking m args :: below) := ⟨_, rfl⟩
  rw [← hA] at Y
  have hvm : s'.vm = s.vm := by rw [hA]; rfl
  have hhp : s'.heap = H := by rw [hA]; exact hT
  have hW0 : s.WarmedH s'.vm := by rw [hvm]; exact State.WarmedH.refl s
  have hat' : ∀ w ∈ vx_at0 own ic cls names, w.before args s' = true := fun w hw => vx_ot_at hW0 hvm.symm (hgood w (List.mem_cons_of_mem _ (List.mem_cons_of_mem _ hw))) (hat w hw)
  have hk' : (Cond.classLink own ik cls).before args s' = true := vx_ot_at hW0 hvm.symm (hgood _ List.mem_cons_self) hk
  have hini' : (Cond.initialized cls).before args s' = true := vx_ot_at hW0 hvm.symm (hgood _ (List.mem_cons_of_mem _ List.mem_cons_self)) hini
  have hU' : vx_Zq Bundle.tN "UNASSIGNED_STACK" Bundle.steD A s' s'.heap := by rw [hhp]; exact vx_Zq.moved hW0.alike (hU.kept hS.2.1)
  have hN' : vx_Zq Bundle.tN "SUPPRESSED_SENTINEL" Bundle.listD A s' s'.heap := by rw [hhp]; exact vx_Zq.moved hW0.alike (hN.kept hS.2.1)
  have h : ∀ w ∈ Bundle.ownAtoms0 own ic cls names, w.before args s' = true := vx_own hat' (vx_isRefq hU'.1) (vx_isRefq hN'.1) hU'.2.word hN'.2.word
  have hown' : s'.vm.findClass own = some m.cls := by rw [hvm]; exact hown
  have hins : (Cond.instantiable cls 6).before args s' = true := h _ (by simp [Bundle.ownAtoms0])
  obtain ⟨vm₁, cX, kX, hfX, hkX, -, -, X₁, st1⟩ := Y.newCold hexec (own := own) (C := cls) (index := ik) (n := 6) hown' hk' hins hini'
    (g := F0 m pc ls rest) rfl (by rw [hb]; exact d0) (Nat.le_refl _) (Nat.le_refl _)
  generalize hT1 : (T.setVm vm₁).pushCell { cls := cX, slots := kX.instanceTypes.map defaultValue, vm := .none } = T1 at X₁ st1
  have hcat : (Value.ref T.heap.size).category = 1 := rfl
  have hcellA : T1.heap[T.heap.size]? = some (freshCell cX kX) := by rw [← hT1]; exact State.heap_pushCell_size _ _
  have d3' : decode c.code (pc + 3) = .ok (.dup, 1) := by rw [hb]; exact d3
  obtain ⟨U, hsteps, hrun, hend, hW, hsame, ce, hce, hO⟩ := X₁.ctorThrow0 hexec htr (own := own) (cls := cls) (names := names) (ic := ic) hown' hcls hnames h (fun x hx => nomatch hx) hfX hkX hcellA (by rw [hhp, hT]; exact Nat.le_refl _)
    (g := { method := m, pc := pc + 4, locals := ls, stack := .ref T.heap.size :: .ref T.heap.size :: rest, locked := none }) rfl hsize rfl rfl (rest := rest) rfl
    (by rw [hb]; exact d4) (by rw [hb]; exact d7) hout hRframes (by simp only [List.map_cons, List.sum_cons, hcat]; omega) hlocks
  obtain ⟨f1, f2⟩ := vx_frame hsame
  rw [hhp] at f1 f2
  have hWs : s.WarmedH U.vm := State.WarmedH.trans hW0 hW
  have hcl : s.vm.findClass cls = some ce.cls := by
    have h9 := hO.cls
    rw [hvm] at h9
    exact h9
  have hall : s.sameButNew ({ U with vm := s.vm } : State) locs mc ms := by
    subst hA
    obtain ⟨e1, e2⟩ := hsame
    rw [State.setFrames_setFrames] at e1
    have h2 : (T.setVm s.vm).sameButNew ({ U with vm := s.vm } : State) [] (0 + 1) (0 + 6) := ⟨e1, e2⟩
    have h3 := X.same.trans h2
    rw [List.append_nil] at h3
    exact h3.mono hc hs
  refine ⟨U, ?_, .threw T.heap.size, hrun, hend, Or.inr ⟨T.heap.size, rfl, cls, ce, locs, hx U hWs.alike f1 (fun q hq => f2 q hq (fun z hz => nomatch hz)), hce, hO.vm, hcl, hWs, hall, hf⟩⟩
  refine st1 _ ?_
  show Steps p.tables e below (T1.setTop { method := m, pc := pc + 3, locals := ls, stack := .ref T.heap.size :: rest, locked := none }) _
  jvm_step X₁.here [X₁.here.top, hexec, d3', Value.category]
  exact hsteps
/-- 'throw new E("text")': new; dup; ldc; invokespecial; athrow -/
theorem vx_throwS {cc : ByteArray} {pc : Nat} (hexec : p.tables.exec = Jvm.exec) (hb : c.code = cc) (hl : l.stackTraces = false) {own cls text : String} {names : List String} {ik is ic mc ms sa : Nat} {A : Nat → Prop}
    (hown : s.vm.findClass own = some m.cls) (hcls : Bundle.fit cls = true) (hnames : ∀ n ∈ names, Bundle.fit n = true)
    (hk : (Cond.classLink own ik cls).before args s = true) (hini : (Cond.initialized cls).before args s = true) (hstr : vk_R own is text sa s) (hat : ∀ w ∈ vx_atS own ic cls names, w.before args s = true)
    (hgood : ∀ w ∈ Cond.classLink own ik cls :: Cond.initialized cls :: vx_atS own ic cls names, vx_ot w = true)
    (hU : vx_Zq Bundle.tN "UNASSIGNED_STACK" Bundle.steD A s s.heap) (hN : vx_Zq Bundle.tN "SUPPRESSED_SENTINEL" Bundle.listD A s s.heap) (hS : va_S A s.heap H locs) (hsize : ls.size = c.maxLocals)
    (d0 : decode cc pc = .ok (.new ik, 3)) (d3 : decode cc (pc + 3) = .ok (.dup, 1)) (d4 : decode cc (pc + 4) = .ok (.ldc is, 2)) (d6 : decode cc (pc + 6) = .ok (.invokespecial ic, 3)) (d9 : decode cc (pc + 9) = .ok (.athrow, 1))
    (hout : ∀ x ∈ c.exceptionTable.toList, covers x (pc + 9) = false)
    (hRframes : names.length + 3 < R.frames) (hRlocals : (rest.map fun v => v.category).sum + (13 * (names.length + 1) + 43) ≤ R.locals) (hRcells : cells + 1 ≤ R.cells) (hRslots : slots + 6 ≤ R.slots) (hlocks : meth.locks = false)
    (hx : ∀ t : State, s.vm.Alike t.vm → H.size ≤ t.heap.size → (∀ q : Nat, q < H.size → t.heap[q]? = H[q]?) → XC cls s t)
    (hf : ∀ z ∈ locs, free z.base) (hc : cells + 1 ≤ mc) (hs : slots + 6 ≤ ms) :
    W p l e R s m args below meth c H locs cells slots (vx_MQ below Qc XC args s mc ms free) (F0 m pc ls rest) := by
  intro T hT X
  have htr : e.platform.stackTraces = false := (show e.platform.stackTraces = l.stackTraces by rw [X.admits.platform]).trans hl
  have Y := vx_rebase X (R' := { frames := R.frames, locals := R.locals, cells := 1, slots := 6 }) (Nat.le_refl _) (Nat.le_refl _) hRcells hRslots
  obtain ⟨s', hA⟩ : ∃ z, z = (T.setVm s.vm).setFrames (.invoking m args :: below) := ⟨_, rfl⟩
  rw [← hA] at Y
  have hvm : s'.vm = s.vm := by rw [hA]; rfl
  have hhp : s'.heap = H := by rw [hA]; exact hT
  have hW0 : s.WarmedH s'.vm := by rw [hvm]; exact State.WarmedH.refl s
  have hat' : ∀ w ∈ vx_atS own ic cls names, w.before args s' = true := fun w hw => vx_ot_at hW0 hvm.symm (hgood w (List.mem_cons_of_mem _ (List.mem_cons_of_mem _ hw))) (hat w hw)
  have hk' : (Cond.classLink own ik cls).before args s' = true := vx_ot_at hW0 hvm.symm (hgood _ List.mem_cons_self) hk
  have hini' : (Cond.initialized cls).before args s' = true := vx_ot_at hW0 hvm.symm (hgood _ (List.mem_cons_of_mem _ List.mem_cons_self)) hini
  have hU' : vx_Zq Bundle.tN "UNASSIGNED_STACK" Bundle.steD A s' s'.heap := by rw [hhp]; exact vx_Zq.moved hW0.alike (hU.kept hS.2.1)
  have hN' : vx_Zq Bundle.tN "SUPPRESSED_SENTINEL" Bundle.listD A s' s'.heap := by rw [hhp]; exact vx_Zq.moved hW0.alike (hN.kept hS.2.1)
  have h : ∀ w ∈ Bundle.ownAtoms own ic cls names, w.before args s' = true := vx_own hat' (vx_isRefq hU'.1) (vx_isRefq hN'.1) hU'.2.word hN'.2.word
  have hown' : s'.vm.findClass own = some m.cls := by rw [hvm]; exact hown
  have hins : (Cond.instantiable cls 6).before args s' = true := h _ (by simp [Bundle.ownAtoms])
  obtain ⟨vm₁, cX, kX, hfX, hkX, -, -, X₁, st1⟩ := Y.newCold hexec (own := own) (C := cls) (index := ik) (n := 6) hown' hk' hins hini'
    (g := F0 m pc ls rest) rfl (by rw [hb]; exact d0) (Nat.le_refl _) (Nat.le_refl _)
  generalize hT1 : (T.setVm vm₁).pushCell { cls := cX, slots := kX.instanceTypes.map defaultValue, vm := .none } = T1 at X₁ st1
  have hcat : (Value.ref T.heap.size).category = 1 := rfl
  have hcellA : T1.heap[T.heap.size]? = some (freshCell cX kX) := by rw [← hT1]; exact State.heap_pushCell_size _ _
  have d3' : decode c.code (pc + 3) = .ok (.dup, 1) := by rw [hb]; exact d3
  have d4' : decode c.code (pc + 4) = .ok (.ldc is, 2) := by rw [hb]; exact d4
  have hstr' : vk_R own is text sa s' := vk_R.warm hW0 hstr
  obtain ⟨U, hsteps, hrun, hend, hW, hsame, ce, hce, hO⟩ := X₁.ctorThrowS hexec htr (own := own) (cls := cls) (names := names) (ic := ic) hown' hcls hnames h (fun x hx => nomatch hx) hfX hkX hcellA (by rw [hhp, hT]; exact Nat.le_refl _) (msg := .ref sa) rfl
    (g := { method := m, pc := pc + 6, locals := ls, stack := .ref sa :: .ref T.heap.size :: .ref T.heap.size :: rest, locked := none }) rfl hsize rfl rfl (rest := rest) rfl
    (by rw [hb]; exact d6) (by rw [hb]; exact d9) hout hRframes (by simp only [List.map_cons, List.sum_cons, hcat]; omega) hlocks
  obtain ⟨f1, f2⟩ := vx_frame hsame
  rw [hhp] at f1 f2
  have hWs : s.WarmedH U.vm := State.WarmedH.trans hW0 hW
  have hcl : s.vm.findClass cls = some ce.cls := by
    have h9 := hO.cls
    rw [hvm] at h9
    exact h9
  have hall : s.sameButNew ({ U with vm := s.vm } : State) locs mc ms := by
    subst hA
    obtain ⟨e1, e2⟩ := hsame
    rw [State.setFrames_setFrames] at e1
    have h2 : (T.setVm s.vm).sameButNew ({ U with vm := s.vm } : State) [] (0 + 1) (0 + 6) := ⟨e1, e2⟩
    have h3 := X.same.trans h2
    rw [List.append_nil] at h3
    exact h3.mono hc hs
  refine ⟨U, ?_, .threw T.heap.size, hrun, hend, Or.inr ⟨T.heap.size, rfl, cls, ce, locs, hx U hWs.alike f1 (fun q hq => f2 q hq (fun z hz => nomatch hz)), hce, hO.vm, hcl, hWs, hall, hf⟩⟩
  refine st1 _ ?_
  show Steps p.tables e below (T1.setTop { method := m, pc := pc + 3, locals := ls, stack := .ref T.heap.size :: rest, locked := none }) _
  jvm_step X₁.here [X₁.here.top, hexec, d3', Value.category]
  exact X₁.ldcString hexec (own := own) (text := text) (index := is) (a := sa) hown' hstr'.1 hstr'.2
    (g := { method := m, pc := pc + 4, locals := ls, stack := .ref T.heap.size :: .ref T.heap.size :: rest, locked := none }) rfl d4' _ hsteps
/-- 'throw new E("text")', the text by a wide index -/
theorem vx_throwSW {cc : ByteArray} {pc : Nat} (hexec : p.tables.exec = Jvm.exec) (hb : c.code = cc) (hl : l.stackTraces = false) {own cls text : String} {names : List String} {ik is ic mc ms sa : Nat} {A : Nat → Prop}
    (hown : s.vm.findClass own = some m.cls) (hcls : Bundle.fit cls = true) (hnames : ∀ n ∈ names, Bundle.fit n = true)
    (hk : (Cond.classLink own ik cls).before args s = true) (hini : (Cond.initialized cls).before args s = true) (hstr : vk_R own is text sa s) (hat : ∀ w ∈ vx_atS own ic cls names, w.before args s = true)
    (hgood : ∀ w ∈ Cond.classLink own ik cls :: Cond.initialized cls :: vx_atS own ic cls names, vx_ot w = true)
    (hU : vx_Zq Bundle.tN "UNASSIGNED_STACK" Bundle.steD A s s.heap) (hN : vx_Zq Bundle.tN "SUPPRESSED_SENTINEL" Bundle.listD A s s.heap) (hS : va_S A s.heap H locs) (hsize : ls.size = c.maxLocals)
    (d0 : decode cc pc = .ok (.new ik, 3)) (d3 : decode cc (pc + 3) = .ok (.dup, 1)) (d4 : decode cc (pc + 4) = .ok (.ldc_w is, 3)) (d7 : decode cc (pc + 7) = .ok (.invokespecial ic, 3)) (d10 : decode cc (pc + 10) = .ok (.athrow, 1))
    (hout : ∀ x ∈ c.exceptionTable.toList, covers x (pc + 10) = false)
    (hRframes : names.length + 3 < R.frames) (hRlocals : (rest.map fun v => v.category).sum + (13 * (names.length + 1) + 43) ≤ R.locals) (hRcells : cells + 1 ≤ R.cells) (hRslots : slots + 6 ≤ R.slots) (hlocks : meth.locks = false)
    (hx : ∀ t : State, s.vm.Alike t.vm → H.size ≤ t.heap.size → (∀ q : Nat, q < H.size → t.heap[q]? = H[q]?) → XC cls s t)
    (hf : ∀ z ∈ locs, free z.base) (hc : cells + 1 ≤ mc) (hs : slots + 6 ≤ ms) :
    W p l e R s m args below meth c H locs cells slots (vx_MQ below Qc XC args s mc ms free) (F0 m pc ls rest) := by
  intro T hT X
  have htr : e.platform.stackTraces = false := (show e.platform.stackTraces = l.stackTraces by rw [X.admits.platform]).trans hl
  have Y := vx_rebase X (R' := { frames := R.frames, locals := R.locals, cells := 1, slots := 6 }) (Nat.le_refl _) (Nat.le_refl _) hRcells hRslots
  obtain ⟨s', hA⟩ : ∃ z, z = (T.setVm s.vm).setFrames (.invoking m args :: below) := ⟨_, rfl⟩
  rw [← hA] at Y
  have hvm : s'.vm = s.vm := by rw [hA]; rfl
  have hhp : s'.heap = H := by rw [hA]; exact hT
  have hW0 : s.WarmedH s'.vm := by rw [hvm]; exact State.WarmedH.refl s
  have hat' : ∀ w ∈ vx_atS own ic cls names, w.before args s' = true := fun w hw => vx_ot_at hW0 hvm.symm (hgood w (List.mem_cons_of_mem _ (List.mem_cons_of_mem _ hw))) (hat w hw)
  have hk' : (Cond.classLink own ik cls).before args s' = true := vx_ot_at hW0 hvm.symm (hgood _ List.mem_cons_self) hk
  have hini' : (Cond.initialized cls).before args s' = true := vx_ot_at hW0 hvm.symm (hgood _ (List.mem_cons_of_mem _ List.mem_cons_self)) hini
  have hU' : vx_Zq Bundle.tN "UNASSIGNED_STACK" Bundle.steD A s' s'.heap := by rw [hhp]; exact vx_Zq.moved hW0.alike (hU.kept hS.2.1)
  have hN' : vx_Zq Bundle.tN "SUPPRESSED_SENTINEL" Bundle.listD A s' s'.heap := by rw [hhp]; exact vx_Zq.moved hW0.alike (hN.kept hS.2.1)
  have h : ∀ w ∈ Bundle.ownAtoms own ic cls names, w.before args s' = true := vx_own hat' (vx_isRefq hU'.1) (vx_isRefq hN'.1) hU'.2.word hN'.2.word
  have hown' : s'.vm.findClass own = some m.cls := by rw [hvm]; exact hown
  have hins : (Cond.instantiable cls 6).before args s' = true := h _ (by simp [Bundle.ownAtoms])
  obtain ⟨vm₁, cX, kX, hfX, hkX, -, -, X₁, st1⟩ := Y.newCold hexec (own := own) (C := cls) (index := ik) (n := 6) hown' hk' hins hini'
    (g := F0 m pc ls rest) rfl (by rw [hb]; exact d0) (Nat.le_refl _) (Nat.le_refl _)
  generalize hT1 : (T.setVm vm₁).pushCell { cls := cX, slots := kX.instanceTypes.map defaultValue, vm := .none } = T1 at X₁ st1
  have hcat : (Value.ref T.heap.size).category = 1 := rfl
  have hcellA : T1.heap[T.heap.size]? = some (freshCell cX kX) := by rw [← hT1]; exact State.heap_pushCell_size _ _
  have d3' : decode c.code (pc + 3) = .ok (.dup, 1) := by rw [hb]; exact d3
  have d4' : decode c.code (pc + 4) = .ok (.ldc_w is, 3) := by rw [hb]; exact d4
  have hstr' : vk_R own is text sa s' := vk_R.warm hW0 hstr
  obtain ⟨U, hsteps, hrun, hend, hW, hsame, ce, hce, hO⟩ := X₁.ctorThrowS hexec htr (own := own) (cls := cls) (names := names) (ic := ic) hown' hcls hnames h (fun x hx => nomatch hx) hfX hkX hcellA (by rw [hhp, hT]; exact Nat.le_refl _) (msg := .ref sa) rfl
    (g := { method := m, pc := pc + 7, locals := ls, stack := .ref sa :: .ref T.heap.size :: .ref T.heap.size :: rest, locked := none }) rfl hsize rfl rfl (rest := rest) rfl
    (by rw [hb]; exact d7) (by rw [hb]; exact d10) hout hRframes (by simp only [List.map_cons, List.sum_cons, hcat]; omega) hlocks
  obtain ⟨f1, f2⟩ := vx_frame hsame
  rw [hhp] at f1 f2
  have hWs : s.WarmedH U.vm := State.WarmedH.trans hW0 hW
  have hcl : s.vm.findClass cls = some ce.cls := by
    have h9 := hO.cls
    rw [hvm] at h9
    exact h9
  have hall : s.sameButNew ({ U with vm := s.vm } : State) locs mc ms := by
    subst hA
    obtain ⟨e1, e2⟩ := hsame
    rw [State.setFrames_setFrames] at e1
    have h2 : (T.setVm s.vm).sameButNew ({ U with vm := s.vm } : State) [] (0 + 1) (0 + 6) := ⟨e1, e2⟩
    have h3 := X.same.trans h2
    rw [List.append_nil] at h3
    exact h3.mono hc hs
  refine ⟨U, ?_, .threw T.heap.size, hrun, hend, Or.inr ⟨T.heap.size, rfl, cls, ce, locs, hx U hWs.alike f1 (fun q hq => f2 q hq (fun z hz => nomatch hz)), hce, hO.vm, hcl, hWs, hall, hf⟩⟩
  refine st1 _ ?_
  show Steps p.tables e below (T1.setTop { method := m, pc := pc + 3, locals := ls, stack := .ref T.heap.size :: rest, locked := none }) _
  jvm_step X₁.here [X₁.here.top, hexec, d3', Value.category]
  exact X₁.ldcStringW hexec (own := own) (text := text) (index := is) (a := sa) hown' hstr'.1 hstr'.2
    (g := { method := m, pc := pc + 4, locals := ls, stack := .ref T.heap.size :: .ref T.heap.size :: rest, locked := none }) rfl d4' _ hsteps
end Ends
section Bodies
variable {l : Launch}
theorem vx_ofW {y : MethodName} {ws ws' : List Cond} {rm : Room} {Pc : Array Value → State → Prop} {Qc : Array Value → State → Outcome → State → Prop} {XC : String → State → State → Prop} {mc ms : Nat} {free : Addr → Prop} {cc : ByteArray} {maxL : Nat} {ret : Option FieldType}
    (hy : plainName y.cls = true) (hw : ws = Cond.code y cc maxL ret :: ws')
    (body : ∀ p e s m args below meth c s₁, BodyLoose p l y (headSpec ws rm) cc maxL ret e s m args below meth c s₁ → c.maxLocals = maxL → (∀ x ∈ c.exceptionTable.toList, False) → Pc args s →
      W p l e (headSpec ws rm).room s m args below meth c s.heap [] 0 0 (vx_MQ below Qc XC args s mc ms free) (entryFrame m args maxL)) : vx_Met l y ws rm Pc Qc XC mc ms free := by
  refine MetFree.of_bodyS (code := cc) (maxLocals := maxL) (ret := ret) hy ?_ ?_
  · intro args s m h hn
    obtain ⟨meth, c, h1, h2, h3, h4, h5, h6, -, -⟩ := Cond.code_spec hn (atoms_spec (ws := ws) h _ (by rw [hw]; exact List.mem_cons_self))
    exact ⟨meth, c, h1, h2, h3, h4, h5, h6⟩
  · intro p e s m args below meth c s₁ B hml hP _
    have hh0 : s₁.heap = s.heap := by rw [B.state]; rfl
    have ht : ∀ x ∈ c.exceptionTable.toList, False := by
      obtain ⟨meth9, c9, h1, h2, -, -, -, -, h7, -⟩ := Cond.code_spec B.named (atoms_spec (ws := ws) B.pre _ (by rw [hw]; exact List.mem_cons_self))
      cases Option.some.inj (h1.symm.trans B.method)
      cases Option.some.inj (h2.symm.trans (Stand.of_body B).code)
      intro x hx
      rw [Array.isEmpty_iff.mp h7] at hx
      cases hx
    obtain ⟨t, a1, o, b1, b2, b3⟩ := body p e s m args below meth c s₁ B hml ht hP s₁ hh0 (Stand.of_body B)
    exact ⟨t, o, a1, b1, b2, b3⟩
/-- the table of a body with handlers -/
theorem vx_table {p : Program} {x y : MethodName} {S : Spec} {cc bytes : ByteArray} {maxL maxL' : Nat} {ret ret' : Option FieldType} {e : Env} {s s₁ : State} {m : MethodId} {args : Array Value} {below : List Frame} {meth : Method} {c : Code} {hh : List (Nat × Nat × Nat × Nat)}
    (B : BodyLoose p l y S cc maxL ret e s m args below meth c s₁) (h : (Cond.codeWith y bytes maxL' ret' hh).before args s = true) : c.exceptionTable.toList = tableOf hh := by
  obtain ⟨m9, meth9, c9, hn9, h1, h2, -, -, h6, -⟩ := Cond.codeWith_spec h
  cases Option.some.inj (hn9.symm.trans B.named)
  cases Option.some.inj (h1.symm.trans B.method)
  cases Option.some.inj (h2.symm.trans (Stand.of_body B).code)
  rw [← h6, table_eq]
end Bodies
end VXA
/-! ===== END ===== -/
/-! ===== BEGIN a static call of a method with an exception table ===== -/
section VXS
variable {p : Program} {l : Launch} {e : Env} {R : Room} {s : State} {m : MethodId} {args : Array Value} {below : List Frame} {meth : Method} {c : Code} {T : State} {H : Heap} {locs : List Loc} {cells slots : Nat}
abbrev vx_CSW (R : Room) (s : State) (args : Array Value) (own : String) (index : Nat) (y : MethodName) (bytes : ByteArray) (maxL : Nat) (ret : Option FieldType) (hh : List (Nat × Nat × Nat × Nat)) (ws : List Cond) (rm : Room) (mc ms n : Nat) : Prop :=
  (rm.cells = mc ∧ rm.slots = ms ∧ rm.frames + 1 ≤ R.frames ∧ 8 + (maxL + 11) + rm.locals ≤ R.locals ∧ (∀ w ∈ ws, ∀ (a' : Array Value) (U : State), s.WarmedH U.vm → w.before a' U = true) ∧ Cond.codeWith y bytes maxL ret hh ∈ ws) ∧
  (Cond.codeWith y bytes maxL ret hh).before args s = true ∧ (Cond.initialized y.cls).before args s = true ∧ (y.cls ≠ "java/lang/invoke/MethodHandle" ∧ y.cls ≠ "java/lang/invoke/VarHandle") ∧
  (∀ sig, parseMethodDescriptor y.desc = some sig → n = sig.parameters.length) ∧ (Cond.methodLink own index y).before args s = true ∧ (Cond.static y).before args s = true
theorem vx_cwSW {own : String} {index maxL mc ms : Nat} {y : MethodName} {bytes : ByteArray} {ret : Option FieldType} {hh : List (Nat × Nat × Nat × Nat)} {Ts ws ws' : List Cond} {rm : Room} (n : Nat) (ht : ∀ w ∈ Ts, w.before args s = true) (hT : GoodIn Ts (va_wsS own index y ws)) (hw : ws = Cond.codeWith y bytes maxL ret hh :: ws') (hrc : rm.cells = mc) (hrs : rm.slots = ms)
    (hd : y.cls ≠ "java/lang/invoke/MethodHandle" ∧ y.cls ≠ "java/lang/invoke/VarHandle" ∧ (parseMethodDescriptor y.desc).map (fun d => d.parameters.length) = some n) (hR : rm.frames + 1 ≤ R.frames ∧ 8 + (maxL + 11) + rm.locals ≤ R.locals) :
    vx_CSW R s args own index y bytes maxL ret hh ws rm mc ms n := by
  have ok : ∀ w ∈ va_wsS own index y ws, w.before args s = true := fun w h => ht w (hT w h).1
  have hG : GoodIn Ts ws := fun w h => hT w (by unfold va_wsS; exact List.mem_append_right _ h)
  have hc : Cond.codeWith y bytes maxL ret hh ∈ ws := by rw [hw]; exact List.mem_cons_self
  refine ⟨⟨hrc, hrs, hR.1, hR.2, pay_in ht hG, hc⟩, ht _ (hG _ hc).1, ok _ (by simp [va_wsS]), ⟨hd.1, hd.2.1⟩, fun sig h => ?_, ok _ (by simp [va_wsS]), ok _ (by simp [va_wsS])⟩
  have h2 := hd.2.2
  rw [h] at h2
  exact (Option.some.inj h2).symm
theorem vx_callSW (X : Stand p l e R s m args below meth c T locs cells slots) (hexec : p.tables.exec = Jvm.exec) {own : String} {index : Nat} {y : MethodName} {bytes : ByteArray} {maxL : Nat} {ret : Option FieldType} {hh : List (Nat × Nat × Nat × Nat)}
    (hown : s.vm.findClass own = some m.cls) (hlink : (Cond.methodLink own index y).before args s = true) (hstat : (Cond.static y).before args s = true) (hinit : (Cond.initialized y.cls).before args s = true)
    (hcode : (Cond.codeWith y bytes maxL ret hh).before args s = true) (hy : y.cls ≠ "java/lang/invoke/MethodHandle" ∧ y.cls ≠ "java/lang/invoke/VarHandle")
    {W9 : Nat} {Pre : Pt → Array Value → Prop} {Post : Pt → Array Value → Option Value → Pt → Prop} (hK : Back l R p e below s args y 3 W9 Pre Post)
    {g : JFrame} (hg : g.method = m) (hsize : g.locals.size = c.maxLocals) {argsL rest : List Value} (hlen : ∀ sig, parseMethodDescriptor y.desc = some sig → argsL.length = sig.parameters.length)
    (hstack : g.stack = argsL.reverse ++ rest) (hW : 2 * g.monitorRoom + (rest.map fun v => v.category).sum ≤ W9) (hdg : decode c.code g.pc = .ok (.invokestatic index, 3))
    (hpre : ∀ vm₁, s.WarmedH vm₁ → Pre ⟨T.setVm vm₁, locs, cells, slots⟩ argsL.toArray) :
    ∃ (v : Option Value) (vm₁ : Vm) (B : Pt), s.WarmedH vm₁ ∧ Stand p l e R s m args below meth c B.U B.locs B.cells B.slots ∧ Post ⟨T.setVm vm₁, locs, cells, slots⟩ argsL.toArray v B ∧
      ∀ target, Steps p.tables e below (B.U.setTop { g with pc := g.pc + 3, stack := v.toList ++ rest }) target → Steps p.tables e below (T.setTop g) target := by
  obtain ⟨mk, methM, cM, hnamed, hmethM, -, -, -, -, -, -, hsigM⟩ := Cond.codeWith_spec hcode
  have hstatic : methM.isStatic = true := Cond.static_spec hnamed hmethM hstat
  obtain ⟨kP, hkP, -⟩ := className_of_methodNamed hnamed
  have hinitP : kP.init = .initialized := Cond.initialized_spec (findClass_of_methodNamed hnamed) hkP hinit
  obtain ⟨vm₁, X₁, hstep₁⟩ := X.invokestatic hexec hown hlink hnamed hmethM hstatic hkP hinitP hy (g := g) hg (argsL := argsL) (rest := rest) (hlen _ hsigM) hstack hdg
  obtain ⟨v, B, X', hpost, hsteps⟩ := hK m meth c ⟨T.setVm vm₁, locs, cells, slots⟩ { g with stack := rest } (.invokestatic index) mk argsL.toArray X₁ hg hsize hdg hW (X₁.named hnamed) (hpre vm₁ X₁.warmed)
  exact ⟨v, vm₁, B, X₁.warmed, X', hpost, fun target h => hstep₁ _ fun acts => by rw [doInvoke_state]; exact hsteps.trans h⟩
theorem vx_runSW {y : MethodName} {bytes cc : ByteArray} {maxL nL mc ms n index : Nat} {ret : Option FieldType} {hh : List (Nat × Nat × Nat × Nat)} {ws : List Cond} {rm : Room} {Pc : Array Value → State → Prop} {Qc : Array Value → State → Outcome → State → Prop} {free : Addr → Prop} {Ts : List Cond} {own : String} {As rest : List Value} {g : JFrame}
    (S : CallFix p m c cc nL s args Ts own) (hM : Met l y ws rm Pc Qc mc ms free) (cw : vx_CSW R s args own index y bytes maxL ret hh ws rm mc ms n) (hp : PreS s H Pc As)
    (hg : g.method = m) (hn : As.length = n) (hsize : g.locals.size = nL) (hstack : g.stack = As.reverse ++ rest) (hW : 2 * g.monitorRoom + (rest.map fun v => v.category).sum ≤ 8) (hdg : decode cc g.pc = .ok (.invokestatic index, 3)) (hf : cells + mc ≤ R.cells ∧ slots + ms ≤ R.slots) :
    va_Run p l e R s m args below meth c H locs cells slots mc ms g rest (Qc As.toArray) (free) := by
  obtain ⟨⟨hrc, hrs, hfr, hlo, hws, hcw⟩, hcode, hini, hy, hlen, hl, hstt⟩ := cw
  have hK : Back l R p e below s args y 3 8 (PreOf R mc ms Pc) (PostOf Qc mc ms free) := va_backW (hh := hh) (bytes := bytes) (maxL := maxL) (ret := ret) hM hp.1 hrc hrs hfr hlo hws hcw (fun a' U hW => word_at hW (Or.inl (by first | rfl | simp [Cond.onTables, Cond.keeps, Cond.steady])) hini)
  obtain ⟨hx, hb, hml, ho, -⟩ := S
  intro T hT X
  obtain ⟨v, vm₁, ⟨U', l2, c2, s2⟩, hW₁, X', ⟨g', mk, t, L, e1, e2, hq, h1, hL, h2, h3⟩, st⟩ := vx_callSW X hx (hh := hh) (bytes := bytes) (maxL := maxL) (ret := ret) ho hl hstt hini hcode hy hK hg (hsize.trans hml.symm) (argsL := As) (rest := rest) (fun sig h => hn.trans (hlen sig h)) hstack hW (by rw [hb]; exact hdg)
    (fun vm₁ hW₁ => ⟨hf.1, hf.2, hp.2 (T.setVm vm₁) hT hW₁⟩)
  dsimp only [Pt.U, Pt.locs, Pt.cells, Pt.slots] at X' e1 e2 h1 h2 h3 st
  subst h1; subst h2; subst h3
  exact ⟨v, (T.setVm vm₁).calling g' mk As.toArray, t, U', L, hT, X', hL, e1, e2, hq, st⟩
/-- not caught here, past rows that name other classes: it goes on to the caller -/
theorem vx_outP {p : Program} {l : Launch} {e : Env} {R : Room} {s : State} {m : MethodId} {args : Array Value} {below : List Frame} {meth : Method} {c : Code} {H : Heap} {locs : List Loc} {cells slots : Nat} {free : Addr → Prop} {ls : Array Slot} {rest : List Value} {Qc : Array Value → State → Outcome → State → Prop} {XC : String → State → State → Prop}
    {pc : Nat} {own E : String} {ce : Cell} {q : Addr} {mc ms : Nat} (hown : s.vm.findClass own = some m.cls) (hlocks : meth.locks = false)
    (hpass : ∀ z ∈ c.exceptionTable.toList, covers z pc = false ∨ (z.catchType ≠ 0 ∧ ∃ nm : String, (Cond.classLink own z.catchType nm).before args s = true ∧ va_Nc E nm s)) (hcell : H[q]? = some ce) (hv : ce.vm = .none) (hcl : s.vm.findClass E = some ce.cls)
    (hx : ∀ t : State, t.heap = H → s.vm.Alike t.vm → XC E s t) (hf : ∀ z ∈ locs, free z.base) (hc : cells ≤ mc) (hs : slots ≤ ms) :
    vx_W p l e R s m args below meth c H locs cells slots (vx_MQ below Qc XC args s mc ms free) (F0 m pc ls rest) q := by
  intro T hT X
  have hpl : e.platform.magicAccessors = ({} : Platform).magicAccessors := by rw [X.admits.platform]
  obtain ⟨vm', hW', X', st⟩ := X.outThrough hlocks q (g := F0 m pc ls rest) rfl rfl rfl (cell := ce) (by rw [hT]; exact hcell) (by rw [hv]; rfl)
    (by obtain ⟨k9, h9, -⟩ := Vm.findClass_spec hcl; exact ⟨k9, h9⟩) (fun z hz => by
      rcases hpass z hz with h | ⟨hz0, nm, hl1, hn1⟩
      · exact Or.inl h
      · obtain ⟨c6, hc6, hcl6⟩ := Cond.classLink_spec hown hl1 e.platform hpl
        obtain ⟨a8, b8, h1, h2, h3⟩ := hn1
        cases Option.some.inj (h1.symm.trans hcl)
        cases Option.some.inj (h2.symm.trans hc6)
        exact Or.inr ⟨hz0, _, hcl6, h3⟩)
  obtain ⟨g₀, hfr⟩ := X'.frames_eq
  have hcell9 : ((T.setVm vm').setFrames (.throwing q :: below)).heap[q]? = some ce := by
    show T.heap[q]? = some ce
    rw [hT]; exact hcell
  have hend : Ended ((T.setVm vm').setFrames (.throwing q :: below)) below (.threw q) := State.frames_setFrames _ (State.cur_lt_of_frames hfr)
  refine ⟨(T.setVm vm').setFrames (.throwing q :: below), ?_, .threw q, X'.here.running, hend, Or.inr ⟨q, rfl, E, ce, locs, hx _ hT (X'.ends _).1.alike, hcell9, hv, hcl, (X'.ends _).1, (X'.ends _).2.mono hc hs, hf⟩⟩
  rw [X.pushThrowing_eq]
  exact st
/-- a thing of a world lies in the heap -/
theorem vx_lt {D : va_G} {cl : List vw_C} {ws : va_W} {H1 : Heap} (h : va_P D cl ws H1) {k : Nat} {q : Nat × va_E} (hk : ws[k]? = some q) : q.1 < H1.size := (h k q hk).lt
end VXS
/-! ===== END ===== -/
/-! ===== BEGIN methods with a table of their own: called by a name, returning or throwing ===== -/
section VXH
/-! vx_backW, vx_callVX, vx_callSX, vx_callVW, vx_runVW, vx_runVX, vx_runSX, vx_ofWH follow the same proofs as their sisters above (Free/Laws.lean, Shelf42/LK1.lean); vx_outP calls Shelf42/NT130.lean (outThrough). -/
section
variable {l : Launch} {R : Room} {p : Program} {e : Env} {below : List Frame} {s : State} {sargs : Array Value} {y : MethodName} {len W9 : Nat}
theorem vx_backW {ws : List Cond} {rm : Room} {Pc : Array Value → State → Prop} {Qc : Array Value → State → Outcome → State → Prop} {XC : String → State → State → Prop} {mc ms : Nat} {free : Addr → Prop} {bytes : ByteArray} {maxL : Nat} {ret : Option FieldType} {hh : List (Nat × Nat × Nat × Nat)}
    (hM : vx_Met l y ws rm Pc Qc XC mc ms free) (hblind : FrameBlind Pc) (hrc : rm.cells = mc) (hrs : rm.slots = ms)
    (hframes : rm.frames + 1 ≤ R.frames) (hlocals : W9 + (maxL + 11) + rm.locals ≤ R.locals)
    (hws : ∀ w ∈ ws, ∀ a' U, s.WarmedH U.vm → w.before a' U = true) (hcode : Cond.codeWith y bytes maxL ret hh ∈ ws) (hinit : ∀ a' U, s.WarmedH U.vm → (Cond.initialized y.cls).before a' U = true) :
    vx_Back l R p e below s sargs y len W9 (PreOf R mc ms Pc) (PostOf Qc mc ms free) (vx_Post XC mc ms free) := by
  intro m meth c A g ig mk a X hg hsize hdg hW hn hp
  have h1 : (headSpec ws rm).pre.before a A.U = true := atoms_intro fun w hw => hws w hw _ _ X.warmed
  have h2 : (Cond.codeWith y bytes maxL ret hh).before a A.U = true := hws _ hcode _ _ X.warmed
  have h3 : (Cond.initialized y.cls).before a A.U = true := hinit _ _ X.warmed
  have h4 : A.cells + (headSpec ws rm).room.cells ≤ R.cells := by rw [show (headSpec ws rm).room.cells = mc from hrc]; exact hp.1
  have h5 : A.slots + (headSpec ws rm).room.slots ≤ R.slots := by rw [show (headSpec ws rm).room.slots = ms from hrs]; exact hp.2.1
  have hPc : Pc a (A.U.calling g mk a) := hblind _ _ _ _ hp.2.2
  obtain ⟨U, Ls, c0, s0⟩ := A
  dsimp only [Pt.U, Pt.locs, Pt.cells, Pt.slots] at h1 h2 h3 h4 h5 X hn hPc ⊢
  obtain ⟨m9, methY, cY, hn9, hmY, hcY, -, hlY, -⟩ := Cond.codeWith_spec h2
  cases Option.some.inj (hn9.symm.trans hn)
  obtain ⟨kY, hkY, -⟩ := className_of_methodNamed hn
  have hinitY : kY.init = .initialized := Cond.initialized_spec (findClass_of_methodNamed hn) hkY h3
  have h : At U g.method c below := by rw [hg]; exact X.here
  have hlocals9 : W9 + (maxL + 11) + (headSpec ws rm).room.locals ≤ R.locals := hlocals
  have happ : (headSpec ws rm).appliesLoose y e.platform (U.calling g mk a) = true :=
    Spec.appliesLoose_calling (g := g) h hdg hn hkY hinitY
      (X.room_calling (g := g) (R' := (headSpec ws rm).room) hsize hmY hcY hframes (by rw [hlY]; omega) h4 h5) h1
  obtain ⟨mid, hmid⟩ := h.above
  have hfr : (U.setTop g).frames = (.java g :: mid) ++ below := by rw [State.frames_setTop' g h.top, hmid]; rfl
  obtain ⟨o, s₂, hsteps, -, hend, hq⟩ := Steps.callFree hM p X.admits X.cas X.clock (acts := []) hfr happ hPc trivial
  have hq' : vx_Q Qc XC mc ms free a (U.calling g mk a) o s₂ := hq
  rw [State.frames_setTop' g h.top] at hend
  obtain ⟨g₀, hg0⟩ := Option.isSome_iff_exists.mp h.top
  obtain ⟨r, hr⟩ := State.topJava?_eq_some.mp hg0
  have hr' : (({ U with heap := s₂.heap, slotsUsed := s₂.slotsUsed } : State).setVm s₂.vm).frames = .java g₀ :: r := hr
  rcases hq' with ⟨hqc, L, hfe, hL⟩ | ⟨q, rfl, E, ce, L, hx, hce, hcv, hcl, hW₂, hsm, hL⟩
  · obtain ⟨⟨v, rfl⟩, hW₂, e2, q2, q3, q4, q5, q6⟩ := id hfe
    have e3 : s₂ = ({ (U.calling g mk a).setFrames s₂.frames with heap := s₂.heap, slotsUsed := s₂.slotsUsed } : State).setVm s₂.vm := by
      have : s₂ = ({ s₂ with vm := (U.calling g mk a).vm } : State).setVm s₂.vm := rfl
      rw [e2] at this
      exact this
    obtain ⟨c₂, i₂, len₂, hc₂, hd₂, hf₂⟩ := hend
    have hW' : U.WarmedH s₂.vm := hW₂
    have hcc : c₂ = c := by
      have h1 : s₂.code? g.method = U.code? g.method := by
        rw [State.code?_eq, State.code?_eq, hW'.alike.method?]
      exact Option.some.inj (hc₂.symm.trans (h1.trans h.code))
    subst hcc
    have hlen : len₂ = len := by rw [hdg] at hd₂; cases hd₂; rfl
    subst hlen
    have hs₂ : s₂ = (({ U with heap := s₂.heap, slotsUsed := s₂.slotsUsed } : State).setVm s₂.vm).setTop { g with pc := g.pc + len₂, stack := v.toList ++ g.stack } := by
      refine e3.trans ?_
      rw [hf₂, State.calling_eq h.top, State.setFrames_setFrames, State.setTop_of_frames _ hr', hr]
      rfl
    have hsame : U.sameButNew ({ U with heap := s₂.heap, slotsUsed := s₂.slotsUsed } : State) L mc ms := by
      refine ⟨?_, q2, q3, q4, q5, q6⟩
      obtain ⟨t, ht, -⟩ := State.frames_cons hr
      show ({ U with heap := s₂.heap, slotsUsed := s₂.slotsUsed } : State) = { U.setFrames U.frames with heap := s₂.heap, slotsUsed := s₂.slotsUsed }
      rw [State.setFrames_self ht]
    subst hg
    refine Or.inl ⟨v, ⟨(({ U with heap := s₂.heap, slotsUsed := s₂.slotsUsed } : State).setVm s₂.vm), Ls ++ L, c0 + mc, s0 + ms⟩,
      ⟨X.admits, X.cas, X.clock, X.frames, X.room, X.hears, X.method, X.code, (X.here.setHeapUsed s₂.heap s₂.slotsUsed).setVm hW'.alike, X.tail, State.WarmedH.trans X.warmed hW', X.limits, X.bytes, X.same.trans (hsame.setVm s.vm)⟩,
      ⟨g, mk, s₂, L, rfl, rfl, hqc, rfl, hL, rfl, rfl⟩, ?_⟩
    show Steps p.tables e below _ ((({ U with heap := s₂.heap, slotsUsed := s₂.slotsUsed } : State).setVm s₂.vm).setTop { g with pc := g.pc + len₂, stack := v.toList ++ g.stack })
    rw [← hs₂]
    exact hsteps
  · obtain ⟨e2, q2, q3, q4, q5, q6⟩ := id hsm
    have e3 : s₂ = ({ (U.calling g mk a).setFrames s₂.frames with heap := s₂.heap, slotsUsed := s₂.slotsUsed } : State).setVm s₂.vm := by
      have : s₂ = ({ s₂ with vm := (U.calling g mk a).vm } : State).setVm s₂.vm := rfl
      rw [e2] at this
      exact this
    have hf₂ : s₂.frames = .throwing q :: .java g :: U.frames.tail := hend
    have hW' : U.WarmedH s₂.vm := hW₂
    have hs₂ : s₂ = ((({ U with heap := s₂.heap, slotsUsed := s₂.slotsUsed } : State).setVm s₂.vm).setTop g).pushFrame (.throwing q) := by
      refine e3.trans ?_
      rw [hf₂, State.calling_eq h.top, State.setFrames_setFrames, State.pushFrame, State.frames_setTop _ hr', State.setTop_of_frames _ hr', State.setFrames_setFrames, hr]
      rfl
    have hsame : U.sameButNew ({ U with heap := s₂.heap, slotsUsed := s₂.slotsUsed } : State) L mc ms := by
      refine ⟨?_, q2, q3, q4, q5, q6⟩
      obtain ⟨t, ht, -⟩ := State.frames_cons hr
      show ({ U with heap := s₂.heap, slotsUsed := s₂.slotsUsed } : State) = { U.setFrames U.frames with heap := s₂.heap, slotsUsed := s₂.slotsUsed }
      rw [State.setFrames_self ht]
    subst hg
    refine Or.inr ⟨q, ⟨(({ U with heap := s₂.heap, slotsUsed := s₂.slotsUsed } : State).setVm s₂.vm), Ls ++ L, c0 + mc, s0 + ms⟩,
      ⟨X.admits, X.cas, X.clock, X.frames, X.room, X.hears, X.method, X.code, (X.here.setHeapUsed s₂.heap s₂.slotsUsed).setVm hW'.alike, X.tail, State.WarmedH.trans X.warmed hW', X.limits, X.bytes, X.same.trans (hsame.setVm s.vm)⟩,
      ⟨g, mk, s₂, L, E, ce, rfl, rfl, hx, hce, hcv, hcl, rfl, hL, rfl, rfl⟩, ?_⟩
    show Steps p.tables e below _ (((({ U with heap := s₂.heap, slotsUsed := s₂.slotsUsed } : State).setVm s₂.vm).setTop g).pushFrame (.throwing q))
    rw [← hs₂]
    exact hsteps
end
variable {p : Program} {l : Launch} {e : Env} {R : Room} {s : State} {m : MethodId} {args : Array Value} {below : List Frame} {meth : Method} {c : Code} {T : State} {H : Heap} {locs : List Loc} {cells slots : Nat}
theorem vx_callVX (X : Stand p l e R s m args below meth c T locs cells slots) (hexec : p.tables.exec = Jvm.exec) {own C : String} {index : Nat} {y : MethodName} {bytes : ByteArray} {maxL : Nat} {ret : Option FieldType} {hh : List (Nat × Nat × Nat × Nat)}
    (hown : s.vm.findClass own = some m.cls) (hlink : (Cond.methodLink own index y).before args s = true) (hinst : (Cond.instanceMethod y).before args s = true) (hsel : (Cond.selects C y y).before args s = true)
    (hcode : (Cond.codeWith y bytes maxL ret hh).before args s = true) (hy : y.cls ≠ "java/lang/invoke/MethodHandle" ∧ y.cls ≠ "java/lang/invoke/VarHandle")
    {W9 : Nat} {Pre : Pt → Array Value → Prop} {Post : Pt → Array Value → Option Value → Pt → Prop} {PostX : Pt → Array Value → Addr → Pt → Prop} (hK : vx_Back l R p e below s args y 3 W9 Pre Post PostX)
    {b : Addr} {cellB : Cell} (hcell : T.heap[b]? = some cellB) (hobj : cellB.vm.isStatics = false) (hcls : s.vm.findClass C = some cellB.cls)
    {g : JFrame} (hg : g.method = m) (hsize : g.locals.size = c.maxLocals) {argsL rest : List Value} (hlen : ∀ sig, parseMethodDescriptor y.desc = some sig → argsL.length = sig.parameters.length)
    (hstack : g.stack = argsL.reverse ++ .ref b :: rest) (hW : 2 * g.monitorRoom + (rest.map fun v => v.category).sum ≤ W9) (hdg : decode c.code g.pc = .ok (.invokevirtual index, 3))
    (hpre : ∀ vm₁, s.WarmedH vm₁ → Pre ⟨T.setVm vm₁, locs, cells, slots⟩ (Value.ref b :: argsL).toArray) :
    (∃ (v : Option Value) (vm₁ : Vm) (B : Pt), s.WarmedH vm₁ ∧ Stand p l e R s m args below meth c B.U B.locs B.cells B.slots ∧ Post ⟨T.setVm vm₁, locs, cells, slots⟩ (Value.ref b :: argsL).toArray v B ∧
      ∀ target, Steps p.tables e below (B.U.setTop { g with pc := g.pc + 3, stack := v.toList ++ rest }) target → Steps p.tables e below (T.setTop g) target) ∨
    (∃ (q : Addr) (vm₁ : Vm) (B : Pt), s.WarmedH vm₁ ∧ Stand p l e R s m args below meth c B.U B.locs B.cells B.slots ∧ PostX ⟨T.setVm vm₁, locs, cells, slots⟩ (Value.ref b :: argsL).toArray q B ∧
      Steps p.tables e below (T.setTop g) ((B.U.setTop { g with stack := rest }).pushFrame (.throwing q))) := by
  obtain ⟨mk, methM, hnamed, hmethM, hstM, habM⟩ := Cond.instanceMethod_spec hinst
  obtain ⟨m8, methM', cM, hn8, hmethM', -, -, -, -, -, -, hsigM⟩ := Cond.codeWith_spec hcode
  cases Option.some.inj (hn8.symm.trans hnamed)
  cases hmethM.symm.trans hmethM'
  obtain ⟨c2, r2, m2, q1, q2, q3, q4, kP, hkP, hkPi⟩ := Cond.selects_spec hsel
  cases hcls.symm.trans q1
  cases (State.methodFound?_of_named hnamed hy).symm.trans q2
  cases hnamed.symm.trans q3
  have hselP : selectMethod e.platform s.vm cellB.cls mk = .method mk := by rw [Launch.admits_selectMethod X.admits]; exact q4
  obtain ⟨vm₁, X₁, hstep₁⟩ := X.invokevirtual hexec hown hlink hnamed hmethM hstM hkP hkPi hy (a := b) (cell := cellB) hcell
    (fun z h => by rw [h] at hobj; cases hobj) hselP hmethM habM hkP hkPi (g := g) hg (argsL := argsL) (rest := rest) (hlen _ hsigM) hstack hdg
  rcases hK m meth c ⟨T.setVm vm₁, locs, cells, slots⟩ { g with stack := rest } (.invokevirtual index) mk (Value.ref b :: argsL).toArray X₁ hg hsize hdg hW (X₁.named hnamed) (hpre vm₁ X₁.warmed) with ⟨v, B, X', hpost, hsteps⟩ | ⟨q, B, X', hpost, hsteps⟩
  · exact Or.inl ⟨v, vm₁, B, X₁.warmed, X', hpost, fun target h => hstep₁ _ fun acts => by rw [doInvoke_state]; exact hsteps.trans h⟩
  · exact Or.inr ⟨q, vm₁, B, X₁.warmed, X', hpost, hstep₁ _ fun acts => by rw [doInvoke_state]; exact hsteps⟩
theorem vx_callSX (X : Stand p l e R s m args below meth c T locs cells slots) (hexec : p.tables.exec = Jvm.exec) {own : String} {index : Nat} {y : MethodName} {bytes : ByteArray} {maxL : Nat} {ret : Option FieldType} {hh : List (Nat × Nat × Nat × Nat)}
    (hown : s.vm.findClass own = some m.cls) (hlink : (Cond.methodLink own index y).before args s = true) (hstat : (Cond.static y).before args s = true) (hinit : (Cond.initialized y.cls).before args s = true)
    (hcode : (Cond.codeWith y bytes maxL ret hh).before args s = true) (hy : y.cls ≠ "java/lang/invoke/MethodHandle" ∧ y.cls ≠ "java/lang/invoke/VarHandle")
    {W9 : Nat} {Pre : Pt → Array Value → Prop} {Post : Pt → Array Value → Option Value → Pt → Prop} {PostX : Pt → Array Value → Addr → Pt → Prop} (hK : vx_Back l R p e below s args y 3 W9 Pre Post PostX)
    {g : JFrame} (hg : g.method = m) (hsize : g.locals.size = c.maxLocals) {argsL rest : List Value} (hlen : ∀ sig, parseMethodDescriptor y.desc = some sig → argsL.length = sig.parameters.length)
    (hstack : g.stack = argsL.reverse ++ rest) (hW : 2 * g.monitorRoom + (rest.map fun v => v.category).sum ≤ W9) (hdg : decode c.code g.pc = .ok (.invokestatic index, 3))
    (hpre : ∀ vm₁, s.WarmedH vm₁ → Pre ⟨T.setVm vm₁, locs, cells, slots⟩ argsL.toArray) :
    (∃ (v : Option Value) (vm₁ : Vm) (B : Pt), s.WarmedH vm₁ ∧ Stand p l e R s m args below meth c B.U B.locs B.cells B.slots ∧ Post ⟨T.setVm vm₁, locs, cells, slots⟩ argsL.toArray v B ∧
      ∀ target, Steps p.tables e below (B.U.setTop { g with pc := g.pc + 3, stack := v.toList ++ rest }) target → Steps p.tables e below (T.setTop g) target) ∨
    (∃ (q : Addr) (vm₁ : Vm) (B : Pt), s.WarmedH vm₁ ∧ Stand p l e R s m args below meth c B.U B.locs B.cells B.slots ∧ PostX ⟨T.setVm vm₁, locs, cells, slots⟩ argsL.toArray q B ∧
      Steps p.tables e below (T.setTop g) ((B.U.setTop { g with stack := rest }).pushFrame (.throwing q))) := by
  obtain ⟨mk, methM, cM, hnamed, hmethM, -, -, -, -, -, -, hsigM⟩ := Cond.codeWith_spec hcode
  have hstatic : methM.isStatic = true := Cond.static_spec hnamed hmethM hstat
  obtain ⟨kP, hkP, -⟩ := className_of_methodNamed hnamed
  have hinitP : kP.init = .initialized := Cond.initialized_spec (findClass_of_methodNamed hnamed) hkP hinit
  obtain ⟨vm₁, X₁, hstep₁⟩ := X.invokestatic hexec hown hlink hnamed hmethM hstatic hkP hinitP hy (g := g) hg (argsL := argsL) (rest := rest) (hlen _ hsigM) hstack hdg
  rcases hK m meth c ⟨T.setVm vm₁, locs, cells, slots⟩ { g with stack := rest } (.invokestatic index) mk argsL.toArray X₁ hg hsize hdg hW (X₁.named hnamed) (hpre vm₁ X₁.warmed) with ⟨v, B, X', hpost, hsteps⟩ | ⟨q, B, X', hpost, hsteps⟩
  · exact Or.inl ⟨v, vm₁, B, X₁.warmed, X', hpost, fun target h => hstep₁ _ fun acts => by rw [doInvoke_state]; exact hsteps.trans h⟩
  · exact Or.inr ⟨q, vm₁, B, X₁.warmed, X', hpost, hstep₁ _ fun acts => by rw [doInvoke_state]; exact hsteps⟩
theorem vx_callVW (X : Stand p l e R s m args below meth c T locs cells slots) (hexec : p.tables.exec = Jvm.exec) {own C : String} {index : Nat} {y : MethodName} {bytes : ByteArray} {maxL : Nat} {ret : Option FieldType} {hh : List (Nat × Nat × Nat × Nat)}
    (hown : s.vm.findClass own = some m.cls) (hlink : (Cond.methodLink own index y).before args s = true) (hinst : (Cond.instanceMethod y).before args s = true) (hsel : (Cond.selects C y y).before args s = true)
    (hcode : (Cond.codeWith y bytes maxL ret hh).before args s = true) (hy : y.cls ≠ "java/lang/invoke/MethodHandle" ∧ y.cls ≠ "java/lang/invoke/VarHandle")
    {W9 : Nat} {Pre : Pt → Array Value → Prop} {Post : Pt → Array Value → Option Value → Pt → Prop} (hK : Back l R p e below s args y 3 W9 Pre Post)
    {b : Addr} {cellB : Cell} (hcell : T.heap[b]? = some cellB) (hobj : cellB.vm.isStatics = false) (hcls : s.vm.findClass C = some cellB.cls)
    {g : JFrame} (hg : g.method = m) (hsize : g.locals.size = c.maxLocals) {argsL rest : List Value} (hlen : ∀ sig, parseMethodDescriptor y.desc = some sig → argsL.length = sig.parameters.length)
    (hstack : g.stack = argsL.reverse ++ .ref b :: rest) (hW : 2 * g.monitorRoom + (rest.map fun v => v.category).sum ≤ W9) (hdg : decode c.code g.pc = .ok (.invokevirtual index, 3))
    (hpre : ∀ vm₁, s.WarmedH vm₁ → Pre ⟨T.setVm vm₁, locs, cells, slots⟩ (Value.ref b :: argsL).toArray) :
    ∃ (v : Option Value) (vm₁ : Vm) (B : Pt), s.WarmedH vm₁ ∧ Stand p l e R s m args below meth c B.U B.locs B.cells B.slots ∧ Post ⟨T.setVm vm₁, locs, cells, slots⟩ (Value.ref b :: argsL).toArray v B ∧
      ∀ target, Steps p.tables e below (B.U.setTop { g with pc := g.pc + 3, stack := v.toList ++ rest }) target → Steps p.tables e below (T.setTop g) target := by
  obtain ⟨mk, methM, hnamed, hmethM, hstM, habM⟩ := Cond.instanceMethod_spec hinst
  obtain ⟨m8, methM', cM, hn8, hmethM', -, -, -, -, -, -, hsigM⟩ := Cond.codeWith_spec hcode
  cases Option.some.inj (hn8.symm.trans hnamed)
  cases hmethM.symm.trans hmethM'
  obtain ⟨c2, r2, m2, q1, q2, q3, q4, kP, hkP, hkPi⟩ := Cond.selects_spec hsel
  cases hcls.symm.trans q1
  cases (State.methodFound?_of_named hnamed hy).symm.trans q2
  cases hnamed.symm.trans q3
  have hselP : selectMethod e.platform s.vm cellB.cls mk = .method mk := by rw [Launch.admits_selectMethod X.admits]; exact q4
  obtain ⟨vm₁, X₁, hstep₁⟩ := X.invokevirtual hexec hown hlink hnamed hmethM hstM hkP hkPi hy (a := b) (cell := cellB) hcell
    (fun z h => by rw [h] at hobj; cases hobj) hselP hmethM habM hkP hkPi (g := g) hg (argsL := argsL) (rest := rest) (hlen _ hsigM) hstack hdg
  obtain ⟨v, B, X', hpost, hsteps⟩ := hK m meth c ⟨T.setVm vm₁, locs, cells, slots⟩ { g with stack := rest } (.invokevirtual index) mk (Value.ref b :: argsL).toArray X₁ hg hsize hdg hW (X₁.named hnamed) (hpre vm₁ X₁.warmed)
  exact ⟨v, vm₁, B, X₁.warmed, X', hpost, fun target h => hstep₁ _ fun acts => by rw [doInvoke_state]; exact hsteps.trans h⟩
abbrev vx_CVW (R : Room) (s : State) (args : Array Value) (own C : String) (index : Nat) (y : MethodName) (bytes : ByteArray) (maxL : Nat) (ret : Option FieldType) (hh : List (Nat × Nat × Nat × Nat)) (ws : List Cond) (rm : Room) (mc ms n : Nat) : Prop :=
  (rm.cells = mc ∧ rm.slots = ms ∧ rm.frames + 1 ≤ R.frames ∧ 8 + (maxL + 11) + rm.locals ≤ R.locals ∧ (∀ w ∈ ws, ∀ (a' : Array Value) (U : State), s.WarmedH U.vm → w.before a' U = true) ∧ Cond.codeWith y bytes maxL ret hh ∈ ws) ∧
  (Cond.codeWith y bytes maxL ret hh).before args s = true ∧ (Cond.initialized y.cls).before args s = true ∧ (y.cls ≠ "java/lang/invoke/MethodHandle" ∧ y.cls ≠ "java/lang/invoke/VarHandle") ∧
  (∀ sig, parseMethodDescriptor y.desc = some sig → n = sig.parameters.length) ∧ (Cond.methodLink own index y).before args s = true ∧ (Cond.instanceMethod y).before args s = true ∧ (Cond.selects C y y).before args s = true
theorem vx_cwVW {own C : String} {index maxL mc ms : Nat} {y : MethodName} {bytes : ByteArray} {ret : Option FieldType} {hh : List (Nat × Nat × Nat × Nat)} {Ts ws ws' : List Cond} {rm : Room} (n : Nat) (ht : ∀ w ∈ Ts, w.before args s = true) (hT : GoodIn Ts (wsV own index C y ws)) (hw : ws = Cond.codeWith y bytes maxL ret hh :: ws') (hrc : rm.cells = mc) (hrs : rm.slots = ms)
    (hd : y.cls = C ∧ y.cls ≠ "java/lang/invoke/MethodHandle" ∧ y.cls ≠ "java/lang/invoke/VarHandle" ∧ (parseMethodDescriptor y.desc).map (fun d => d.parameters.length) = some n) (hR : rm.frames + 1 ≤ R.frames ∧ 8 + (maxL + 11) + rm.locals ≤ R.locals) :
    vx_CVW R s args own C index y bytes maxL ret hh ws rm mc ms n := by
  obtain ⟨hC, hd⟩ := hd
  subst hC
  have ok : ∀ w ∈ wsV own index y.cls y ws, w.before args s = true := fun w h => ht w (hT w h).1
  have hG : GoodIn Ts ws := fun w h => hT w (by unfold wsV; exact List.mem_append_right _ h)
  have hc : Cond.codeWith y bytes maxL ret hh ∈ ws := by rw [hw]; exact List.mem_cons_self
  refine ⟨⟨hrc, hrs, hR.1, hR.2, pay_in ht hG, hc⟩, ht _ (hG _ hc).1, ok _ (by simp [wsV]), ⟨hd.1, hd.2.1⟩, fun sig h => ?_, ok _ (by simp [wsV]), ok _ (by simp [wsV]), ok _ (by simp [wsV])⟩
  have h2 := hd.2.2
  rw [h] at h2
  exact (Option.some.inj h2).symm
theorem vx_runVW {y : MethodName} {bytes cc : ByteArray} {maxL nL mc ms n index : Nat} {ret : Option FieldType} {hh : List (Nat × Nat × Nat × Nat)} {ws : List Cond} {rm : Room} {Pc : Array Value → State → Prop} {Qc : Array Value → State → Outcome → State → Prop} {free : Addr → Prop} {Ts : List Cond} {own C : String} {b : Addr} {As rest : List Value} {g : JFrame}
    (S : CallFix p m c cc nL s args Ts own) (hM : Met l y ws rm Pc Qc mc ms free) (cw : vx_CVW R s args own C index y bytes maxL ret hh ws rm mc ms n) (hp : PreV s H C b Pc As)
    (hg : g.method = m) (hn : As.length = n) (hsize : g.locals.size = nL) (hstack : g.stack = As.reverse ++ .ref b :: rest) (hW : 2 * g.monitorRoom + (rest.map fun v => v.category).sum ≤ 8) (hdg : decode cc g.pc = .ok (.invokevirtual index, 3)) (hf : cells + mc ≤ R.cells ∧ slots + ms ≤ R.slots) :
    va_Run p l e R s m args below meth c H locs cells slots mc ms g rest (Qc (Value.ref b :: As).toArray) free := by
  obtain ⟨⟨hrc, hrs, hfr, hlo, hws, hcw⟩, hcode, hini, hy, hlen, hl, hin, hse⟩ := cw
  have hK : Back l R p e below s args y 3 8 (PreOf R mc ms Pc) (PostOf Qc mc ms free) := va_backW (hh := hh) (bytes := bytes) (maxL := maxL) (ret := ret) hM hp.1 hrc hrs hfr hlo hws hcw (fun a' U hW => word_at hW (Or.inl (by first | rfl | simp [Cond.onTables, Cond.keeps, Cond.steady])) hini)
  obtain ⟨hx, hb, hml, ho, -⟩ := S
  obtain ⟨-, ⟨cellB, hcB, hoB, hclB⟩, hPc⟩ := hp
  intro T hT X
  obtain ⟨v, vm₁, ⟨U', l2, c2, s2⟩, hW₁, X', ⟨g', mk, t, L, e1, e2, hq, h1, hL, h2, h3⟩, st⟩ := vx_callVW X hx (C := C) (hh := hh) (bytes := bytes) (maxL := maxL) (ret := ret) ho hl hin hse hcode hy hK (by rw [hT]; exact hcB) hoB hclB hg (hsize.trans hml.symm) (argsL := As) (rest := rest) (fun sig h => hn.trans (hlen sig h)) hstack hW (by rw [hb]; exact hdg)
    (fun vm₁ hW₁ => ⟨hf.1, hf.2, hPc (T.setVm vm₁) hT hW₁⟩)
  dsimp only [Pt.U, Pt.locs, Pt.cells, Pt.slots] at X' e1 e2 h1 h2 h3 st
  subst h1; subst h2; subst h3
  exact ⟨v, (T.setVm vm₁).calling g' mk (Value.ref b :: As).toArray, t, U', L, hT, X', hL, e1, e2, hq, st⟩
section
variable {y : MethodName} {bytes cc : ByteArray} {maxL nL mc ms n index : Nat} {ret : Option FieldType} {ws : List Cond} {rm : Room} {Pc : Array Value → State → Prop} {Qc : Array Value → State → Outcome → State → Prop} {XC : String → State → State → Prop} {free : Addr → Prop} {Ts : List Cond} {own C : String} {b : Addr} {As rest : List Value} {g : JFrame}
theorem vx_runVX {hh : List (Nat × Nat × Nat × Nat)} (S : CallFix p m c cc nL s args Ts own) (hM : vx_Met l y ws rm Pc Qc XC mc ms free) (cw : vx_CVW R s args own C index y bytes maxL ret hh ws rm mc ms n) (hp : PreV s H C b Pc As)
    (hg : g.method = m) (hn : As.length = n) (hsize : g.locals.size = nL) (hstack : g.stack = As.reverse ++ .ref b :: rest) (hW : 2 * g.monitorRoom + (rest.map fun v => v.category).sum ≤ 8) (hdg : decode cc g.pc = .ok (.invokevirtual index, 3)) (hf : cells + mc ≤ R.cells ∧ slots + ms ≤ R.slots) :
    vx_Run p l e R s m args below meth c H locs cells slots mc ms g rest (Qc (Value.ref b :: As).toArray) XC free := by
  obtain ⟨⟨hrc, hrs, hfr, hlo, hws, hcw⟩, hcode, hini, hy, hlen, hl, hin, hse⟩ := cw
  have hK : vx_Back l R p e below s args y 3 8 (PreOf R mc ms Pc) (PostOf Qc mc ms free) (vx_Post XC mc ms free) := vx_backW (hh := hh) (bytes := bytes) (maxL := maxL) (ret := ret) hM hp.1 hrc hrs hfr hlo hws hcw (fun a' U hW => word_at hW (Or.inl (by first | rfl | simp [Cond.onTables, Cond.keeps, Cond.steady])) hini)
  obtain ⟨hx, hb, hml, ho, -⟩ := S
  obtain ⟨-, ⟨cellB, hcB, hoB, hclB⟩, hPc⟩ := hp
  intro T hT X
  rcases vx_callVX X hx (C := C) (hh := hh) (bytes := bytes) (maxL := maxL) (ret := ret) ho hl hin hse hcode hy hK (by rw [hT]; exact hcB) hoB hclB hg (hsize.trans hml.symm) (argsL := As) (rest := rest) (fun sig h => hn.trans (hlen sig h)) hstack hW (by rw [hb]; exact hdg)
    (fun vm₁ hW₁ => ⟨hf.1, hf.2, hPc (T.setVm vm₁) hT hW₁⟩) with ⟨v, vm₁, ⟨U', l2, c2, s2⟩, hW₁, X', ⟨g', mk, t, L, e1, e2, hq, h1, hL, h2, h3⟩, st⟩ | ⟨q, vm₁, ⟨U', l2, c2, s2⟩, hW₁, X', ⟨g', mk, t, L, E, ce, e1, e2, hq, hce, hcv, hcl, h1, hL, h2, h3⟩, st⟩
  · dsimp only [Pt.U, Pt.locs, Pt.cells, Pt.slots] at X' e1 e2 h1 h2 h3 st
    subst h1; subst h2; subst h3
    exact Or.inl ⟨v, (T.setVm vm₁).calling g' mk (Value.ref b :: As).toArray, t, U', L, hT, X', hL, e1, e2, hq, st⟩
  · dsimp only [Pt.U, Pt.locs, Pt.cells, Pt.slots] at X' e1 e2 h1 h2 h3 st hcl
    subst h1; subst h2; subst h3
    exact Or.inr ⟨q, (T.setVm vm₁).calling g' mk (Value.ref b :: As).toArray, t, U', L, E, ce, hT, X', hL, e1, e2, hq, hce, hcv, vx_cls hW₁ hcl, st⟩
theorem vx_runSX {hh : List (Nat × Nat × Nat × Nat)} (S : CallFix p m c cc nL s args Ts own) (hM : vx_Met l y ws rm Pc Qc XC mc ms free) (cw : vx_CSW R s args own index y bytes maxL ret hh ws rm mc ms n) (hp : PreS s H Pc As)
    (hg : g.method = m) (hn : As.length = n) (hsize : g.locals.size = nL) (hstack : g.stack = As.reverse ++ rest) (hW : 2 * g.monitorRoom + (rest.map fun v => v.category).sum ≤ 8) (hdg : decode cc g.pc = .ok (.invokestatic index, 3)) (hf : cells + mc ≤ R.cells ∧ slots + ms ≤ R.slots) :
    vx_Run p l e R s m args below meth c H locs cells slots mc ms g rest (Qc As.toArray) XC free := by
  obtain ⟨⟨hrc, hrs, hfr, hlo, hws, hcw⟩, hcode, hini, hy, hlen, hl, hstt⟩ := cw
  have hK : vx_Back l R p e below s args y 3 8 (PreOf R mc ms Pc) (PostOf Qc mc ms free) (vx_Post XC mc ms free) := vx_backW (hh := hh) (bytes := bytes) (maxL := maxL) (ret := ret) hM hp.1 hrc hrs hfr hlo hws hcw (fun a' U hW => word_at hW (Or.inl (by first | rfl | simp [Cond.onTables, Cond.keeps, Cond.steady])) hini)
  obtain ⟨hx, hb, hml, ho, -⟩ := S
  intro T hT X
  rcases vx_callSX X hx (hh := hh) (bytes := bytes) (maxL := maxL) (ret := ret) ho hl hstt hini hcode hy hK hg (hsize.trans hml.symm) (argsL := As) (rest := rest) (fun sig h => hn.trans (hlen sig h)) hstack hW (by rw [hb]; exact hdg)
    (fun vm₁ hW₁ => ⟨hf.1, hf.2, hp.2 (T.setVm vm₁) hT hW₁⟩) with ⟨v, vm₁, ⟨U', l2, c2, s2⟩, hW₁, X', ⟨g', mk, t, L, e1, e2, hq, h1, hL, h2, h3⟩, st⟩ | ⟨q, vm₁, ⟨U', l2, c2, s2⟩, hW₁, X', ⟨g', mk, t, L, E, ce, e1, e2, hq, hce, hcv, hcl, h1, hL, h2, h3⟩, st⟩
  · dsimp only [Pt.U, Pt.locs, Pt.cells, Pt.slots] at X' e1 e2 h1 h2 h3 st
    subst h1; subst h2; subst h3
    exact Or.inl ⟨v, (T.setVm vm₁).calling g' mk As.toArray, t, U', L, hT, X', hL, e1, e2, hq, st⟩
  · dsimp only [Pt.U, Pt.locs, Pt.cells, Pt.slots] at X' e1 e2 h1 h2 h3 st hcl
    subst h1; subst h2; subst h3
    exact Or.inr ⟨q, (T.setVm vm₁).calling g' mk As.toArray, t, U', L, E, ce, hT, X', hL, e1, e2, hq, hce, hcv, vx_cls hW₁ hcl, st⟩
end
end VXH
theorem vx_ofWH {l : Launch} {y : MethodName} {ws ws' : List Cond} {rm : Room} {Pc : Array Value → State → Prop} {Qc : Array Value → State → Outcome → State → Prop} {XC : String → State → State → Prop} {mc ms : Nat} {free : Addr → Prop} {cc : ByteArray} {maxL : Nat} {ret : Option FieldType} {hh : List (Nat × Nat × Nat × Nat)}
    (hy : plainName y.cls = true) (hw : ws = Cond.codeWith y cc maxL ret hh :: ws')
    (body : ∀ p e s m args below meth c s₁, BodyLoose p l y (headSpec ws rm) cc maxL ret e s m args below meth c s₁ → c.maxLocals = maxL → Pc args s →
      W p l e (headSpec ws rm).room s m args below meth c s.heap [] 0 0 (vx_MQ below Qc XC args s mc ms free) (entryFrame m args maxL)) : vx_Met l y ws rm Pc Qc XC mc ms free := by
  refine MetFree.of_bodyS (code := cc) (maxLocals := maxL) (ret := ret) hy ?_ ?_
  · intro args s m h hn
    obtain ⟨m9, meth, c, hn9, h1, h2, h3, h4, -, h5, h6, -⟩ := Cond.codeWith_spec (atoms_spec (ws := ws) h _ (by rw [hw]; exact List.mem_cons_self))
    cases hn.symm.trans hn9
    exact ⟨meth, c, h1, h2, h3, h4, h5, h6⟩
  · intro p e s m args below meth c s₁ B hml hP _
    have hh0 : s₁.heap = s.heap := by rw [B.state]; rfl
    obtain ⟨t, a1, o, b1, b2, b3⟩ := body p e s m args below meth c s₁ B hml hP s₁ hh0 (Stand.of_body B)
    exact ⟨t, o, a1, b1, b2, b3⟩
/-! ===== END ===== -/
end
section
/-! the words of the tables, those that any call keeps (TW) and those that ride on their own (NW) -/
def TW : List Cond := lw_tbl.filter goodWord
def nwOk : Cond → Bool
  | .castable _ _ => true
  | .declares _ => true
  | .methodLinkNest _ _ _ _ => true
  | _ => false
def NW : List Cond := lw_tbl.filter nwOk
theorem tw_of {w : Cond} (h : w ∈ lw_tbl) (g : goodWord w = true) : w ∈ TW := List.mem_filter.mpr ⟨h, g⟩
theorem nw_of {w : Cond} (h : w ∈ lw_tbl) (g : nwOk w = true) : w ∈ NW := List.mem_filter.mpr ⟨h, g⟩
theorem in_t0 {w : Cond} (i : Nat) (h : (k2_sels lw_privs)[i]? = some w) : w ∈ lw_tbl := List.mem_append_left _ (List.mem_of_getElem? h)
theorem in_t1 {w : Cond} (i : Nat) (h : tables_1_1[i]? = some w) : w ∈ lw_tbl := List.mem_append_right _ (List.mem_append_left _ (List.mem_of_getElem? h))
theorem in_t2 {w : Cond} (i : Nat) (h : tables_1_2[i]? = some w) : w ∈ lw_tbl := List.mem_append_right _ (List.mem_append_right _ (List.mem_append_left _ (List.mem_of_getElem? h)))
theorem in_t3 {w : Cond} (i : Nat) (h : tables_1_3[i]? = some w) : w ∈ lw_tbl := List.mem_append_right _ (List.mem_append_right _ (List.mem_append_right _ (List.mem_append_left _ (List.mem_of_getElem? h))))
theorem in_t4 {w : Cond} (i : Nat) (h : tables_1_4[i]? = some w) : w ∈ lw_tbl := List.mem_append_right _ (List.mem_append_right _ (List.mem_append_right _ (List.mem_append_right _ (List.mem_of_getElem? h))))
theorem nw_warm {w : Cond} {s U : State} (h : nwOk w = true) (hW : s.WarmedH U.vm) (hZ : va_Nw w s) : va_Nw w U := by
  cases w <;> first | exact va_Nw.warmC hW hZ | exact va_Nw.warmD hW hZ | exact va_Nw.warmM hW hZ | (simp [nwOk] at h)
theorem nw_same {w : Cond} {s U : State} (h : nwOk w = true) (hv : s.vm = U.vm) (hZ : va_Nw w s) : va_Nw w U := va_Nw.same (by cases w <;> first | rfl | (simp [nwOk] at h)) hv hZ
theorem nw_get {w : Cond} {args : Array Value} {s : State} (h : nwOk w = true) (hZ : w.before args s = true) : va_Nw w s := va_Nw.of (by cases w <;> first | rfl | (simp [nwOk] at h)) hZ
theorem TW_good {c : Cond} (h : c ∈ TW) : GoodIn TW (c :: TW) := fun w hw => by
  rcases List.mem_cons.mp hw with rfl | hw
  · exact ⟨h, good_of_word (List.mem_filter.mp h).2⟩
  · exact ⟨hw, good_of_word (List.mem_filter.mp hw).2⟩
theorem TW_all {a : List Cond} {c : Cond} (ha : ∀ w ∈ a, w ∈ TW) (h : c ∈ TW) : GoodIn TW (a ++ (c :: TW)) := fun w hw => by
  rcases List.mem_append.mp hw with hw | hw
  · exact ⟨ha w hw, good_of_word (List.mem_filter.mp (ha w hw)).2⟩
  · exact TW_good h w hw
theorem TW_V {own C : String} {idx : Nat} {y : MethodName} {c : Cond} (h1 : Cond.methodLink own idx y ∈ TW) (h2 : Cond.instanceMethod y ∈ TW) (h3 : Cond.selects C y y ∈ TW) (h4 : Cond.initialized C ∈ TW) (h : c ∈ TW) : GoodIn TW (wsV own idx C y (c :: TW)) :=
  TW_all (fun w hw => by simp only [List.mem_cons, List.not_mem_nil, or_false] at hw; rcases hw with rfl | rfl | rfl | rfl <;> assumption) h
theorem TW_S {own : String} {idx : Nat} {y : MethodName} {c : Cond} (h1 : Cond.methodLink own idx y ∈ TW) (h2 : Cond.static y ∈ TW) (h4 : Cond.initialized y.cls ∈ TW) (h : c ∈ TW) : GoodIn TW (va_wsS own idx y (c :: TW)) :=
  TW_all (fun w hw => by simp only [List.mem_cons, List.not_mem_nil, or_false] at hw; rcases hw with rfl | rfl | rfl <;> assumption) h
end
section
/-! names: classes, their fields, methods -/
def R_C : String := "ConstraintCompiler"
def R_S : String := "ConstraintCompiler$Sum"
def R_V : String := "ConstraintCompiler$Variable"
def R_E : String := "ConstraintCompiler$Expression"
def R_K : String := "ConstraintCompiler$Constraint"
def R_M : String := "ConstraintCompilerModel"
def R_L : String := "ConstraintCompilerLaw"
def R_A : String := "java/util/ArrayList"
def R_AL : String := "java/util/AbstractList"
def R_AC : String := "java/util/AbstractCollection"
def R_AR : String := "java/util/Arrays"
def R_AS : String := "jdk/internal/util/ArraysSupport"
def R_MA : String := "java/lang/Math"
def R_OB : String := "java/util/Objects"
def R_PC : String := "jdk/internal/util/Preconditions"
def R_OJ : String := "java/lang/Object"
def F_C : u_T := fun k => match k with
  | 0 => ("ConstraintCompiler", "zero", "LConstraintCompiler$Sum;", true)
  | 1 => ("ConstraintCompiler", "one", "LConstraintCompiler$Sum;", true)
  | 2 => ("ConstraintCompiler", "variables", "Ljava/util/ArrayList;", true)
  | 3 => ("ConstraintCompiler", "expressions", "Ljava/util/ArrayList;", true)
  | 4 => ("ConstraintCompiler", "constraints", "Ljava/util/ArrayList;", true)
  | 5 => ("ConstraintCompiler", "inputs", "I", false)
  | 6 => ("ConstraintCompiler", "witness", "[I", false)
  | 7 => ("ConstraintCompiler", "draft", "[I", false)
  | 8 => ("ConstraintCompiler", "witnessVariables", "I", false)
  | _ => ("ConstraintCompiler", "witnessConstraints", "I", false)
def ft_C : Nat → FieldType := fun k => match k with
  | 0 => .object "ConstraintCompiler$Sum"
  | 1 => .object "ConstraintCompiler$Sum"
  | 2 => .object "java/util/ArrayList"
  | 3 => .object "java/util/ArrayList"
  | 4 => .object "java/util/ArrayList"
  | 5 => .int
  | 6 => .array .int
  | 7 => .array .int
  | 8 => .int
  | _ => .int
theorem nm_C : ∀ a, a < 10 → ∀ b, b < 10 → a ≠ b → (F_C a).2.1 ≠ (F_C b).2.1 := by decide +kernel
theorem fo_C : ∀ k, k < 10 → parseFieldDescriptor (F_C k).2.2.1 = some (ft_C k) := by decide +kernel
theorem in_C : ∀ w ∈ u_ws R_C F_C 10, w ∈ TW := by
  have h : ∀ w ∈ u_ws R_C F_C 10, w ∈ lw_tbl := by decide +kernel
  intro w hw
  refine tw_of (h w hw) ?_
  obtain ⟨k, -, rfl⟩ := List.mem_map.mp hw
  unfold u_lay
  split <;> rfl
def F_S : u_T := fun k => match k with
  | _ => ("ConstraintCompiler$Sum", "coefficients", "[I", true)
def ft_S : Nat → FieldType := fun k => match k with
  | _ => .array .int
theorem nm_S : ∀ a, a < 1 → ∀ b, b < 1 → a ≠ b → (F_S a).2.1 ≠ (F_S b).2.1 := by decide +kernel
theorem fo_S : ∀ k, k < 1 → parseFieldDescriptor (F_S k).2.2.1 = some (ft_S k) := by decide +kernel
theorem in_S : ∀ w ∈ u_ws R_S F_S 1, w ∈ TW := by
  have h : ∀ w ∈ u_ws R_S F_S 1, w ∈ lw_tbl := by decide +kernel
  intro w hw
  refine tw_of (h w hw) ?_
  obtain ⟨k, -, rfl⟩ := List.mem_map.mp hw
  unfold u_lay
  split <;> rfl
def F_V : u_T := fun k => match k with
  | 0 => ("ConstraintCompiler$Variable", "rule", "I", true)
  | 1 => ("ConstraintCompiler$Variable", "left", "LConstraintCompiler$Sum;", true)
  | 2 => ("ConstraintCompiler$Variable", "right", "LConstraintCompiler$Sum;", true)
  | _ => ("ConstraintCompiler$Variable", "given", "I", false)
def ft_V : Nat → FieldType := fun k => match k with
  | 0 => .int
  | 1 => .object "ConstraintCompiler$Sum"
  | 2 => .object "ConstraintCompiler$Sum"
  | _ => .int
theorem nm_V : ∀ a, a < 4 → ∀ b, b < 4 → a ≠ b → (F_V a).2.1 ≠ (F_V b).2.1 := by decide +kernel
theorem fo_V : ∀ k, k < 4 → parseFieldDescriptor (F_V k).2.2.1 = some (ft_V k) := by decide +kernel
theorem in_V : ∀ w ∈ u_ws R_V F_V 4, w ∈ TW := by
  have h : ∀ w ∈ u_ws R_V F_V 4, w ∈ lw_tbl := by decide +kernel
  intro w hw
  refine tw_of (h w hw) ?_
  obtain ⟨k, -, rfl⟩ := List.mem_map.mp hw
  unfold u_lay
  split <;> rfl
def F_E : u_T := fun k => match k with
  | 0 => ("ConstraintCompiler$Expression", "sum", "LConstraintCompiler$Sum;", true)
  | _ => ("ConstraintCompiler$Expression", "input", "I", true)
def ft_E : Nat → FieldType := fun k => match k with
  | 0 => .object "ConstraintCompiler$Sum"
  | _ => .int
theorem nm_E : ∀ a, a < 2 → ∀ b, b < 2 → a ≠ b → (F_E a).2.1 ≠ (F_E b).2.1 := by decide +kernel
theorem fo_E : ∀ k, k < 2 → parseFieldDescriptor (F_E k).2.2.1 = some (ft_E k) := by decide +kernel
theorem in_E : ∀ w ∈ u_ws R_E F_E 2, w ∈ TW := by
  have h : ∀ w ∈ u_ws R_E F_E 2, w ∈ lw_tbl := by decide +kernel
  intro w hw
  refine tw_of (h w hw) ?_
  obtain ⟨k, -, rfl⟩ := List.mem_map.mp hw
  unfold u_lay
  split <;> rfl
def F_K : u_T := fun k => match k with
  | 0 => ("ConstraintCompiler$Constraint", "a", "LConstraintCompiler$Sum;", true)
  | 1 => ("ConstraintCompiler$Constraint", "b", "LConstraintCompiler$Sum;", true)
  | _ => ("ConstraintCompiler$Constraint", "c", "LConstraintCompiler$Sum;", true)
def ft_K : Nat → FieldType := fun k => match k with
  | 0 => .object "ConstraintCompiler$Sum"
  | 1 => .object "ConstraintCompiler$Sum"
  | _ => .object "ConstraintCompiler$Sum"
theorem nm_K : ∀ a, a < 3 → ∀ b, b < 3 → a ≠ b → (F_K a).2.1 ≠ (F_K b).2.1 := by decide +kernel
theorem fo_K : ∀ k, k < 3 → parseFieldDescriptor (F_K k).2.2.1 = some (ft_K k) := by decide +kernel
theorem in_K : ∀ w ∈ u_ws R_K F_K 3, w ∈ TW := by
  have h : ∀ w ∈ u_ws R_K F_K 3, w ∈ lw_tbl := by decide +kernel
  intro w hw
  refine tw_of (h w hw) ?_
  obtain ⟨k, -, rfl⟩ := List.mem_map.mp hw
  unfold u_lay
  split <;> rfl
def F_M : u_T := fun k => match k with
  | 0 => ("ConstraintCompilerModel", "thrown", "I", false)
  | 1 => ("ConstraintCompilerModel", "sums", "[I", true)
  | 2 => ("ConstraintCompilerModel", "kind", "[I", true)
  | 3 => ("ConstraintCompilerModel", "input", "[I", true)
  | 4 => ("ConstraintCompilerModel", "expressions", "I", false)
  | 5 => ("ConstraintCompilerModel", "how", "[I", true)
  | 6 => ("ConstraintCompilerModel", "from", "[I", true)
  | 7 => ("ConstraintCompilerModel", "given", "[I", true)
  | 8 => ("ConstraintCompilerModel", "variables", "I", false)
  | 9 => ("ConstraintCompilerModel", "rows", "[I", true)
  | 10 => ("ConstraintCompilerModel", "constraints", "I", false)
  | 11 => ("ConstraintCompilerModel", "left", "[I", true)
  | 12 => ("ConstraintCompilerModel", "right", "[I", true)
  | 13 => ("ConstraintCompilerModel", "out", "[I", true)
  | 14 => ("ConstraintCompilerModel", "trial", "[I", true)
  | 15 => ("ConstraintCompilerModel", "witness", "[I", true)
  | 16 => ("ConstraintCompilerModel", "solved", "Z", false)
  | 17 => ("ConstraintCompilerModel", "known", "I", false)
  | _ => ("ConstraintCompilerModel", "knownConstraints", "I", false)
def ft_M : Nat → FieldType := fun k => match k with
  | 0 => .int
  | 1 => .array .int
  | 2 => .array .int
  | 3 => .array .int
  | 4 => .int
  | 5 => .array .int
  | 6 => .array .int
  | 7 => .array .int
  | 8 => .int
  | 9 => .array .int
  | 10 => .int
  | 11 => .array .int
  | 12 => .array .int
  | 13 => .array .int
  | 14 => .array .int
  | 15 => .array .int
  | 16 => .boolean
  | 17 => .int
  | _ => .int
theorem nm_M : ∀ a, a < 19 → ∀ b, b < 19 → a ≠ b → (F_M a).2.1 ≠ (F_M b).2.1 := by decide +kernel
theorem fo_M : ∀ k, k < 19 → parseFieldDescriptor (F_M k).2.2.1 = some (ft_M k) := by decide +kernel
theorem in_M : ∀ w ∈ u_ws R_M F_M 19, w ∈ TW := by
  have h : ∀ w ∈ u_ws R_M F_M 19, w ∈ lw_tbl := by decide +kernel
  intro w hw
  refine tw_of (h w hw) ?_
  obtain ⟨k, -, rfl⟩ := List.mem_map.mp hw
  unfold u_lay
  split <;> rfl
def F_A : u_T := fun k => match k with
  | 0 => ("java/util/AbstractList", "modCount", "I", false)
  | 1 => ("java/util/ArrayList", "elementData", "[Ljava/lang/Object;", false)
  | _ => ("java/util/ArrayList", "size", "I", false)
def ft_A : Nat → FieldType := fun k => match k with
  | 0 => .int
  | 1 => .array (.object "java/lang/Object")
  | _ => .int
theorem nm_A : ∀ a, a < 3 → ∀ b, b < 3 → a ≠ b → (F_A a).2.1 ≠ (F_A b).2.1 := by decide +kernel
theorem fo_A : ∀ k, k < 3 → parseFieldDescriptor (F_A k).2.2.1 = some (ft_A k) := by decide +kernel
theorem in_A : ∀ w ∈ u_ws R_A F_A 3, w ∈ TW := by
  have h : ∀ w ∈ u_ws R_A F_A 3, w ∈ lw_tbl := by decide +kernel
  intro w hw
  refine tw_of (h w hw) ?_
  obtain ⟨k, -, rfl⟩ := List.mem_map.mp hw
  unfold u_lay
  split <;> rfl
abbrev CL : List vw_C := [(R_C, F_C, 10), (R_S, F_S, 1), (R_V, F_V, 4), (R_E, F_E, 2), (R_K, F_K, 3), (R_M, F_M, 19), (R_A, F_A, 3)]
abbrev b_C_init : ByteArray := prog_1_method_1_code
def y_C_init : MethodName := ⟨R_C, "<init>", "()V"⟩
abbrev cw_C_init : Cond := .code y_C_init b_C_init 1 none
abbrev b_OJ_init : ByteArray := object_method_1_code
def y_OJ_init : MethodName := ⟨R_OJ, "<init>", "()V"⟩
abbrev cw_OJ_init : Cond := .code y_OJ_init b_OJ_init 1 none
abbrev b_S_init : ByteArray := prog_4_method_1_code
def y_S_init : MethodName := ⟨R_S, "<init>", "()V"⟩
abbrev cw_S_init : Cond := .code y_S_init b_S_init 1 none
abbrev b_S_ofVariable : ByteArray := prog_4_method_2_code
def y_S_ofVariable : MethodName := ⟨R_S, "ofVariable", "(I)LConstraintCompiler$Sum;"⟩
abbrev cw_S_ofVariable : Cond := .code y_S_ofVariable b_S_ofVariable 2 (some (.object "ConstraintCompiler$Sum"))
abbrev b_A_init : ByteArray := prog_22_method_2_code
def y_A_init : MethodName := ⟨R_A, "<init>", "()V"⟩
abbrev cw_A_init : Cond := .code y_A_init b_A_init 1 none
abbrev b_AL_init : ByteArray := prog_21_method_1_code
def y_AL_init : MethodName := ⟨R_AL, "<init>", "()V"⟩
abbrev cw_AL_init : Cond := .code y_AL_init b_AL_init 1 none
abbrev b_AC_init : ByteArray := prog_20_method_1_code
def y_AC_init : MethodName := ⟨R_AC, "<init>", "()V"⟩
abbrev cw_AC_init : Cond := .code y_AC_init b_AC_init 1 none
abbrev b_V_init : ByteArray := prog_5_method_1_code
def y_V_init : MethodName := ⟨R_V, "<init>", "(ILConstraintCompiler$Sum;LConstraintCompiler$Sum;)V"⟩
abbrev cw_V_init : Cond := .code y_V_init b_V_init 4 none
abbrev b_A_add1 : ByteArray := prog_22_method_25_code
def y_A_add1 : MethodName := ⟨R_A, "add", "(Ljava/lang/Object;)Z"⟩
abbrev cw_A_add1 : Cond := .code y_A_add1 b_A_add1 2 (some .boolean)
abbrev b_A_add3 : ByteArray := prog_22_method_24_code
def y_A_add3 : MethodName := ⟨R_A, "add", "(Ljava/lang/Object;[Ljava/lang/Object;I)V"⟩
abbrev cw_A_add3 : Cond := .code y_A_add3 b_A_add3 4 none
abbrev b_A_grow0 : ByteArray := prog_22_method_7_code
def y_A_grow0 : MethodName := ⟨R_A, "grow", "()[Ljava/lang/Object;"⟩
abbrev cw_A_grow0 : Cond := .code y_A_grow0 b_A_grow0 1 (some (.array (.object "java/lang/Object")))
abbrev b_A_grow1 : ByteArray := prog_22_method_6_code
def y_A_grow1 : MethodName := ⟨R_A, "grow", "(I)[Ljava/lang/Object;"⟩
abbrev cw_A_grow1 : Cond := .code y_A_grow1 b_A_grow1 4 (some (.array (.object "java/lang/Object")))
abbrev b_AS_newLength : ByteArray := prog_30_method_27_code
def y_AS_newLength : MethodName := ⟨R_AS, "newLength", "(III)I"⟩
abbrev cw_AS_newLength : Cond := .code y_AS_newLength b_AS_newLength 4 (some .int)
abbrev b_MA_max : ByteArray := prog_15_method_65_code
def y_MA_max : MethodName := ⟨R_MA, "max", "(II)I"⟩
abbrev cw_MA_max : Cond := .code y_MA_max b_MA_max 2 (some .int)
abbrev b_AS_hugeLength : ByteArray := prog_30_method_28_code
def y_AS_hugeLength : MethodName := ⟨R_AS, "hugeLength", "(II)I"⟩
abbrev cw_AS_hugeLength : Cond := .code y_AS_hugeLength b_AS_hugeLength 3 (some .int)
abbrev b_AR_copyOf2 : ByteArray := prog_23_method_119_code
def y_AR_copyOf2 : MethodName := ⟨R_AR, "copyOf", "([Ljava/lang/Object;I)[Ljava/lang/Object;"⟩
abbrev cw_AR_copyOf2 : Cond := .code y_AR_copyOf2 b_AR_copyOf2 2 (some (.array (.object "java/lang/Object")))
abbrev b_AR_copyOf3 : ByteArray := prog_23_method_120_code
def y_AR_copyOf3 : MethodName := ⟨R_AR, "copyOf", "([Ljava/lang/Object;ILjava/lang/Class;)[Ljava/lang/Object;"⟩
abbrev cw_AR_copyOf3 : Cond := .code y_AR_copyOf3 b_AR_copyOf3 4 (some (.array (.object "java/lang/Object")))
abbrev b_MA_min : ByteArray := prog_15_method_69_code
def y_MA_min : MethodName := ⟨R_MA, "min", "(II)I"⟩
abbrev cw_MA_min : Cond := .code y_MA_min b_MA_min 2 (some .int)
abbrev b_L_expression : ByteArray := method_3_code
def y_L_expression : MethodName := ⟨R_L, "expression", "(LConstraintCompiler;IIII[J)I"⟩
abbrev cw_L_expression : Cond := .codeWith y_L_expression b_L_expression 7 (some .int) [(0, 14, 17, 13), (0, 14, 21, 15)]
abbrev b_C_expression : ByteArray := prog_1_method_2_code
def y_C_expression : MethodName := ⟨R_C, "expression", "(IIII)I"⟩
abbrev cw_C_expression : Cond := .code y_C_expression b_C_expression 5 (some .int)
abbrev b_C_isWellFormed : ByteArray := prog_1_method_19_code
def y_C_isWellFormed : MethodName := ⟨R_C, "isWellFormed", "(IIII)Z"⟩
abbrev cw_C_isWellFormed : Cond := .code y_C_isWellFormed b_C_isWellFormed 5 (some .boolean)
abbrev b_C_isMade : ByteArray := prog_1_method_17_code
def y_C_isMade : MethodName := ⟨R_C, "isMade", "(I)Z"⟩
abbrev cw_C_isMade : Cond := .code y_C_isMade b_C_isMade 2 (some .boolean)
abbrev b_A_size : ByteArray := prog_22_method_8_code
def y_A_size : MethodName := ⟨R_A, "size", "()I"⟩
abbrev cw_A_size : Cond := .code y_A_size b_A_size 1 (some .int)
abbrev b_C_hasRoomFor : ByteArray := prog_1_method_20_code
def y_C_hasRoomFor : MethodName := ⟨R_C, "hasRoomFor", "(IIII)Z"⟩
abbrev cw_C_hasRoomFor : Cond := .code y_C_hasRoomFor b_C_hasRoomFor 7 (some .boolean)
abbrev b_C_constraintsNeeded : ByteArray := prog_1_method_21_code
def y_C_constraintsNeeded : MethodName := ⟨R_C, "constraintsNeeded", "(IIII)I"⟩
abbrev cw_C_constraintsNeeded : Cond := .code y_C_constraintsNeeded b_C_constraintsNeeded 5 (some .int)
abbrev b_C_sumOf : ByteArray := prog_1_method_23_code
def y_C_sumOf : MethodName := ⟨R_C, "sumOf", "(I)LConstraintCompiler$Sum;"⟩
abbrev cw_C_sumOf : Cond := .code y_C_sumOf b_C_sumOf 2 (some (.object "ConstraintCompiler$Sum"))
abbrev b_A_get : ByteArray := prog_22_method_20_code
def y_A_get : MethodName := ⟨R_A, "get", "(I)Ljava/lang/Object;"⟩
abbrev cw_A_get : Cond := .code y_A_get b_A_get 2 (some (.object "java/lang/Object"))
abbrev b_OB_checkIndex : ByteArray := prog_27_method_17_code
def y_OB_checkIndex : MethodName := ⟨R_OB, "checkIndex", "(II)I"⟩
abbrev cw_OB_checkIndex : Cond := .code y_OB_checkIndex b_OB_checkIndex 2 (some .int)
abbrev b_PC_checkIndex : ByteArray := prog_31_method_11_code
def y_PC_checkIndex : MethodName := ⟨R_PC, "checkIndex", "(IILjava/util/function/BiFunction;)I"⟩
abbrev cw_PC_checkIndex : Cond := .code y_PC_checkIndex b_PC_checkIndex 3 (some .int)
abbrev b_A_elementData : ByteArray := prog_22_method_18_code
def y_A_elementData : MethodName := ⟨R_A, "elementData", "(I)Ljava/lang/Object;"⟩
abbrev cw_A_elementData : Cond := .code y_A_elementData b_A_elementData 2 (some (.object "java/lang/Object"))
abbrev b_C_constraintsOfProduct : ByteArray := prog_1_method_22_code
def y_C_constraintsOfProduct : MethodName := ⟨R_C, "constraintsOfProduct", "(LConstraintCompiler$Sum;LConstraintCompiler$Sum;)I"⟩
abbrev cw_C_constraintsOfProduct : Cond := .code y_C_constraintsOfProduct b_C_constraintsOfProduct 2 (some .int)
abbrev b_S_isConstant : ByteArray := prog_4_method_8_code
def y_S_isConstant : MethodName := ⟨R_S, "isConstant", "()Z"⟩
abbrev cw_S_isConstant : Cond := .code y_S_isConstant b_S_isConstant 1 (some .boolean)
abbrev b_S_lastVariable : ByteArray := prog_4_method_7_code
def y_S_lastVariable : MethodName := ⟨R_S, "lastVariable", "()I"⟩
abbrev cw_S_lastVariable : Cond := .code y_S_lastVariable b_S_lastVariable 2 (some .int)
abbrev b_C_difference : ByteArray := prog_1_method_24_code
def y_C_difference : MethodName := ⟨R_C, "difference", "(II)LConstraintCompiler$Sum;"⟩
abbrev cw_C_difference : Cond := .code y_C_difference b_C_difference 3 (some (.object "ConstraintCompiler$Sum"))
abbrev b_S_minus : ByteArray := prog_4_method_4_code
def y_S_minus : MethodName := ⟨R_S, "minus", "(LConstraintCompiler$Sum;)LConstraintCompiler$Sum;"⟩
abbrev cw_S_minus : Cond := .code y_S_minus b_S_minus 2 (some (.object "ConstraintCompiler$Sum"))
abbrev b_S_combinedWith : ByteArray := prog_4_method_6_code
def y_S_combinedWith : MethodName := ⟨R_S, "combinedWith", "(LConstraintCompiler$Sum;II)LConstraintCompiler$Sum;"⟩
abbrev cw_S_combinedWith : Cond := .code y_S_combinedWith b_S_combinedWith 6 (some (.object "ConstraintCompiler$Sum"))
abbrev b_C_remainder : ByteArray := prog_1_method_14_code
def y_C_remainder : MethodName := ⟨R_C, "remainder", "(I)I"⟩
abbrev cw_C_remainder : Cond := .code y_C_remainder b_C_remainder 1 (some .int)
abbrev b_MA_floorMod : ByteArray := prog_15_method_50_code
def y_MA_floorMod : MethodName := ⟨R_MA, "floorMod", "(II)I"⟩
abbrev cw_MA_floorMod : Cond := .code y_MA_floorMod b_MA_floorMod 3 (some .int)
abbrev b_C_makeInput : ByteArray := prog_1_method_25_code
def y_C_makeInput : MethodName := ⟨R_C, "makeInput", "()LConstraintCompiler$Expression;"⟩
abbrev cw_C_makeInput : Cond := .code y_C_makeInput b_C_makeInput 2 (some (.object "ConstraintCompiler$Expression"))
abbrev b_C_addVariable : ByteArray := prog_1_method_32_code
def y_C_addVariable : MethodName := ⟨R_C, "addVariable", "(ILConstraintCompiler$Sum;LConstraintCompiler$Sum;)I"⟩
abbrev cw_C_addVariable : Cond := .code y_C_addVariable b_C_addVariable 4 (some .int)
abbrev b_E_init : ByteArray := prog_3_method_1_code
def y_E_init : MethodName := ⟨R_E, "<init>", "(LConstraintCompiler$Sum;I)V"⟩
abbrev cw_E_init : Cond := .code y_E_init b_E_init 3 none
abbrev b_C_makeSum : ByteArray := prog_1_method_26_code
def y_C_makeSum : MethodName := ⟨R_C, "makeSum", "(IIII)LConstraintCompiler$Sum;"⟩
abbrev cw_C_makeSum : Cond := .code y_C_makeSum b_C_makeSum 5 (some (.object "ConstraintCompiler$Sum"))
abbrev b_S_plus : ByteArray := prog_4_method_3_code
def y_S_plus : MethodName := ⟨R_S, "plus", "(LConstraintCompiler$Sum;)LConstraintCompiler$Sum;"⟩
abbrev cw_S_plus : Cond := .code y_S_plus b_S_plus 2 (some (.object "ConstraintCompiler$Sum"))
abbrev b_C_makeProduct : ByteArray := prog_1_method_27_code
def y_C_makeProduct : MethodName := ⟨R_C, "makeProduct", "(LConstraintCompiler$Sum;LConstraintCompiler$Sum;)LConstraintCompiler$Sum;"⟩
abbrev cw_C_makeProduct : Cond := .code y_C_makeProduct b_C_makeProduct 3 (some (.object "ConstraintCompiler$Sum"))
abbrev b_S_scaledBy : ByteArray := prog_4_method_5_code
def y_S_scaledBy : MethodName := ⟨R_S, "scaledBy", "(I)LConstraintCompiler$Sum;"⟩
abbrev cw_S_scaledBy : Cond := .code y_S_scaledBy b_S_scaledBy 2 (some (.object "ConstraintCompiler$Sum"))
abbrev b_C_makeConstrainedProduct : ByteArray := prog_1_method_28_code
def y_C_makeConstrainedProduct : MethodName := ⟨R_C, "makeConstrainedProduct", "(LConstraintCompiler$Sum;LConstraintCompiler$Sum;)LConstraintCompiler$Sum;"⟩
abbrev cw_C_makeConstrainedProduct : Cond := .code y_C_makeConstrainedProduct b_C_makeConstrainedProduct 4 (some (.object "ConstraintCompiler$Sum"))
abbrev b_C_addConstraint : ByteArray := prog_1_method_33_code
def y_C_addConstraint : MethodName := ⟨R_C, "addConstraint", "(LConstraintCompiler$Sum;LConstraintCompiler$Sum;LConstraintCompiler$Sum;)V"⟩
abbrev cw_C_addConstraint : Cond := .code y_C_addConstraint b_C_addConstraint 4 none
abbrev b_K_init : ByteArray := prog_2_method_1_code
def y_K_init : MethodName := ⟨R_K, "<init>", "(LConstraintCompiler$Sum;LConstraintCompiler$Sum;LConstraintCompiler$Sum;)V"⟩
abbrev cw_K_init : Cond := .code y_K_init b_K_init 4 none
abbrev b_C_makeShare : ByteArray := prog_1_method_29_code
def y_C_makeShare : MethodName := ⟨R_C, "makeShare", "(LConstraintCompiler$Sum;LConstraintCompiler$Sum;)LConstraintCompiler$Sum;"⟩
abbrev cw_C_makeShare : Cond := .code y_C_makeShare b_C_makeShare 4 (some (.object "ConstraintCompiler$Sum"))
abbrev b_C_makeSame : ByteArray := prog_1_method_30_code
def y_C_makeSame : MethodName := ⟨R_C, "makeSame", "(LConstraintCompiler$Sum;)LConstraintCompiler$Sum;"⟩
abbrev cw_C_makeSame : Cond := .code y_C_makeSame b_C_makeSame 4 (some (.object "ConstraintCompiler$Sum"))
abbrev b_C_makePower : ByteArray := prog_1_method_31_code
def y_C_makePower : MethodName := ⟨R_C, "makePower", "(LConstraintCompiler$Sum;I)LConstraintCompiler$Sum;"⟩
abbrev cw_C_makePower : Cond := .code y_C_makePower b_C_makePower 5 (some (.object "ConstraintCompiler$Sum"))
abbrev b_L_claim : ByteArray := method_4_code
def y_L_claim : MethodName := ⟨R_L, "claim", "(LConstraintCompiler;III[J)I"⟩
abbrev cw_L_claim : Cond := .codeWith y_L_claim b_L_claim 6 (some .int) [(0, 12, 15, 13), (0, 12, 19, 15)]
abbrev b_C_claim : ByteArray := prog_1_method_3_code
def y_C_claim : MethodName := ⟨R_C, "claim", "(III)I"⟩
abbrev cw_C_claim : Cond := .code y_C_claim b_C_claim 4 (some .int)
abbrev b_L_give : ByteArray := method_5_code
def y_L_give : MethodName := ⟨R_L, "give", "(LConstraintCompiler;II[J)I"⟩
abbrev cw_L_give : Cond := .codeWith y_L_give b_L_give 5 (some .int) [(0, 10, 13, 25), (0, 10, 17, 27)]
abbrev b_C_give : ByteArray := prog_1_method_4_code
def y_C_give : MethodName := ⟨R_C, "give", "(II)I"⟩
abbrev cw_C_give : Cond := .code y_C_give b_C_give 6 (some .int)
abbrev b_E_isInput : ByteArray := prog_3_method_2_code
def y_E_isInput : MethodName := ⟨R_E, "isInput", "()Z"⟩
abbrev cw_E_isInput : Cond := .code y_E_isInput b_E_isInput 1 (some .boolean)
abbrev b_L_solve : ByteArray := method_6_code
def y_L_solve : MethodName := ⟨R_L, "solve", "(LConstraintCompiler;[J)I"⟩
abbrev cw_L_solve : Cond := .codeWith y_L_solve b_L_solve 3 (some .int) [(0, 8, 11, 33)]
abbrev b_C_solve : ByteArray := prog_1_method_5_code
def y_C_solve : MethodName := ⟨R_C, "solve", "()I"⟩
abbrev cw_C_solve : Cond := .code y_C_solve b_C_solve 2 (some .int)
abbrev b_C_fillDraft : ByteArray := prog_1_method_34_code
def y_C_fillDraft : MethodName := ⟨R_C, "fillDraft", "()Z"⟩
abbrev cw_C_fillDraft : Cond := .code y_C_fillDraft b_C_fillDraft 3 (some .boolean)
abbrev b_V_numberFor : ByteArray := prog_5_method_2_code
def y_V_numberFor : MethodName := ⟨R_V, "numberFor", "([I)I"⟩
abbrev cw_V_numberFor : Cond := .code y_V_numberFor b_V_numberFor 3 (some .int)
abbrev b_S_valueFor : ByteArray := prog_4_method_10_code
def y_S_valueFor : MethodName := ⟨R_S, "valueFor", "([I)I"⟩
abbrev cw_S_valueFor : Cond := .code y_S_valueFor b_S_valueFor 4 (some .int)
abbrev b_C_inverseOrZero : ByteArray := prog_1_method_15_code
def y_C_inverseOrZero : MethodName := ⟨R_C, "inverseOrZero", "(I)I"⟩
abbrev cw_C_inverseOrZero : Cond := .code y_C_inverseOrZero b_C_inverseOrZero 2 (some .int)
abbrev b_C_howManyBroken : ByteArray := prog_1_method_35_code
def y_C_howManyBroken : MethodName := ⟨R_C, "howManyBroken", "()I"⟩
abbrev cw_C_howManyBroken : Cond := .code y_C_howManyBroken b_C_howManyBroken 3 (some .int)
abbrev b_K_holdsFor : ByteArray := prog_2_method_2_code
def y_K_holdsFor : MethodName := ⟨R_K, "holdsFor", "([I)Z"⟩
abbrev cw_K_holdsFor : Cond := .code y_K_holdsFor b_K_holdsFor 2 (some .boolean)
abbrev b_L_value : ByteArray := method_7_code
def y_L_value : MethodName := ⟨R_L, "value", "(LConstraintCompiler;I[J)I"⟩
abbrev cw_L_value : Cond := .codeWith y_L_value b_L_value 4 (some .int) [(0, 9, 12, 25), (0, 9, 15, 15)]
abbrev b_C_value : ByteArray := prog_1_method_6_code
def y_C_value : MethodName := ⟨R_C, "value", "(I)I"⟩
abbrev cw_C_value : Cond := .code y_C_value b_C_value 3 (some .int)
abbrev b_C_hasWitness : ByteArray := prog_1_method_18_code
def y_C_hasWitness : MethodName := ⟨R_C, "hasWitness", "()Z"⟩
abbrev cw_C_hasWitness : Cond := .code y_C_hasWitness b_C_hasWitness 1 (some .boolean)
abbrev b_L_tamper : ByteArray := method_8_code
def y_L_tamper : MethodName := ⟨R_L, "tamper", "(LConstraintCompiler;II[J)I"⟩
abbrev cw_L_tamper : Cond := .codeWith y_L_tamper b_L_tamper 5 (some .int) [(0, 10, 13, 15), (0, 10, 17, 13)]
abbrev b_C_tamper : ByteArray := prog_1_method_7_code
def y_C_tamper : MethodName := ⟨R_C, "tamper", "(II)I"⟩
abbrev cw_C_tamper : Cond := .code y_C_tamper b_C_tamper 4 (some .int)
abbrev b_L_broken : ByteArray := method_9_code
def y_L_broken : MethodName := ⟨R_L, "broken", "(LConstraintCompiler;[J)I"⟩
abbrev cw_L_broken : Cond := .codeWith y_L_broken b_L_broken 3 (some .int) [(0, 8, 11, 15)]
abbrev b_C_broken : ByteArray := prog_1_method_8_code
def y_C_broken : MethodName := ⟨R_C, "broken", "()I"⟩
abbrev cw_C_broken : Cond := .code y_C_broken b_C_broken 1 (some .int)
abbrev b_L_first : ByteArray := method_10_code
def y_L_first : MethodName := ⟨R_L, "first", "(LConstraintCompiler;[J)I"⟩
abbrev cw_L_first : Cond := .codeWith y_L_first b_L_first 3 (some .int) [(0, 8, 11, 15), (0, 8, 14, 25)]
abbrev b_C_first : ByteArray := prog_1_method_9_code
def y_C_first : MethodName := ⟨R_C, "first", "()I"⟩
abbrev cw_C_first : Cond := .code y_C_first b_C_first 2 (some .int)
abbrev b_L_coefficient : ByteArray := method_11_code
def y_L_coefficient : MethodName := ⟨R_L, "coefficient", "(LConstraintCompiler;III[J)I"⟩
abbrev cw_L_coefficient : Cond := .codeWith y_L_coefficient b_L_coefficient 6 (some .int) [(0, 12, 15, 25), (0, 12, 19, 13)]
abbrev b_C_coefficient : ByteArray := prog_1_method_10_code
def y_C_coefficient : MethodName := ⟨R_C, "coefficient", "(III)I"⟩
abbrev cw_C_coefficient : Cond := .code y_C_coefficient b_C_coefficient 4 (some .int)
abbrev b_C_isVariableNumber : ByteArray := prog_1_method_16_code
def y_C_isVariableNumber : MethodName := ⟨R_C, "isVariableNumber", "(I)Z"⟩
abbrev cw_C_isVariableNumber : Cond := .code y_C_isVariableNumber b_C_isVariableNumber 1 (some .boolean)
abbrev b_K_sumAt : ByteArray := prog_2_method_3_code
def y_K_sumAt : MethodName := ⟨R_K, "sumAt", "(I)LConstraintCompiler$Sum;"⟩
abbrev cw_K_sumAt : Cond := .code y_K_sumAt b_K_sumAt 2 (some (.object "ConstraintCompiler$Sum"))
abbrev b_L_terms : ByteArray := method_12_code
def y_L_terms : MethodName := ⟨R_L, "terms", "(LConstraintCompiler;I[J)I"⟩
abbrev cw_L_terms : Cond := .codeWith y_L_terms b_L_terms 4 (some .int) [(0, 9, 12, 25)]
abbrev b_C_terms : ByteArray := prog_1_method_11_code
def y_C_terms : MethodName := ⟨R_C, "terms", "(I)I"⟩
abbrev cw_C_terms : Cond := .code y_C_terms b_C_terms 2 (some .int)
abbrev b_S_howManyTerms : ByteArray := prog_4_method_9_code
def y_S_howManyTerms : MethodName := ⟨R_S, "howManyTerms", "()I"⟩
abbrev cw_S_howManyTerms : Cond := .code y_S_howManyTerms b_S_howManyTerms 3 (some .int)
abbrev b_L_uses : ByteArray := method_13_code
def y_L_uses : MethodName := ⟨R_L, "uses", "(LConstraintCompiler;I[J)I"⟩
abbrev cw_L_uses : Cond := .codeWith y_L_uses b_L_uses 4 (some .int) [(0, 9, 12, 13)]
abbrev b_C_uses : ByteArray := prog_1_method_12_code
def y_C_uses : MethodName := ⟨R_C, "uses", "(I)I"⟩
abbrev cw_C_uses : Cond := .code y_C_uses b_C_uses 4 (some .int)
abbrev b_K_hasVariable : ByteArray := prog_2_method_4_code
def y_K_hasVariable : MethodName := ⟨R_K, "hasVariable", "(I)Z"⟩
abbrev cw_K_hasVariable : Cond := .code y_K_hasVariable b_K_hasVariable 2 (some .boolean)
abbrev b_L_count : ByteArray := method_14_code
def y_L_count : MethodName := ⟨R_L, "count", "(LConstraintCompiler;I[J)I"⟩
abbrev cw_L_count : Cond := .codeWith y_L_count b_L_count 4 (some .int) [(0, 9, 12, 13)]
abbrev b_C_count : ByteArray := prog_1_method_13_code
def y_C_count : MethodName := ⟨R_C, "count", "(I)I"⟩
abbrev cw_C_count : Cond := .code y_C_count b_C_count 2 (some .int)
abbrev b_M_init : ByteArray := prog_7_method_1_code
def y_M_init : MethodName := ⟨R_M, "<init>", "()V"⟩
abbrev cw_M_init : Cond := .code y_M_init b_M_init 1 none
abbrev b_M_thrown : ByteArray := prog_7_method_2_code
def y_M_thrown : MethodName := ⟨R_M, "thrown", "()I"⟩
abbrev cw_M_thrown : Cond := .code y_M_thrown b_M_thrown 1 (some .int)
abbrev b_M_expression : ByteArray := prog_7_method_23_code
def y_M_expression : MethodName := ⟨R_M, "expression", "(IIII)I"⟩
abbrev cw_M_expression : Cond := .code y_M_expression b_M_expression 7 (some .int)
abbrev b_M_fits : ByteArray := prog_7_method_16_code
def y_M_fits : MethodName := ⟨R_M, "fits", "(IIII)Z"⟩
abbrev cw_M_fits : Cond := .code y_M_fits b_M_fits 5 (some .boolean)
abbrev b_M_in : ByteArray := prog_7_method_4_code
def y_M_in : MethodName := ⟨R_M, "in", "(III)Z"⟩
abbrev cw_M_in : Cond := .code y_M_in b_M_in 3 (some .boolean)
abbrev b_M_made : ByteArray := prog_7_method_7_code
def y_M_made : MethodName := ⟨R_M, "made", "(I)Z"⟩
abbrev cw_M_made : Cond := .code y_M_made b_M_made 2 (some .boolean)
abbrev b_M_raise : ByteArray := prog_7_method_3_code
def y_M_raise : MethodName := ⟨R_M, "raise", "(I)I"⟩
abbrev cw_M_raise : Cond := .code y_M_raise b_M_raise 2 (some .int)
abbrev b_M_needs : ByteArray := prog_7_method_19_code
def y_M_needs : MethodName := ⟨R_M, "needs", "(IIII)I"⟩
abbrev cw_M_needs : Cond := .code y_M_needs b_M_needs 5 (some .int)
abbrev b_M_isConstant : ByteArray := prog_7_method_17_code
def y_M_isConstant : MethodName := ⟨R_M, "isConstant", "(I)Z"⟩
abbrev cw_M_isConstant : Cond := .code y_M_isConstant b_M_isConstant 3 (some .boolean)
abbrev b_M_plainEither : ByteArray := prog_7_method_18_code
def y_M_plainEither : MethodName := ⟨R_M, "plainEither", "(III)Z"⟩
abbrev cw_M_plainEither : Cond := .code y_M_plainEither b_M_plainEither 4 (some .boolean)
abbrev b_M_number : ByteArray := prog_7_method_8_code
def y_M_number : MethodName := ⟨R_M, "number", "([II)V"⟩
abbrev cw_M_number : Cond := .code y_M_number b_M_number 3 none
abbrev b_M_rest : ByteArray := prog_7_method_5_code
def y_M_rest : MethodName := ⟨R_M, "rest", "(I)I"⟩
abbrev cw_M_rest : Cond := .code y_M_rest b_M_rest 1 (some .int)
abbrev b_M_add : ByteArray := prog_7_method_11_code
def y_M_add : MethodName := ⟨R_M, "add", "([III)V"⟩
abbrev cw_M_add : Cond := .code y_M_add b_M_add 5 none
abbrev b_M_constant : ByteArray := prog_7_method_12_code
def y_M_constant : MethodName := ⟨R_M, "constant", "([I)Z"⟩
abbrev cw_M_constant : Cond := .code y_M_constant b_M_constant 2 (some .boolean)
abbrev b_M_work : ByteArray := prog_7_method_22_code
def y_M_work : MethodName := ⟨R_M, "work", "(IIII)V"⟩
abbrev cw_M_work : Cond := .code y_M_work b_M_work 6 none
abbrev b_M_variable : ByteArray := prog_7_method_14_code
def y_M_variable : MethodName := ⟨R_M, "variable", "(II)I"⟩
abbrev cw_M_variable : Cond := .code y_M_variable b_M_variable 3 (some .int)
abbrev b_M_one : ByteArray := prog_7_method_9_code
def y_M_one : MethodName := ⟨R_M, "one", "([II)V"⟩
abbrev cw_M_one : Cond := .code y_M_one b_M_one 2 none
abbrev b_M_fetch : ByteArray := prog_7_method_10_code
def y_M_fetch : MethodName := ⟨R_M, "fetch", "([II)V"⟩
abbrev cw_M_fetch : Cond := .code y_M_fetch b_M_fetch 4 none
abbrev b_M_multiply : ByteArray := prog_7_method_15_code
def y_M_multiply : MethodName := ⟨R_M, "multiply", "()V"⟩
abbrev cw_M_multiply : Cond := .code y_M_multiply b_M_multiply 4 none
abbrev b_M_keep : ByteArray := prog_7_method_13_code
def y_M_keep : MethodName := ⟨R_M, "keep", "(II[I)V"⟩
abbrev cw_M_keep : Cond := .code y_M_keep b_M_keep 5 none
abbrev b_M_share : ByteArray := prog_7_method_20_code
def y_M_share : MethodName := ⟨R_M, "share", "(II)V"⟩
abbrev cw_M_share : Cond := .code y_M_share b_M_share 6 none
abbrev b_M_same : ByteArray := prog_7_method_21_code
def y_M_same : MethodName := ⟨R_M, "same", "(II)V"⟩
abbrev cw_M_same : Cond := .code y_M_same b_M_same 6 none
abbrev b_M_claim : ByteArray := prog_7_method_24_code
def y_M_claim : MethodName := ⟨R_M, "claim", "(III)I"⟩
abbrev cw_M_claim : Cond := .code y_M_claim b_M_claim 4 (some .int)
abbrev b_M_give : ByteArray := prog_7_method_25_code
def y_M_give : MethodName := ⟨R_M, "give", "(II)I"⟩
abbrev cw_M_give : Cond := .code y_M_give b_M_give 4 (some .int)
abbrev b_M_solve : ByteArray := prog_7_method_28_code
def y_M_solve : MethodName := ⟨R_M, "solve", "()I"⟩
abbrev cw_M_solve : Cond := .code y_M_solve b_M_solve 3 (some .int)
abbrev b_M_valueOf : ByteArray := prog_7_method_26_code
def y_M_valueOf : MethodName := ⟨R_M, "valueOf", "(II[I)I"⟩
abbrev cw_M_valueOf : Cond := .code y_M_valueOf b_M_valueOf 6 (some .int)
abbrev b_M_inverse : ByteArray := prog_7_method_6_code
def y_M_inverse : MethodName := ⟨R_M, "inverse", "(I)I"⟩
abbrev cw_M_inverse : Cond := .code y_M_inverse b_M_inverse 2 (some .int)
abbrev b_M_bad : ByteArray := prog_7_method_29_code
def y_M_bad : MethodName := ⟨R_M, "bad", "()I"⟩
abbrev cw_M_bad : Cond := .code y_M_bad b_M_bad 3 (some .int)
abbrev b_M_holds : ByteArray := prog_7_method_27_code
def y_M_holds : MethodName := ⟨R_M, "holds", "(I[I)Z"⟩
abbrev cw_M_holds : Cond := .code y_M_holds b_M_holds 3 (some .boolean)
abbrev b_M_value : ByteArray := prog_7_method_30_code
def y_M_value : MethodName := ⟨R_M, "value", "(I)I"⟩
abbrev cw_M_value : Cond := .code y_M_value b_M_value 4 (some .int)
abbrev b_M_tamper : ByteArray := prog_7_method_31_code
def y_M_tamper : MethodName := ⟨R_M, "tamper", "(II)I"⟩
abbrev cw_M_tamper : Cond := .code y_M_tamper b_M_tamper 4 (some .int)
abbrev b_M_broken : ByteArray := prog_7_method_32_code
def y_M_broken : MethodName := ⟨R_M, "broken", "()I"⟩
abbrev cw_M_broken : Cond := .code y_M_broken b_M_broken 1 (some .int)
abbrev b_M_first : ByteArray := prog_7_method_33_code
def y_M_first : MethodName := ⟨R_M, "first", "()I"⟩
abbrev cw_M_first : Cond := .code y_M_first b_M_first 2 (some .int)
abbrev b_M_coefficient : ByteArray := prog_7_method_34_code
def y_M_coefficient : MethodName := ⟨R_M, "coefficient", "(III)I"⟩
abbrev cw_M_coefficient : Cond := .code y_M_coefficient b_M_coefficient 4 (some .int)
abbrev b_M_terms : ByteArray := prog_7_method_35_code
def y_M_terms : MethodName := ⟨R_M, "terms", "(I)I"⟩
abbrev cw_M_terms : Cond := .code y_M_terms b_M_terms 4 (some .int)
abbrev b_M_uses : ByteArray := prog_7_method_36_code
def y_M_uses : MethodName := ⟨R_M, "uses", "(I)I"⟩
abbrev cw_M_uses : Cond := .code y_M_uses b_M_uses 5 (some .int)
abbrev b_M_count : ByteArray := prog_7_method_37_code
def y_M_count : MethodName := ⟨R_M, "count", "(I)I"⟩
abbrev cw_M_count : Cond := .code y_M_count b_M_count 4 (some .int)
abbrev b_L_law : ByteArray := code
def y_L_law : MethodName := ⟨R_L, "law", "([I)Z"⟩
abbrev cw_L_law : Cond := .code y_L_law b_L_law 7 (some .boolean)
end
section
/-! which words stand where -/
theorem k_in_L : Cond.initialized R_L ∈ TW := tw_of (in_t1 0 (by decide +kernel)) rfl
theorem k_in_C : Cond.initialized R_C ∈ TW := tw_of (in_t1 1 (by decide +kernel)) rfl
theorem k_in_S : Cond.initialized R_S ∈ TW := tw_of (in_t1 2 (by decide +kernel)) rfl
theorem k_in_AC : Cond.initialized R_AC ∈ TW := tw_of (in_t1 3 (by decide +kernel)) rfl
theorem k_in_AL : Cond.initialized R_AL ∈ TW := tw_of (in_t1 4 (by decide +kernel)) rfl
theorem k_in_A : Cond.initialized R_A ∈ TW := tw_of (in_t1 5 (by decide +kernel)) rfl
theorem k_in_V : Cond.initialized R_V ∈ TW := tw_of (in_t1 6 (by decide +kernel)) rfl
theorem k_in_AS : Cond.initialized R_AS ∈ TW := tw_of (in_t1 7 (by decide +kernel)) rfl
theorem k_in_MA : Cond.initialized R_MA ∈ TW := tw_of (in_t1 8 (by decide +kernel)) rfl
theorem k_in_AR : Cond.initialized R_AR ∈ TW := tw_of (in_t1 9 (by decide +kernel)) rfl
theorem k_in_System : Cond.initialized "java/lang/System" ∈ TW := tw_of (in_t1 10 (by decide +kernel)) rfl
theorem k_in_M : Cond.initialized R_M ∈ TW := tw_of (in_t1 11 (by decide +kernel)) rfl
theorem k_in_Throwable : Cond.initialized "java/lang/Throwable" ∈ TW := tw_of (in_t1 12 (by decide +kernel)) rfl
theorem k_in_Exception : Cond.initialized "java/lang/Exception" ∈ TW := tw_of (in_t1 13 (by decide +kernel)) rfl
theorem k_in_RuntimeException : Cond.initialized "java/lang/RuntimeException" ∈ TW := tw_of (in_t1 14 (by decide +kernel)) rfl
theorem k_in_IllegalArgumentException : Cond.initialized "java/lang/IllegalArgumentException" ∈ TW := tw_of (in_t1 15 (by decide +kernel)) rfl
theorem k_in_OB : Cond.initialized R_OB ∈ TW := tw_of (in_t1 16 (by decide +kernel)) rfl
theorem k_in_PC : Cond.initialized R_PC ∈ TW := tw_of (in_t1 17 (by decide +kernel)) rfl
theorem k_in_IllegalStateException : Cond.initialized "java/lang/IllegalStateException" ∈ TW := tw_of (in_t1 18 (by decide +kernel)) rfl
theorem k_in_E : Cond.initialized R_E ∈ TW := tw_of (in_t1 19 (by decide +kernel)) rfl
theorem k_in_K : Cond.initialized R_K ∈ TW := tw_of (in_t1 20 (by decide +kernel)) rfl
theorem k_in_NoSuchElementException : Cond.initialized "java/util/NoSuchElementException" ∈ TW := tw_of (in_t1 21 (by decide +kernel)) rfl
theorem k_in_UnsupportedOperationException : Cond.initialized "java/lang/UnsupportedOperationException" ∈ TW := tw_of (in_t1 22 (by decide +kernel)) rfl
theorem k_in_ArithmeticException : Cond.initialized "java/lang/ArithmeticException" ∈ TW := tw_of (in_t1 23 (by decide +kernel)) rfl
theorem k_cl_L_8 : Cond.classLink R_L 8 R_C ∈ TW := tw_of (in_t1 24 (by decide +kernel)) rfl
theorem k_new_C : Cond.instantiable R_C 10 ∈ TW := tw_of (in_t1 25 (by decide +kernel)) rfl
theorem k_ml_L_60 : Cond.methodLink R_L 60 y_C_init ∈ TW := tw_of (in_t1 26 (by decide +kernel)) rfl
theorem k_im_C_init : Cond.instanceMethod y_C_init ∈ TW := tw_of (in_t1 27 (by decide +kernel)) rfl
theorem k_code_C_init : cw_C_init ∈ TW := tw_of (in_t1 28 (by decide +kernel)) rfl
theorem k_ml_C_3 : Cond.methodLink R_C 3 y_OJ_init ∈ TW := tw_of (in_t1 29 (by decide +kernel)) rfl
theorem k_im_OJ_init : Cond.instanceMethod y_OJ_init ∈ TW := tw_of (in_t1 30 (by decide +kernel)) rfl
theorem k_code_OJ_init : cw_OJ_init ∈ TW := tw_of (in_t1 31 (by decide +kernel)) rfl
theorem k_cl_C_9 : Cond.classLink R_C 9 R_S ∈ TW := tw_of (in_t1 32 (by decide +kernel)) rfl
theorem k_new_S : Cond.instantiable R_S 1 ∈ TW := tw_of (in_t1 33 (by decide +kernel)) rfl
theorem k_ml_C_11 : Cond.methodLink R_C 11 y_S_init ∈ TW := tw_of (in_t1 34 (by decide +kernel)) rfl
theorem k_im_S_init : Cond.instanceMethod y_S_init ∈ TW := tw_of (in_t1 35 (by decide +kernel)) rfl
theorem k_code_S_init : cw_S_init ∈ TW := tw_of (in_t1 36 (by decide +kernel)) rfl
theorem k_ml_S_3 : Cond.methodLink R_S 3 y_OJ_init ∈ TW := tw_of (in_t1 37 (by decide +kernel)) rfl
theorem k_fl_S_9 : Cond.fieldLink R_S 9 "ConstraintCompiler$Sum" "coefficients" "[I" ∈ TW := tw_of (in_t1 38 (by decide +kernel)) rfl
theorem k_fl_K_31 : Cond.fieldLink R_K 31 "ConstraintCompiler$Sum" "coefficients" "[I" ∈ TW := tw_of (in_t1 39 (by decide +kernel)) rfl
theorem k_fl_C_163 : Cond.fieldLink R_C 163 "ConstraintCompiler$Sum" "coefficients" "[I" ∈ TW := tw_of (in_t1 40 (by decide +kernel)) rfl
theorem k_ac_int : Cond.arrayClass .int ∈ TW := tw_of (in_t1 44 (by decide +kernel)) rfl
theorem k_ml_C_16 : Cond.methodLink R_C 16 y_S_ofVariable ∈ TW := tw_of (in_t1 45 (by decide +kernel)) rfl
theorem k_st_S_ofVariable : Cond.static y_S_ofVariable ∈ TW := tw_of (in_t1 46 (by decide +kernel)) rfl
theorem k_code_S_ofVariable : cw_S_ofVariable ∈ TW := tw_of (in_t1 47 (by decide +kernel)) rfl
theorem k_cl_S_10 : Cond.classLink R_S 10 R_S ∈ TW := tw_of (in_t1 48 (by decide +kernel)) rfl
theorem k_ml_S_15 : Cond.methodLink R_S 15 y_S_init ∈ TW := tw_of (in_t1 49 (by decide +kernel)) rfl
theorem k_cl_C_23 : Cond.classLink R_C 23 R_A ∈ TW := tw_of (in_t1 50 (by decide +kernel)) rfl
theorem k_new_A : Cond.instantiable R_A 3 ∈ TW := tw_of (in_t1 51 (by decide +kernel)) rfl
theorem k_ml_C_25 : Cond.methodLink R_C 25 y_A_init ∈ TW := tw_of (in_t1 52 (by decide +kernel)) rfl
theorem k_im_A_init : Cond.instanceMethod y_A_init ∈ TW := tw_of (in_t1 53 (by decide +kernel)) rfl
theorem k_code_A_init : cw_A_init ∈ TW := tw_of (in_t1 54 (by decide +kernel)) rfl
theorem k_ml_A_1 : Cond.methodLink R_A 1 y_AL_init ∈ TW := tw_of (in_t1 55 (by decide +kernel)) rfl
theorem k_im_AL_init : Cond.instanceMethod y_AL_init ∈ TW := tw_of (in_t1 56 (by decide +kernel)) rfl
theorem k_code_AL_init : cw_AL_init ∈ TW := tw_of (in_t1 57 (by decide +kernel)) rfl
theorem k_ml_AL_1 : Cond.methodLink R_AL 1 y_AC_init ∈ TW := tw_of (in_t1 58 (by decide +kernel)) rfl
theorem k_im_AC_init : Cond.instanceMethod y_AC_init ∈ TW := tw_of (in_t1 59 (by decide +kernel)) rfl
theorem k_code_AC_init : cw_AC_init ∈ TW := tw_of (in_t1 60 (by decide +kernel)) rfl
theorem k_ml_AC_1 : Cond.methodLink R_AC 1 y_OJ_init ∈ TW := tw_of (in_t1 61 (by decide +kernel)) rfl
theorem k_fl_A_39 : Cond.fieldLink R_A 39 "java/util/ArrayList" "DEFAULTCAPACITY_EMPTY_ELEMENTDATA" "[Ljava/lang/Object;" ∈ TW := tw_of (in_t1 62 (by decide +kernel)) rfl
theorem k_fl_A_9 : Cond.fieldLink R_A 9 "java/util/ArrayList" "elementData" "[Ljava/lang/Object;" ∈ TW := tw_of (in_t1 64 (by decide +kernel)) rfl
theorem k_fl_A_48 : Cond.fieldLink R_A 48 "java/util/ArrayList" "size" "I" ∈ TW := tw_of (in_t1 65 (by decide +kernel)) rfl
theorem k_fl_AL_7 : Cond.fieldLink R_AL 7 "java/util/AbstractList" "modCount" "I" ∈ TW := tw_of (in_t1 66 (by decide +kernel)) rfl
theorem k_fl_A_63 : Cond.fieldLink R_A 63 "java/util/ArrayList" "modCount" "I" ∈ TW := tw_of (in_t1 67 (by decide +kernel)) rfl
theorem k_sf : Cond.sameField "java/util/ArrayList" "java/util/AbstractList" "modCount" "I" ∈ TW := tw_of (in_t1 68 (by decide +kernel)) rfl
theorem k_cl_C_43 : Cond.classLink R_C 43 R_V ∈ TW := tw_of (in_t1 76 (by decide +kernel)) rfl
theorem k_new_V : Cond.instantiable R_V 4 ∈ TW := tw_of (in_t1 77 (by decide +kernel)) rfl
theorem k_ml_C_45 : Cond.methodLink R_C 45 y_V_init ∈ TW := tw_of (in_t1 78 (by decide +kernel)) rfl
theorem k_im_V_init : Cond.instanceMethod y_V_init ∈ TW := tw_of (in_t1 79 (by decide +kernel)) rfl
theorem k_code_V_init : cw_V_init ∈ TW := tw_of (in_t1 80 (by decide +kernel)) rfl
theorem k_ml_V_3 : Cond.methodLink R_V 3 y_OJ_init ∈ TW := tw_of (in_t1 81 (by decide +kernel)) rfl
theorem k_fl_V_9 : Cond.fieldLink R_V 9 "ConstraintCompiler$Variable" "rule" "I" ∈ TW := tw_of (in_t1 82 (by decide +kernel)) rfl
theorem k_fl_V_15 : Cond.fieldLink R_V 15 "ConstraintCompiler$Variable" "left" "LConstraintCompiler$Sum;" ∈ TW := tw_of (in_t1 83 (by decide +kernel)) rfl
theorem k_fl_V_19 : Cond.fieldLink R_V 19 "ConstraintCompiler$Variable" "right" "LConstraintCompiler$Sum;" ∈ TW := tw_of (in_t1 84 (by decide +kernel)) rfl
theorem k_fl_V_28 : Cond.fieldLink R_V 28 "ConstraintCompiler$Variable" "given" "I" ∈ TW := tw_of (in_t1 85 (by decide +kernel)) rfl
theorem k_fl_C_119 : Cond.fieldLink R_C 119 "ConstraintCompiler$Variable" "given" "I" ∈ TW := tw_of (in_t1 86 (by decide +kernel)) rfl
theorem k_ml_C_48 : Cond.methodLink R_C 48 y_A_add1 ∈ TW := tw_of (in_t1 96 (by decide +kernel)) rfl
theorem k_im_A_add1 : Cond.instanceMethod y_A_add1 ∈ TW := tw_of (in_t1 97 (by decide +kernel)) rfl
theorem k_se_A_add1 : Cond.selects R_A y_A_add1 y_A_add1 ∈ TW := tw_of (in_t1 98 (by decide +kernel)) rfl
theorem k_code_A_add1 : cw_A_add1 ∈ TW := tw_of (in_t1 99 (by decide +kernel)) rfl
theorem k_ml_A_131 : Cond.methodLink R_A 131 y_A_add3 ∈ TW := tw_of (in_t1 100 (by decide +kernel)) rfl
theorem k_im_A_add3 : Cond.instanceMethod y_A_add3 ∈ TW := tw_of (in_t1 102 (by decide +kernel)) rfl
theorem k_code_A_add3 : cw_A_add3 ∈ TW := tw_of (in_t1 103 (by decide +kernel)) rfl
theorem k_ml_A_129 : Cond.methodLink R_A 129 y_A_grow0 ∈ TW := tw_of (in_t1 104 (by decide +kernel)) rfl
theorem k_im_A_grow0 : Cond.instanceMethod y_A_grow0 ∈ TW := tw_of (in_t1 106 (by decide +kernel)) rfl
theorem k_code_A_grow0 : cw_A_grow0 ∈ TW := tw_of (in_t1 107 (by decide +kernel)) rfl
theorem k_ml_A_69 : Cond.methodLink R_A 69 y_A_grow1 ∈ TW := tw_of (in_t1 108 (by decide +kernel)) rfl
theorem k_im_A_grow1 : Cond.instanceMethod y_A_grow1 ∈ TW := tw_of (in_t1 110 (by decide +kernel)) rfl
theorem k_code_A_grow1 : cw_A_grow1 ∈ TW := tw_of (in_t1 111 (by decide +kernel)) rfl
theorem k_ml_A_73 : Cond.methodLink R_A 73 y_AS_newLength ∈ TW := tw_of (in_t1 112 (by decide +kernel)) rfl
theorem k_st_AS_newLength : Cond.static y_AS_newLength ∈ TW := tw_of (in_t1 113 (by decide +kernel)) rfl
theorem k_code_AS_newLength : cw_AS_newLength ∈ TW := tw_of (in_t1 114 (by decide +kernel)) rfl
theorem k_ml_AS_194 : Cond.methodLink R_AS 194 y_MA_max ∈ TW := tw_of (in_t1 115 (by decide +kernel)) rfl
theorem k_st_MA_max : Cond.static y_MA_max ∈ TW := tw_of (in_t1 116 (by decide +kernel)) rfl
theorem k_code_MA_max : cw_MA_max ∈ TW := tw_of (in_t1 117 (by decide +kernel)) rfl
theorem k_co_AS_200 : Cond.constant R_AS 200 2147483639 ∈ TW := tw_of (in_t1 118 (by decide +kernel)) rfl
theorem k_ml_AS_201 : Cond.methodLink R_AS 201 y_AS_hugeLength ∈ TW := tw_of (in_t1 119 (by decide +kernel)) rfl
theorem k_st_AS_hugeLength : Cond.static y_AS_hugeLength ∈ TW := tw_of (in_t1 120 (by decide +kernel)) rfl
theorem k_code_AS_hugeLength : cw_AS_hugeLength ∈ TW := tw_of (in_t1 121 (by decide +kernel)) rfl
theorem k_ml_A_66 : Cond.methodLink R_A 66 y_AR_copyOf2 ∈ TW := tw_of (in_t1 122 (by decide +kernel)) rfl
theorem k_st_AR_copyOf2 : Cond.static y_AR_copyOf2 ∈ TW := tw_of (in_t1 123 (by decide +kernel)) rfl
theorem k_code_AR_copyOf2 : cw_AR_copyOf2 ∈ TW := tw_of (in_t1 124 (by decide +kernel)) rfl
theorem k_ml_AR_86 : Cond.methodLink R_AR 86 ⟨"java/lang/Object", "getClass", "()Ljava/lang/Class;"⟩ ∈ TW := tw_of (in_t1 125 (by decide +kernel)) rfl
theorem k_im_getClass : Cond.instanceMethod ⟨"java/lang/Object", "getClass", "()Ljava/lang/Class;"⟩ ∈ TW := tw_of (in_t1 126 (by decide +kernel)) rfl
theorem k_na_getClass : Cond.native ⟨"java/lang/Object", "getClass", "()Ljava/lang/Class;"⟩ ∈ TW := tw_of (in_t1 140 (by decide +kernel)) rfl
theorem k_ml_AR_300 : Cond.methodLink R_AR 300 y_AR_copyOf3 ∈ TW := tw_of (in_t1 141 (by decide +kernel)) rfl
theorem k_st_AR_copyOf3 : Cond.static y_AR_copyOf3 ∈ TW := tw_of (in_t1 142 (by decide +kernel)) rfl
theorem k_code_AR_copyOf3 : cw_AR_copyOf3 ∈ TW := tw_of (in_t1 143 (by decide +kernel)) rfl
theorem k_cl_AR_110 : Cond.classLink R_AR 110 "[Ljava/lang/Object;" ∈ TW := tw_of (in_t1 144 (by decide +kernel)) rfl
theorem k_cl_AR_2 : Cond.classLink R_AR 2 R_OJ ∈ TW := tw_of (in_t1 146 (by decide +kernel)) rfl
theorem k_ml_AR_304 : Cond.methodLink R_AR 304 y_MA_min ∈ TW := tw_of (in_t1 147 (by decide +kernel)) rfl
theorem k_st_MA_min : Cond.static y_MA_min ∈ TW := tw_of (in_t1 148 (by decide +kernel)) rfl
theorem k_code_MA_min : cw_MA_min ∈ TW := tw_of (in_t1 149 (by decide +kernel)) rfl
theorem k_ml_AR_150 : Cond.methodLink R_AR 150 ⟨"java/lang/System", "arraycopy", "(Ljava/lang/Object;ILjava/lang/Object;II)V"⟩ ∈ TW := tw_of (in_t1 150 (by decide +kernel)) rfl
theorem k_st_arraycopy : Cond.static ⟨"java/lang/System", "arraycopy", "(Ljava/lang/Object;ILjava/lang/Object;II)V"⟩ ∈ TW := tw_of (in_t1 151 (by decide +kernel)) rfl
theorem k_na_arraycopy : Cond.native ⟨"java/lang/System", "arraycopy", "(Ljava/lang/Object;ILjava/lang/Object;II)V"⟩ ∈ TW := tw_of (in_t1 152 (by decide +kernel)) rfl
theorem k_ml_A_79 : Cond.methodLink R_A 79 y_MA_max ∈ TW := tw_of (in_t1 153 (by decide +kernel)) rfl
theorem k_cl_A_7 : Cond.classLink R_A 7 R_OJ ∈ TW := tw_of (in_t1 154 (by decide +kernel)) rfl
theorem k_fl_C_12 : Cond.fieldLink R_C 12 "ConstraintCompiler" "zero" "LConstraintCompiler$Sum;" ∈ TW := tw_of (in_t1 155 (by decide +kernel)) rfl
theorem k_fl_C_20 : Cond.fieldLink R_C 20 "ConstraintCompiler" "one" "LConstraintCompiler$Sum;" ∈ TW := tw_of (in_t1 156 (by decide +kernel)) rfl
theorem k_fl_C_26 : Cond.fieldLink R_C 26 "ConstraintCompiler" "variables" "Ljava/util/ArrayList;" ∈ TW := tw_of (in_t1 157 (by decide +kernel)) rfl
theorem k_fl_C_30 : Cond.fieldLink R_C 30 "ConstraintCompiler" "expressions" "Ljava/util/ArrayList;" ∈ TW := tw_of (in_t1 158 (by decide +kernel)) rfl
theorem k_fl_C_33 : Cond.fieldLink R_C 33 "ConstraintCompiler" "constraints" "Ljava/util/ArrayList;" ∈ TW := tw_of (in_t1 159 (by decide +kernel)) rfl
theorem k_fl_C_172 : Cond.fieldLink R_C 172 "ConstraintCompiler" "inputs" "I" ∈ TW := tw_of (in_t1 160 (by decide +kernel)) rfl
theorem k_fl_C_36 : Cond.fieldLink R_C 36 "ConstraintCompiler" "witness" "[I" ∈ TW := tw_of (in_t1 161 (by decide +kernel)) rfl
theorem k_fl_C_40 : Cond.fieldLink R_C 40 "ConstraintCompiler" "draft" "[I" ∈ TW := tw_of (in_t1 162 (by decide +kernel)) rfl
theorem k_fl_C_132 : Cond.fieldLink R_C 132 "ConstraintCompiler" "witnessVariables" "I" ∈ TW := tw_of (in_t1 163 (by decide +kernel)) rfl
theorem k_fl_C_135 : Cond.fieldLink R_C 135 "ConstraintCompiler" "witnessConstraints" "I" ∈ TW := tw_of (in_t1 164 (by decide +kernel)) rfl
theorem k_ml_L_64 : Cond.methodLink R_L 64 y_L_expression ∈ TW := tw_of (in_t1 186 (by decide +kernel)) rfl
theorem k_st_L_expression : Cond.static y_L_expression ∈ TW := tw_of (in_t1 187 (by decide +kernel)) rfl
theorem k_code_L_expression : cw_L_expression ∈ TW := tw_of (in_t1 188 (by decide +kernel)) rfl
theorem k_cl_L_13 : Cond.classLink R_L 13 "java/lang/IllegalArgumentException" ∈ TW := tw_of (in_t1 189 (by decide +kernel)) rfl
theorem k_cl_L_15 : Cond.classLink R_L 15 "java/lang/IllegalStateException" ∈ TW := tw_of (in_t1 190 (by decide +kernel)) rfl
theorem k_ml_L_7 : Cond.methodLink R_L 7 y_C_expression ∈ TW := tw_of (in_t1 191 (by decide +kernel)) rfl
theorem k_im_C_expression : Cond.instanceMethod y_C_expression ∈ TW := tw_of (in_t1 192 (by decide +kernel)) rfl
theorem k_se_C_expression : Cond.selects R_C y_C_expression y_C_expression ∈ TW := tw_of (in_t1 193 (by decide +kernel)) rfl
theorem k_code_C_expression : cw_C_expression ∈ TW := tw_of (in_t1 194 (by decide +kernel)) rfl
theorem k_ml_C_52 : Cond.methodLink R_C 52 y_C_isWellFormed ∈ TW := tw_of (in_t1 195 (by decide +kernel)) rfl
theorem k_im_C_isWellFormed : Cond.instanceMethod y_C_isWellFormed ∈ TW := tw_of (in_t1 197 (by decide +kernel)) rfl
theorem k_code_C_isWellFormed : cw_C_isWellFormed ∈ TW := tw_of (in_t1 198 (by decide +kernel)) rfl
theorem k_ml_C_82 : Cond.methodLink R_C 82 y_C_isMade ∈ TW := tw_of (in_t1 199 (by decide +kernel)) rfl
theorem k_im_C_isMade : Cond.instanceMethod y_C_isMade ∈ TW := tw_of (in_t1 201 (by decide +kernel)) rfl
theorem k_code_C_isMade : cw_C_isMade ∈ TW := tw_of (in_t1 202 (by decide +kernel)) rfl
theorem k_ml_C_78 : Cond.methodLink R_C 78 y_A_size ∈ TW := tw_of (in_t1 203 (by decide +kernel)) rfl
theorem k_im_A_size : Cond.instanceMethod y_A_size ∈ TW := tw_of (in_t1 204 (by decide +kernel)) rfl
theorem k_se_A_size : Cond.selects R_A y_A_size y_A_size ∈ TW := tw_of (in_t1 205 (by decide +kernel)) rfl
theorem k_code_A_size : cw_A_size ∈ TW := tw_of (in_t1 206 (by decide +kernel)) rfl
theorem k_cl_C_56 : Cond.classLink R_C 56 "java/lang/IllegalArgumentException" ∈ TW := tw_of (in_t1 207 (by decide +kernel)) rfl
theorem k_ca_IllegalArgumentException_IllegalArgumentException : Cond.castable "java/lang/IllegalArgumentException" "java/lang/IllegalArgumentException" ∈ NW := nw_of (in_t1 209 (by decide +kernel)) rfl
theorem k_na_fillInStackTrace0 : Cond.native ⟨"java/lang/Throwable", "fillInStackTrace", "(I)Ljava/lang/Throwable;"⟩ ∈ TW := tw_of (in_t2 9 (by decide +kernel)) rfl
theorem k_ml_C_58 : Cond.methodLink R_C 58 ⟨"java/lang/IllegalArgumentException", "<init>", "()V"⟩ ∈ TW := tw_of (in_t2 10 (by decide +kernel)) rfl
theorem k_ml_C_59 : Cond.methodLink R_C 59 y_C_hasRoomFor ∈ TW := tw_of (in_t2 32 (by decide +kernel)) rfl
theorem k_im_C_hasRoomFor : Cond.instanceMethod y_C_hasRoomFor ∈ TW := tw_of (in_t2 34 (by decide +kernel)) rfl
theorem k_code_C_hasRoomFor : cw_C_hasRoomFor ∈ TW := tw_of (in_t2 35 (by decide +kernel)) rfl
theorem k_ml_C_181 : Cond.methodLink R_C 181 y_C_constraintsNeeded ∈ TW := tw_of (in_t2 36 (by decide +kernel)) rfl
theorem k_im_C_constraintsNeeded : Cond.instanceMethod y_C_constraintsNeeded ∈ TW := tw_of (in_t2 38 (by decide +kernel)) rfl
theorem k_code_C_constraintsNeeded : cw_C_constraintsNeeded ∈ TW := tw_of (in_t2 39 (by decide +kernel)) rfl
theorem k_ml_C_94 : Cond.methodLink R_C 94 y_C_sumOf ∈ TW := tw_of (in_t2 40 (by decide +kernel)) rfl
theorem k_im_C_sumOf : Cond.instanceMethod y_C_sumOf ∈ TW := tw_of (in_t2 42 (by decide +kernel)) rfl
theorem k_code_C_sumOf : cw_C_sumOf ∈ TW := tw_of (in_t2 43 (by decide +kernel)) rfl
theorem k_ml_C_104 : Cond.methodLink R_C 104 y_A_get ∈ TW := tw_of (in_t2 44 (by decide +kernel)) rfl
theorem k_im_A_get : Cond.instanceMethod y_A_get ∈ TW := tw_of (in_t2 45 (by decide +kernel)) rfl
theorem k_se_A_get : Cond.selects R_A y_A_get y_A_get ∈ TW := tw_of (in_t2 46 (by decide +kernel)) rfl
theorem k_code_A_get : cw_A_get ∈ TW := tw_of (in_t2 47 (by decide +kernel)) rfl
theorem k_ml_A_118 : Cond.methodLink R_A 118 y_OB_checkIndex ∈ TW := tw_of (in_t2 48 (by decide +kernel)) rfl
theorem k_st_OB_checkIndex : Cond.static y_OB_checkIndex ∈ TW := tw_of (in_t2 49 (by decide +kernel)) rfl
theorem k_code_OB_checkIndex : cw_OB_checkIndex ∈ TW := tw_of (in_t2 50 (by decide +kernel)) rfl
theorem k_ml_OB_105 : Cond.methodLink R_OB 105 y_PC_checkIndex ∈ TW := tw_of (in_t2 51 (by decide +kernel)) rfl
theorem k_st_PC_checkIndex : Cond.static y_PC_checkIndex ∈ TW := tw_of (in_t2 52 (by decide +kernel)) rfl
theorem k_code_PC_checkIndex : cw_PC_checkIndex ∈ TW := tw_of (in_t2 53 (by decide +kernel)) rfl
theorem k_ml_A_123 : Cond.methodLink R_A 123 y_A_elementData ∈ TW := tw_of (in_t2 54 (by decide +kernel)) rfl
theorem k_im_A_elementData : Cond.instanceMethod y_A_elementData ∈ TW := tw_of (in_t2 55 (by decide +kernel)) rfl
theorem k_se_A_elementData : Cond.selects R_A y_A_elementData y_A_elementData ∈ TW := tw_of (in_t2 56 (by decide +kernel)) rfl
theorem k_code_A_elementData : cw_A_elementData ∈ TW := tw_of (in_t2 57 (by decide +kernel)) rfl
theorem k_cl_C_69 : Cond.classLink R_C 69 R_E ∈ TW := tw_of (in_t2 58 (by decide +kernel)) rfl
theorem k_ml_C_185 : Cond.methodLink R_C 185 y_C_constraintsOfProduct ∈ TW := tw_of (in_t2 59 (by decide +kernel)) rfl
theorem k_st_C_constraintsOfProduct : Cond.static y_C_constraintsOfProduct ∈ TW := tw_of (in_t2 60 (by decide +kernel)) rfl
theorem k_code_C_constraintsOfProduct : cw_C_constraintsOfProduct ∈ TW := tw_of (in_t2 61 (by decide +kernel)) rfl
theorem k_ml_C_189 : Cond.methodLink R_C 189 y_S_isConstant ∈ TW := tw_of (in_t2 62 (by decide +kernel)) rfl
theorem k_im_S_isConstant : Cond.instanceMethod y_S_isConstant ∈ TW := tw_of (in_t2 63 (by decide +kernel)) rfl
theorem k_se_S_isConstant : Cond.selects R_S y_S_isConstant y_S_isConstant ∈ TW := tw_of (in_t2 64 (by decide +kernel)) rfl
theorem k_code_S_isConstant : cw_S_isConstant ∈ TW := tw_of (in_t2 65 (by decide +kernel)) rfl
theorem k_ml_S_24 : Cond.methodLink R_S 24 y_S_lastVariable ∈ TW := tw_of (in_t2 66 (by decide +kernel)) rfl
theorem k_im_S_lastVariable : Cond.instanceMethod y_S_lastVariable ∈ TW := tw_of (in_t2 67 (by decide +kernel)) rfl
theorem k_se_S_lastVariable : Cond.selects R_S y_S_lastVariable y_S_lastVariable ∈ TW := tw_of (in_t2 68 (by decide +kernel)) rfl
theorem k_code_S_lastVariable : cw_S_lastVariable ∈ TW := tw_of (in_t2 69 (by decide +kernel)) rfl
theorem k_ml_C_86 : Cond.methodLink R_C 86 y_C_difference ∈ TW := tw_of (in_t2 70 (by decide +kernel)) rfl
theorem k_im_C_difference : Cond.instanceMethod y_C_difference ∈ TW := tw_of (in_t2 72 (by decide +kernel)) rfl
theorem k_code_C_difference : cw_C_difference ∈ TW := tw_of (in_t2 73 (by decide +kernel)) rfl
theorem k_ml_C_97 : Cond.methodLink R_C 97 y_S_minus ∈ TW := tw_of (in_t2 74 (by decide +kernel)) rfl
theorem k_im_S_minus : Cond.instanceMethod y_S_minus ∈ TW := tw_of (in_t2 75 (by decide +kernel)) rfl
theorem k_se_S_minus : Cond.selects R_S y_S_minus y_S_minus ∈ TW := tw_of (in_t2 76 (by decide +kernel)) rfl
theorem k_code_S_minus : cw_S_minus ∈ TW := tw_of (in_t2 77 (by decide +kernel)) rfl
theorem k_ml_S_16 : Cond.methodLink R_S 16 y_S_combinedWith ∈ TW := tw_of (in_t2 78 (by decide +kernel)) rfl
theorem k_im_S_combinedWith : Cond.instanceMethod y_S_combinedWith ∈ TW := tw_of (in_t2 80 (by decide +kernel)) rfl
theorem k_code_S_combinedWith : cw_S_combinedWith ∈ TW := tw_of (in_t2 81 (by decide +kernel)) rfl
theorem k_mn_S_20 : Cond.methodLinkNest R_S 20 y_C_remainder R_C ∈ NW := nw_of (in_t2 82 (by decide +kernel)) rfl
theorem k_st_C_remainder : Cond.static y_C_remainder ∈ TW := tw_of (in_t2 83 (by decide +kernel)) rfl
theorem k_code_C_remainder : cw_C_remainder ∈ TW := tw_of (in_t2 84 (by decide +kernel)) rfl
theorem k_ml_C_175 : Cond.methodLink R_C 175 y_MA_floorMod ∈ TW := tw_of (in_t2 85 (by decide +kernel)) rfl
theorem k_st_MA_floorMod : Cond.static y_MA_floorMod ∈ TW := tw_of (in_t2 86 (by decide +kernel)) rfl
theorem k_code_MA_floorMod : cw_MA_floorMod ∈ TW := tw_of (in_t2 87 (by decide +kernel)) rfl
theorem k_cl_C_62 : Cond.classLink R_C 62 "java/lang/IllegalStateException" ∈ TW := tw_of (in_t2 88 (by decide +kernel)) rfl
theorem k_ca_IllegalStateException_IllegalStateException : Cond.castable "java/lang/IllegalStateException" "java/lang/IllegalStateException" ∈ NW := nw_of (in_t2 90 (by decide +kernel)) rfl
theorem k_ml_C_64 : Cond.methodLink R_C 64 ⟨"java/lang/IllegalStateException", "<init>", "()V"⟩ ∈ TW := tw_of (in_t2 97 (by decide +kernel)) rfl
theorem k_ml_C_65 : Cond.methodLink R_C 65 y_C_makeInput ∈ TW := tw_of (in_t2 103 (by decide +kernel)) rfl
theorem k_im_C_makeInput : Cond.instanceMethod y_C_makeInput ∈ TW := tw_of (in_t2 105 (by decide +kernel)) rfl
theorem k_code_C_makeInput : cw_C_makeInput ∈ TW := tw_of (in_t2 106 (by decide +kernel)) rfl
theorem k_ml_C_195 : Cond.methodLink R_C 195 y_C_addVariable ∈ TW := tw_of (in_t2 107 (by decide +kernel)) rfl
theorem k_im_C_addVariable : Cond.instanceMethod y_C_addVariable ∈ TW := tw_of (in_t2 109 (by decide +kernel)) rfl
theorem k_code_C_addVariable : cw_C_addVariable ∈ TW := tw_of (in_t2 110 (by decide +kernel)) rfl
theorem k_new_E : Cond.instantiable R_E 2 ∈ TW := tw_of (in_t2 111 (by decide +kernel)) rfl
theorem k_ml_C_75 : Cond.methodLink R_C 75 y_E_init ∈ TW := tw_of (in_t2 112 (by decide +kernel)) rfl
theorem k_im_E_init : Cond.instanceMethod y_E_init ∈ TW := tw_of (in_t2 113 (by decide +kernel)) rfl
theorem k_code_E_init : cw_E_init ∈ TW := tw_of (in_t2 114 (by decide +kernel)) rfl
theorem k_ml_E_1 : Cond.methodLink R_E 1 y_OJ_init ∈ TW := tw_of (in_t2 115 (by decide +kernel)) rfl
theorem k_fl_E_7 : Cond.fieldLink R_E 7 "ConstraintCompiler$Expression" "sum" "LConstraintCompiler$Sum;" ∈ TW := tw_of (in_t2 116 (by decide +kernel)) rfl
theorem k_fl_C_192 : Cond.fieldLink R_C 192 "ConstraintCompiler$Expression" "sum" "LConstraintCompiler$Sum;" ∈ TW := tw_of (in_t2 117 (by decide +kernel)) rfl
theorem k_fl_E_13 : Cond.fieldLink R_E 13 "ConstraintCompiler$Expression" "input" "I" ∈ TW := tw_of (in_t2 118 (by decide +kernel)) rfl
theorem k_fl_C_115 : Cond.fieldLink R_C 115 "ConstraintCompiler$Expression" "input" "I" ∈ TW := tw_of (in_t2 119 (by decide +kernel)) rfl
theorem k_ml_C_71 : Cond.methodLink R_C 71 y_C_makeSum ∈ TW := tw_of (in_t2 125 (by decide +kernel)) rfl
theorem k_im_C_makeSum : Cond.instanceMethod y_C_makeSum ∈ TW := tw_of (in_t2 127 (by decide +kernel)) rfl
theorem k_code_C_makeSum : cw_C_makeSum ∈ TW := tw_of (in_t2 128 (by decide +kernel)) rfl
theorem k_ml_C_199 : Cond.methodLink R_C 199 y_S_plus ∈ TW := tw_of (in_t2 129 (by decide +kernel)) rfl
theorem k_im_S_plus : Cond.instanceMethod y_S_plus ∈ TW := tw_of (in_t2 130 (by decide +kernel)) rfl
theorem k_se_S_plus : Cond.selects R_S y_S_plus y_S_plus ∈ TW := tw_of (in_t2 131 (by decide +kernel)) rfl
theorem k_code_S_plus : cw_S_plus ∈ TW := tw_of (in_t2 132 (by decide +kernel)) rfl
theorem k_ml_C_202 : Cond.methodLink R_C 202 y_C_makeProduct ∈ TW := tw_of (in_t2 133 (by decide +kernel)) rfl
theorem k_im_C_makeProduct : Cond.instanceMethod y_C_makeProduct ∈ TW := tw_of (in_t2 135 (by decide +kernel)) rfl
theorem k_code_C_makeProduct : cw_C_makeProduct ∈ TW := tw_of (in_t2 136 (by decide +kernel)) rfl
theorem k_ml_C_216 : Cond.methodLink R_C 216 y_S_scaledBy ∈ TW := tw_of (in_t2 137 (by decide +kernel)) rfl
theorem k_im_S_scaledBy : Cond.instanceMethod y_S_scaledBy ∈ TW := tw_of (in_t2 138 (by decide +kernel)) rfl
theorem k_se_S_scaledBy : Cond.selects R_S y_S_scaledBy y_S_scaledBy ∈ TW := tw_of (in_t2 139 (by decide +kernel)) rfl
theorem k_code_S_scaledBy : cw_S_scaledBy ∈ TW := tw_of (in_t2 140 (by decide +kernel)) rfl
theorem k_ml_C_219 : Cond.methodLink R_C 219 y_C_makeConstrainedProduct ∈ TW := tw_of (in_t2 141 (by decide +kernel)) rfl
theorem k_im_C_makeConstrainedProduct : Cond.instanceMethod y_C_makeConstrainedProduct ∈ TW := tw_of (in_t2 143 (by decide +kernel)) rfl
theorem k_code_C_makeConstrainedProduct : cw_C_makeConstrainedProduct ∈ TW := tw_of (in_t2 144 (by decide +kernel)) rfl
theorem k_ml_C_90 : Cond.methodLink R_C 90 y_C_addConstraint ∈ TW := tw_of (in_t2 145 (by decide +kernel)) rfl
theorem k_im_C_addConstraint : Cond.instanceMethod y_C_addConstraint ∈ TW := tw_of (in_t2 147 (by decide +kernel)) rfl
theorem k_code_C_addConstraint : cw_C_addConstraint ∈ TW := tw_of (in_t2 148 (by decide +kernel)) rfl
theorem k_cl_C_151 : Cond.classLink R_C 151 R_K ∈ TW := tw_of (in_t2 149 (by decide +kernel)) rfl
theorem k_new_K : Cond.instantiable R_K 3 ∈ TW := tw_of (in_t2 150 (by decide +kernel)) rfl
theorem k_ml_C_222 : Cond.methodLink R_C 222 y_K_init ∈ TW := tw_of (in_t2 151 (by decide +kernel)) rfl
theorem k_im_K_init : Cond.instanceMethod y_K_init ∈ TW := tw_of (in_t2 152 (by decide +kernel)) rfl
theorem k_code_K_init : cw_K_init ∈ TW := tw_of (in_t2 153 (by decide +kernel)) rfl
theorem k_ml_K_1 : Cond.methodLink R_K 1 y_OJ_init ∈ TW := tw_of (in_t2 154 (by decide +kernel)) rfl
theorem k_fl_K_7 : Cond.fieldLink R_K 7 "ConstraintCompiler$Constraint" "a" "LConstraintCompiler$Sum;" ∈ TW := tw_of (in_t2 155 (by decide +kernel)) rfl
theorem k_fl_K_13 : Cond.fieldLink R_K 13 "ConstraintCompiler$Constraint" "b" "LConstraintCompiler$Sum;" ∈ TW := tw_of (in_t2 156 (by decide +kernel)) rfl
theorem k_fl_K_16 : Cond.fieldLink R_K 16 "ConstraintCompiler$Constraint" "c" "LConstraintCompiler$Sum;" ∈ TW := tw_of (in_t2 157 (by decide +kernel)) rfl
theorem k_ml_C_206 : Cond.methodLink R_C 206 y_C_makeShare ∈ TW := tw_of (in_t2 165 (by decide +kernel)) rfl
theorem k_im_C_makeShare : Cond.instanceMethod y_C_makeShare ∈ TW := tw_of (in_t2 167 (by decide +kernel)) rfl
theorem k_code_C_makeShare : cw_C_makeShare ∈ TW := tw_of (in_t2 168 (by decide +kernel)) rfl
theorem k_ml_C_209 : Cond.methodLink R_C 209 y_C_makeSame ∈ TW := tw_of (in_t2 169 (by decide +kernel)) rfl
theorem k_im_C_makeSame : Cond.instanceMethod y_C_makeSame ∈ TW := tw_of (in_t2 171 (by decide +kernel)) rfl
theorem k_code_C_makeSame : cw_C_makeSame ∈ TW := tw_of (in_t2 172 (by decide +kernel)) rfl
theorem k_ml_C_212 : Cond.methodLink R_C 212 y_C_makePower ∈ TW := tw_of (in_t2 173 (by decide +kernel)) rfl
theorem k_im_C_makePower : Cond.instanceMethod y_C_makePower ∈ TW := tw_of (in_t2 175 (by decide +kernel)) rfl
theorem k_code_C_makePower : cw_C_makePower ∈ TW := tw_of (in_t2 176 (by decide +kernel)) rfl
theorem k_ml_C_122 : Cond.methodLink R_C 122 y_C_remainder ∈ TW := tw_of (in_t2 177 (by decide +kernel)) rfl
theorem k_ml_L_73 : Cond.methodLink R_L 73 y_L_claim ∈ TW := tw_of (in_t2 178 (by decide +kernel)) rfl
theorem k_st_L_claim : Cond.static y_L_claim ∈ TW := tw_of (in_t2 179 (by decide +kernel)) rfl
theorem k_code_L_claim : cw_L_claim ∈ TW := tw_of (in_t2 180 (by decide +kernel)) rfl
theorem k_ml_L_17 : Cond.methodLink R_L 17 y_C_claim ∈ TW := tw_of (in_t2 181 (by decide +kernel)) rfl
theorem k_im_C_claim : Cond.instanceMethod y_C_claim ∈ TW := tw_of (in_t2 182 (by decide +kernel)) rfl
theorem k_se_C_claim : Cond.selects R_C y_C_claim y_C_claim ∈ TW := tw_of (in_t2 183 (by decide +kernel)) rfl
theorem k_code_C_claim : cw_C_claim ∈ TW := tw_of (in_t2 184 (by decide +kernel)) rfl
theorem k_ml_L_77 : Cond.methodLink R_L 77 y_L_give ∈ TW := tw_of (in_t2 185 (by decide +kernel)) rfl
theorem k_st_L_give : Cond.static y_L_give ∈ TW := tw_of (in_t2 186 (by decide +kernel)) rfl
theorem k_code_L_give : cw_L_give ∈ TW := tw_of (in_t2 187 (by decide +kernel)) rfl
theorem k_cl_L_25 : Cond.classLink R_L 25 "java/util/NoSuchElementException" ∈ TW := tw_of (in_t2 188 (by decide +kernel)) rfl
theorem k_cl_L_27 : Cond.classLink R_L 27 "java/lang/UnsupportedOperationException" ∈ TW := tw_of (in_t2 189 (by decide +kernel)) rfl
theorem k_ml_L_21 : Cond.methodLink R_L 21 y_C_give ∈ TW := tw_of (in_t2 190 (by decide +kernel)) rfl
theorem k_im_C_give : Cond.instanceMethod y_C_give ∈ TW := tw_of (in_t2 191 (by decide +kernel)) rfl
theorem k_se_C_give : Cond.selects R_C y_C_give y_C_give ∈ TW := tw_of (in_t2 192 (by decide +kernel)) rfl
theorem k_code_C_give : cw_C_give ∈ TW := tw_of (in_t2 193 (by decide +kernel)) rfl
theorem k_cl_C_101 : Cond.classLink R_C 101 "java/util/NoSuchElementException" ∈ TW := tw_of (in_t2 194 (by decide +kernel)) rfl
theorem k_ca_NoSuchElementException_NoSuchElementException : Cond.castable "java/util/NoSuchElementException" "java/util/NoSuchElementException" ∈ NW := nw_of (in_t2 196 (by decide +kernel)) rfl
theorem k_ml_C_103 : Cond.methodLink R_C 103 ⟨"java/util/NoSuchElementException", "<init>", "()V"⟩ ∈ TW := tw_of (in_t2 203 (by decide +kernel)) rfl
theorem k_ml_C_108 : Cond.methodLink R_C 108 y_E_isInput ∈ TW := tw_of (in_t2 209 (by decide +kernel)) rfl
theorem k_im_E_isInput : Cond.instanceMethod y_E_isInput ∈ TW := tw_of (in_t2 210 (by decide +kernel)) rfl
theorem k_se_E_isInput : Cond.selects R_E y_E_isInput y_E_isInput ∈ TW := tw_of (in_t2 211 (by decide +kernel)) rfl
theorem k_code_E_isInput : cw_E_isInput ∈ TW := tw_of (in_t2 212 (by decide +kernel)) rfl
theorem k_cl_C_112 : Cond.classLink R_C 112 "java/lang/UnsupportedOperationException" ∈ TW := tw_of (in_t2 213 (by decide +kernel)) rfl
theorem k_ca_UnsupportedOperationException_UnsupportedOperationException : Cond.castable "java/lang/UnsupportedOperationException" "java/lang/UnsupportedOperationException" ∈ NW := nw_of (in_t2 215 (by decide +kernel)) rfl
theorem k_ml_C_114 : Cond.methodLink R_C 114 ⟨"java/lang/UnsupportedOperationException", "<init>", "()V"⟩ ∈ TW := tw_of (in_t2 222 (by decide +kernel)) rfl
theorem k_ml_L_81 : Cond.methodLink R_L 81 y_L_solve ∈ TW := tw_of (in_t2 228 (by decide +kernel)) rfl
theorem k_st_L_solve : Cond.static y_L_solve ∈ TW := tw_of (in_t2 229 (by decide +kernel)) rfl
theorem k_code_L_solve : cw_L_solve ∈ TW := tw_of (in_t2 230 (by decide +kernel)) rfl
theorem k_cl_L_33 : Cond.classLink R_L 33 "java/lang/ArithmeticException" ∈ TW := tw_of (in_t2 231 (by decide +kernel)) rfl
theorem k_ml_L_29 : Cond.methodLink R_L 29 y_C_solve ∈ TW := tw_of (in_t2 232 (by decide +kernel)) rfl
theorem k_im_C_solve : Cond.instanceMethod y_C_solve ∈ TW := tw_of (in_t2 233 (by decide +kernel)) rfl
theorem k_se_C_solve : Cond.selects R_C y_C_solve y_C_solve ∈ TW := tw_of (in_t2 234 (by decide +kernel)) rfl
theorem k_code_C_solve : cw_C_solve ∈ TW := tw_of (in_t2 235 (by decide +kernel)) rfl
theorem k_ml_C_126 : Cond.methodLink R_C 126 y_C_fillDraft ∈ TW := tw_of (in_t2 236 (by decide +kernel)) rfl
theorem k_im_C_fillDraft : Cond.instanceMethod y_C_fillDraft ∈ TW := tw_of (in_t2 238 (by decide +kernel)) rfl
theorem k_code_C_fillDraft : cw_C_fillDraft ∈ TW := tw_of (in_t2 239 (by decide +kernel)) rfl
theorem k_ml_C_224 : Cond.methodLink R_C 224 y_V_numberFor ∈ TW := tw_of (in_t3 0 (by decide +kernel)) rfl
theorem k_im_V_numberFor : Cond.instanceMethod y_V_numberFor ∈ TW := tw_of (in_t3 1 (by decide +kernel)) rfl
theorem k_se_V_numberFor : Cond.selects R_V y_V_numberFor y_V_numberFor ∈ TW := tw_of (in_t3 2 (by decide +kernel)) rfl
theorem k_code_V_numberFor : cw_V_numberFor ∈ TW := tw_of (in_t3 3 (by decide +kernel)) rfl
theorem k_ml_V_22 : Cond.methodLink R_V 22 y_S_valueFor ∈ TW := tw_of (in_t3 4 (by decide +kernel)) rfl
theorem k_im_S_valueFor : Cond.instanceMethod y_S_valueFor ∈ TW := tw_of (in_t3 5 (by decide +kernel)) rfl
theorem k_se_S_valueFor : Cond.selects R_S y_S_valueFor y_S_valueFor ∈ TW := tw_of (in_t3 6 (by decide +kernel)) rfl
theorem k_code_S_valueFor : cw_S_valueFor ∈ TW := tw_of (in_t3 7 (by decide +kernel)) rfl
theorem k_mn_V_31 : Cond.methodLinkNest R_V 31 y_C_remainder R_C ∈ NW := nw_of (in_t3 8 (by decide +kernel)) rfl
theorem k_mn_V_35 : Cond.methodLinkNest R_V 35 y_C_inverseOrZero R_C ∈ NW := nw_of (in_t3 9 (by decide +kernel)) rfl
theorem k_st_C_inverseOrZero : Cond.static y_C_inverseOrZero ∈ TW := tw_of (in_t3 10 (by decide +kernel)) rfl
theorem k_code_C_inverseOrZero : cw_C_inverseOrZero ∈ TW := tw_of (in_t3 11 (by decide +kernel)) rfl
theorem k_cl_C_129 : Cond.classLink R_C 129 "java/lang/ArithmeticException" ∈ TW := tw_of (in_t3 12 (by decide +kernel)) rfl
theorem k_ca_ArithmeticException_ArithmeticException : Cond.castable "java/lang/ArithmeticException" "java/lang/ArithmeticException" ∈ NW := nw_of (in_t3 14 (by decide +kernel)) rfl
theorem k_ml_C_131 : Cond.methodLink R_C 131 ⟨"java/lang/ArithmeticException", "<init>", "()V"⟩ ∈ TW := tw_of (in_t3 21 (by decide +kernel)) rfl
theorem k_ml_C_138 : Cond.methodLink R_C 138 y_C_howManyBroken ∈ TW := tw_of (in_t3 27 (by decide +kernel)) rfl
theorem k_im_C_howManyBroken : Cond.instanceMethod y_C_howManyBroken ∈ TW := tw_of (in_t3 29 (by decide +kernel)) rfl
theorem k_code_C_howManyBroken : cw_C_howManyBroken ∈ TW := tw_of (in_t3 30 (by decide +kernel)) rfl
theorem k_ml_C_153 : Cond.methodLink R_C 153 y_K_holdsFor ∈ TW := tw_of (in_t3 31 (by decide +kernel)) rfl
theorem k_im_K_holdsFor : Cond.instanceMethod y_K_holdsFor ∈ TW := tw_of (in_t3 32 (by decide +kernel)) rfl
theorem k_se_K_holdsFor : Cond.selects R_K y_K_holdsFor y_K_holdsFor ∈ TW := tw_of (in_t3 33 (by decide +kernel)) rfl
theorem k_code_K_holdsFor : cw_K_holdsFor ∈ TW := tw_of (in_t3 34 (by decide +kernel)) rfl
theorem k_ml_K_19 : Cond.methodLink R_K 19 y_S_valueFor ∈ TW := tw_of (in_t3 35 (by decide +kernel)) rfl
theorem k_mn_K_25 : Cond.methodLinkNest R_K 25 y_C_remainder R_C ∈ NW := nw_of (in_t3 36 (by decide +kernel)) rfl
theorem k_ml_L_85 : Cond.methodLink R_L 85 y_L_value ∈ TW := tw_of (in_t3 37 (by decide +kernel)) rfl
theorem k_st_L_value : Cond.static y_L_value ∈ TW := tw_of (in_t3 38 (by decide +kernel)) rfl
theorem k_code_L_value : cw_L_value ∈ TW := tw_of (in_t3 39 (by decide +kernel)) rfl
theorem k_ml_L_35 : Cond.methodLink R_L 35 y_C_value ∈ TW := tw_of (in_t3 40 (by decide +kernel)) rfl
theorem k_im_C_value : Cond.instanceMethod y_C_value ∈ TW := tw_of (in_t3 41 (by decide +kernel)) rfl
theorem k_se_C_value : Cond.selects R_C y_C_value y_C_value ∈ TW := tw_of (in_t3 42 (by decide +kernel)) rfl
theorem k_code_C_value : cw_C_value ∈ TW := tw_of (in_t3 43 (by decide +kernel)) rfl
theorem k_ml_C_141 : Cond.methodLink R_C 141 y_C_hasWitness ∈ TW := tw_of (in_t3 44 (by decide +kernel)) rfl
theorem k_im_C_hasWitness : Cond.instanceMethod y_C_hasWitness ∈ TW := tw_of (in_t3 46 (by decide +kernel)) rfl
theorem k_code_C_hasWitness : cw_C_hasWitness ∈ TW := tw_of (in_t3 47 (by decide +kernel)) rfl
theorem k_ml_C_144 : Cond.methodLink R_C 144 y_S_lastVariable ∈ TW := tw_of (in_t3 48 (by decide +kernel)) rfl
theorem k_ml_C_147 : Cond.methodLink R_C 147 y_S_valueFor ∈ TW := tw_of (in_t3 49 (by decide +kernel)) rfl
theorem k_ml_L_89 : Cond.methodLink R_L 89 y_L_tamper ∈ TW := tw_of (in_t3 50 (by decide +kernel)) rfl
theorem k_st_L_tamper : Cond.static y_L_tamper ∈ TW := tw_of (in_t3 51 (by decide +kernel)) rfl
theorem k_code_L_tamper : cw_L_tamper ∈ TW := tw_of (in_t3 52 (by decide +kernel)) rfl
theorem k_ml_L_39 : Cond.methodLink R_L 39 y_C_tamper ∈ TW := tw_of (in_t3 53 (by decide +kernel)) rfl
theorem k_im_C_tamper : Cond.instanceMethod y_C_tamper ∈ TW := tw_of (in_t3 54 (by decide +kernel)) rfl
theorem k_se_C_tamper : Cond.selects R_C y_C_tamper y_C_tamper ∈ TW := tw_of (in_t3 55 (by decide +kernel)) rfl
theorem k_code_C_tamper : cw_C_tamper ∈ TW := tw_of (in_t3 56 (by decide +kernel)) rfl
theorem k_ml_L_92 : Cond.methodLink R_L 92 y_L_broken ∈ TW := tw_of (in_t3 57 (by decide +kernel)) rfl
theorem k_st_L_broken : Cond.static y_L_broken ∈ TW := tw_of (in_t3 58 (by decide +kernel)) rfl
theorem k_code_L_broken : cw_L_broken ∈ TW := tw_of (in_t3 59 (by decide +kernel)) rfl
theorem k_ml_L_42 : Cond.methodLink R_L 42 y_C_broken ∈ TW := tw_of (in_t3 60 (by decide +kernel)) rfl
theorem k_im_C_broken : Cond.instanceMethod y_C_broken ∈ TW := tw_of (in_t3 61 (by decide +kernel)) rfl
theorem k_se_C_broken : Cond.selects R_C y_C_broken y_C_broken ∈ TW := tw_of (in_t3 62 (by decide +kernel)) rfl
theorem k_code_C_broken : cw_C_broken ∈ TW := tw_of (in_t3 63 (by decide +kernel)) rfl
theorem k_ml_L_95 : Cond.methodLink R_L 95 y_L_first ∈ TW := tw_of (in_t3 64 (by decide +kernel)) rfl
theorem k_st_L_first : Cond.static y_L_first ∈ TW := tw_of (in_t3 65 (by decide +kernel)) rfl
theorem k_code_L_first : cw_L_first ∈ TW := tw_of (in_t3 66 (by decide +kernel)) rfl
theorem k_ml_L_45 : Cond.methodLink R_L 45 y_C_first ∈ TW := tw_of (in_t3 67 (by decide +kernel)) rfl
theorem k_im_C_first : Cond.instanceMethod y_C_first ∈ TW := tw_of (in_t3 68 (by decide +kernel)) rfl
theorem k_se_C_first : Cond.selects R_C y_C_first y_C_first ∈ TW := tw_of (in_t3 69 (by decide +kernel)) rfl
theorem k_code_C_first : cw_C_first ∈ TW := tw_of (in_t3 70 (by decide +kernel)) rfl
theorem k_ml_L_98 : Cond.methodLink R_L 98 y_L_coefficient ∈ TW := tw_of (in_t3 71 (by decide +kernel)) rfl
theorem k_st_L_coefficient : Cond.static y_L_coefficient ∈ TW := tw_of (in_t3 72 (by decide +kernel)) rfl
theorem k_code_L_coefficient : cw_L_coefficient ∈ TW := tw_of (in_t3 73 (by decide +kernel)) rfl
theorem k_ml_L_48 : Cond.methodLink R_L 48 y_C_coefficient ∈ TW := tw_of (in_t3 74 (by decide +kernel)) rfl
theorem k_im_C_coefficient : Cond.instanceMethod y_C_coefficient ∈ TW := tw_of (in_t3 75 (by decide +kernel)) rfl
theorem k_se_C_coefficient : Cond.selects R_C y_C_coefficient y_C_coefficient ∈ TW := tw_of (in_t3 76 (by decide +kernel)) rfl
theorem k_code_C_coefficient : cw_C_coefficient ∈ TW := tw_of (in_t3 77 (by decide +kernel)) rfl
theorem k_ml_C_157 : Cond.methodLink R_C 157 y_C_isVariableNumber ∈ TW := tw_of (in_t3 78 (by decide +kernel)) rfl
theorem k_st_C_isVariableNumber : Cond.static y_C_isVariableNumber ∈ TW := tw_of (in_t3 79 (by decide +kernel)) rfl
theorem k_code_C_isVariableNumber : cw_C_isVariableNumber ∈ TW := tw_of (in_t3 80 (by decide +kernel)) rfl
theorem k_ml_C_160 : Cond.methodLink R_C 160 y_K_sumAt ∈ TW := tw_of (in_t3 81 (by decide +kernel)) rfl
theorem k_im_K_sumAt : Cond.instanceMethod y_K_sumAt ∈ TW := tw_of (in_t3 82 (by decide +kernel)) rfl
theorem k_se_K_sumAt : Cond.selects R_K y_K_sumAt y_K_sumAt ∈ TW := tw_of (in_t3 83 (by decide +kernel)) rfl
theorem k_code_K_sumAt : cw_K_sumAt ∈ TW := tw_of (in_t3 84 (by decide +kernel)) rfl
theorem k_ml_L_101 : Cond.methodLink R_L 101 y_L_terms ∈ TW := tw_of (in_t3 85 (by decide +kernel)) rfl
theorem k_st_L_terms : Cond.static y_L_terms ∈ TW := tw_of (in_t3 86 (by decide +kernel)) rfl
theorem k_code_L_terms : cw_L_terms ∈ TW := tw_of (in_t3 87 (by decide +kernel)) rfl
theorem k_ml_L_51 : Cond.methodLink R_L 51 y_C_terms ∈ TW := tw_of (in_t3 88 (by decide +kernel)) rfl
theorem k_im_C_terms : Cond.instanceMethod y_C_terms ∈ TW := tw_of (in_t3 89 (by decide +kernel)) rfl
theorem k_se_C_terms : Cond.selects R_C y_C_terms y_C_terms ∈ TW := tw_of (in_t3 90 (by decide +kernel)) rfl
theorem k_code_C_terms : cw_C_terms ∈ TW := tw_of (in_t3 91 (by decide +kernel)) rfl
theorem k_ml_C_166 : Cond.methodLink R_C 166 y_S_howManyTerms ∈ TW := tw_of (in_t3 92 (by decide +kernel)) rfl
theorem k_im_S_howManyTerms : Cond.instanceMethod y_S_howManyTerms ∈ TW := tw_of (in_t3 93 (by decide +kernel)) rfl
theorem k_se_S_howManyTerms : Cond.selects R_S y_S_howManyTerms y_S_howManyTerms ∈ TW := tw_of (in_t3 94 (by decide +kernel)) rfl
theorem k_code_S_howManyTerms : cw_S_howManyTerms ∈ TW := tw_of (in_t3 95 (by decide +kernel)) rfl
theorem k_ml_L_104 : Cond.methodLink R_L 104 y_L_uses ∈ TW := tw_of (in_t3 96 (by decide +kernel)) rfl
theorem k_st_L_uses : Cond.static y_L_uses ∈ TW := tw_of (in_t3 97 (by decide +kernel)) rfl
theorem k_code_L_uses : cw_L_uses ∈ TW := tw_of (in_t3 98 (by decide +kernel)) rfl
theorem k_ml_L_54 : Cond.methodLink R_L 54 y_C_uses ∈ TW := tw_of (in_t3 99 (by decide +kernel)) rfl
theorem k_im_C_uses : Cond.instanceMethod y_C_uses ∈ TW := tw_of (in_t3 100 (by decide +kernel)) rfl
theorem k_se_C_uses : Cond.selects R_C y_C_uses y_C_uses ∈ TW := tw_of (in_t3 101 (by decide +kernel)) rfl
theorem k_code_C_uses : cw_C_uses ∈ TW := tw_of (in_t3 102 (by decide +kernel)) rfl
theorem k_ml_C_169 : Cond.methodLink R_C 169 y_K_hasVariable ∈ TW := tw_of (in_t3 103 (by decide +kernel)) rfl
theorem k_im_K_hasVariable : Cond.instanceMethod y_K_hasVariable ∈ TW := tw_of (in_t3 104 (by decide +kernel)) rfl
theorem k_se_K_hasVariable : Cond.selects R_K y_K_hasVariable y_K_hasVariable ∈ TW := tw_of (in_t3 105 (by decide +kernel)) rfl
theorem k_code_K_hasVariable : cw_K_hasVariable ∈ TW := tw_of (in_t3 106 (by decide +kernel)) rfl
theorem k_ml_L_107 : Cond.methodLink R_L 107 y_L_count ∈ TW := tw_of (in_t3 107 (by decide +kernel)) rfl
theorem k_st_L_count : Cond.static y_L_count ∈ TW := tw_of (in_t3 108 (by decide +kernel)) rfl
theorem k_code_L_count : cw_L_count ∈ TW := tw_of (in_t3 109 (by decide +kernel)) rfl
theorem k_ml_L_57 : Cond.methodLink R_L 57 y_C_count ∈ TW := tw_of (in_t3 110 (by decide +kernel)) rfl
theorem k_im_C_count : Cond.instanceMethod y_C_count ∈ TW := tw_of (in_t3 111 (by decide +kernel)) rfl
theorem k_se_C_count : Cond.selects R_C y_C_count y_C_count ∈ TW := tw_of (in_t3 112 (by decide +kernel)) rfl
theorem k_code_C_count : cw_C_count ∈ TW := tw_of (in_t3 113 (by decide +kernel)) rfl
theorem k_cl_L_61 : Cond.classLink R_L 61 R_M ∈ TW := tw_of (in_t3 114 (by decide +kernel)) rfl
theorem k_new_M : Cond.instantiable R_M 19 ∈ TW := tw_of (in_t3 115 (by decide +kernel)) rfl
theorem k_ml_L_63 : Cond.methodLink R_L 63 y_M_init ∈ TW := tw_of (in_t3 116 (by decide +kernel)) rfl
theorem k_im_M_init : Cond.instanceMethod y_M_init ∈ TW := tw_of (in_t3 117 (by decide +kernel)) rfl
theorem k_code_M_init : cw_M_init ∈ TW := tw_of (in_t3 118 (by decide +kernel)) rfl
theorem k_ml_M_1 : Cond.methodLink R_M 1 y_OJ_init ∈ TW := tw_of (in_t3 119 (by decide +kernel)) rfl
theorem k_fl_M_50 : Cond.fieldLink R_M 50 "ConstraintCompilerModel" "thrown" "I" ∈ TW := tw_of (in_t3 120 (by decide +kernel)) rfl
theorem k_fl_M_7 : Cond.fieldLink R_M 7 "ConstraintCompilerModel" "sums" "[I" ∈ TW := tw_of (in_t3 121 (by decide +kernel)) rfl
theorem k_fl_M_13 : Cond.fieldLink R_M 13 "ConstraintCompilerModel" "kind" "[I" ∈ TW := tw_of (in_t3 122 (by decide +kernel)) rfl
theorem k_fl_M_16 : Cond.fieldLink R_M 16 "ConstraintCompilerModel" "input" "[I" ∈ TW := tw_of (in_t3 123 (by decide +kernel)) rfl
theorem k_fl_M_53 : Cond.fieldLink R_M 53 "ConstraintCompilerModel" "expressions" "I" ∈ TW := tw_of (in_t3 124 (by decide +kernel)) rfl
theorem k_fl_M_19 : Cond.fieldLink R_M 19 "ConstraintCompilerModel" "how" "[I" ∈ TW := tw_of (in_t3 125 (by decide +kernel)) rfl
theorem k_fl_M_22 : Cond.fieldLink R_M 22 "ConstraintCompilerModel" "from" "[I" ∈ TW := tw_of (in_t3 126 (by decide +kernel)) rfl
theorem k_fl_M_25 : Cond.fieldLink R_M 25 "ConstraintCompilerModel" "given" "[I" ∈ TW := tw_of (in_t3 127 (by decide +kernel)) rfl
theorem k_fl_M_28 : Cond.fieldLink R_M 28 "ConstraintCompilerModel" "variables" "I" ∈ TW := tw_of (in_t3 128 (by decide +kernel)) rfl
theorem k_fl_M_32 : Cond.fieldLink R_M 32 "ConstraintCompilerModel" "rows" "[I" ∈ TW := tw_of (in_t3 129 (by decide +kernel)) rfl
theorem k_fl_M_72 : Cond.fieldLink R_M 72 "ConstraintCompilerModel" "constraints" "I" ∈ TW := tw_of (in_t3 130 (by decide +kernel)) rfl
theorem k_fl_M_35 : Cond.fieldLink R_M 35 "ConstraintCompilerModel" "left" "[I" ∈ TW := tw_of (in_t3 131 (by decide +kernel)) rfl
theorem k_fl_M_38 : Cond.fieldLink R_M 38 "ConstraintCompilerModel" "right" "[I" ∈ TW := tw_of (in_t3 132 (by decide +kernel)) rfl
theorem k_fl_M_41 : Cond.fieldLink R_M 41 "ConstraintCompilerModel" "out" "[I" ∈ TW := tw_of (in_t3 133 (by decide +kernel)) rfl
theorem k_fl_M_44 : Cond.fieldLink R_M 44 "ConstraintCompilerModel" "trial" "[I" ∈ TW := tw_of (in_t3 134 (by decide +kernel)) rfl
theorem k_fl_M_47 : Cond.fieldLink R_M 47 "ConstraintCompilerModel" "witness" "[I" ∈ TW := tw_of (in_t3 135 (by decide +kernel)) rfl
theorem k_fl_M_135 : Cond.fieldLink R_M 135 "ConstraintCompilerModel" "solved" "Z" ∈ TW := tw_of (in_t3 136 (by decide +kernel)) rfl
theorem k_fl_M_139 : Cond.fieldLink R_M 139 "ConstraintCompilerModel" "known" "I" ∈ TW := tw_of (in_t3 137 (by decide +kernel)) rfl
theorem k_fl_M_142 : Cond.fieldLink R_M 142 "ConstraintCompilerModel" "knownConstraints" "I" ∈ TW := tw_of (in_t3 138 (by decide +kernel)) rfl
theorem k_ml_L_70 : Cond.methodLink R_L 70 y_M_thrown ∈ TW := tw_of (in_t3 178 (by decide +kernel)) rfl
theorem k_im_M_thrown : Cond.instanceMethod y_M_thrown ∈ TW := tw_of (in_t3 179 (by decide +kernel)) rfl
theorem k_se_M_thrown : Cond.selects R_M y_M_thrown y_M_thrown ∈ TW := tw_of (in_t3 180 (by decide +kernel)) rfl
theorem k_code_M_thrown : cw_M_thrown ∈ TW := tw_of (in_t3 181 (by decide +kernel)) rfl
theorem k_ml_L_69 : Cond.methodLink R_L 69 y_M_expression ∈ TW := tw_of (in_t3 182 (by decide +kernel)) rfl
theorem k_im_M_expression : Cond.instanceMethod y_M_expression ∈ TW := tw_of (in_t3 183 (by decide +kernel)) rfl
theorem k_se_M_expression : Cond.selects R_M y_M_expression y_M_expression ∈ TW := tw_of (in_t3 184 (by decide +kernel)) rfl
theorem k_code_M_expression : cw_M_expression ∈ TW := tw_of (in_t3 185 (by decide +kernel)) rfl
theorem k_ml_M_113 : Cond.methodLink R_M 113 y_M_fits ∈ TW := tw_of (in_t3 186 (by decide +kernel)) rfl
theorem k_im_M_fits : Cond.instanceMethod y_M_fits ∈ TW := tw_of (in_t3 188 (by decide +kernel)) rfl
theorem k_code_M_fits : cw_M_fits ∈ TW := tw_of (in_t3 189 (by decide +kernel)) rfl
theorem k_ml_M_56 : Cond.methodLink R_M 56 y_M_in ∈ TW := tw_of (in_t3 190 (by decide +kernel)) rfl
theorem k_st_M_in : Cond.static y_M_in ∈ TW := tw_of (in_t3 191 (by decide +kernel)) rfl
theorem k_code_M_in : cw_M_in ∈ TW := tw_of (in_t3 192 (by decide +kernel)) rfl
theorem k_ml_M_86 : Cond.methodLink R_M 86 y_M_made ∈ TW := tw_of (in_t3 193 (by decide +kernel)) rfl
theorem k_im_M_made : Cond.instanceMethod y_M_made ∈ TW := tw_of (in_t3 195 (by decide +kernel)) rfl
theorem k_code_M_made : cw_M_made ∈ TW := tw_of (in_t3 196 (by decide +kernel)) rfl
theorem k_ml_M_117 : Cond.methodLink R_M 117 y_M_raise ∈ TW := tw_of (in_t3 197 (by decide +kernel)) rfl
theorem k_im_M_raise : Cond.instanceMethod y_M_raise ∈ TW := tw_of (in_t3 199 (by decide +kernel)) rfl
theorem k_code_M_raise : cw_M_raise ∈ TW := tw_of (in_t3 200 (by decide +kernel)) rfl
theorem k_ml_M_120 : Cond.methodLink R_M 120 y_M_needs ∈ TW := tw_of (in_t3 201 (by decide +kernel)) rfl
theorem k_im_M_needs : Cond.instanceMethod y_M_needs ∈ TW := tw_of (in_t3 203 (by decide +kernel)) rfl
theorem k_code_M_needs : cw_M_needs ∈ TW := tw_of (in_t3 204 (by decide +kernel)) rfl
theorem k_ml_M_94 : Cond.methodLink R_M 94 y_M_isConstant ∈ TW := tw_of (in_t3 205 (by decide +kernel)) rfl
theorem k_im_M_isConstant : Cond.instanceMethod y_M_isConstant ∈ TW := tw_of (in_t3 207 (by decide +kernel)) rfl
theorem k_code_M_isConstant : cw_M_isConstant ∈ TW := tw_of (in_t3 208 (by decide +kernel)) rfl
theorem k_ml_M_97 : Cond.methodLink R_M 97 y_M_plainEither ∈ TW := tw_of (in_t3 209 (by decide +kernel)) rfl
theorem k_im_M_plainEither : Cond.instanceMethod y_M_plainEither ∈ TW := tw_of (in_t3 211 (by decide +kernel)) rfl
theorem k_code_M_plainEither : cw_M_plainEither ∈ TW := tw_of (in_t3 212 (by decide +kernel)) rfl
theorem k_ml_M_64 : Cond.methodLink R_M 64 y_M_number ∈ TW := tw_of (in_t3 213 (by decide +kernel)) rfl
theorem k_st_M_number : Cond.static y_M_number ∈ TW := tw_of (in_t3 214 (by decide +kernel)) rfl
theorem k_code_M_number : cw_M_number ∈ TW := tw_of (in_t3 215 (by decide +kernel)) rfl
theorem k_ml_M_60 : Cond.methodLink R_M 60 y_M_rest ∈ TW := tw_of (in_t3 216 (by decide +kernel)) rfl
theorem k_st_M_rest : Cond.static y_M_rest ∈ TW := tw_of (in_t3 217 (by decide +kernel)) rfl
theorem k_code_M_rest : cw_M_rest ∈ TW := tw_of (in_t3 218 (by decide +kernel)) rfl
theorem k_ml_M_90 : Cond.methodLink R_M 90 y_M_add ∈ TW := tw_of (in_t3 219 (by decide +kernel)) rfl
theorem k_im_M_add : Cond.instanceMethod y_M_add ∈ TW := tw_of (in_t3 221 (by decide +kernel)) rfl
theorem k_code_M_add : cw_M_add ∈ TW := tw_of (in_t3 222 (by decide +kernel)) rfl
theorem k_ml_M_68 : Cond.methodLink R_M 68 y_M_constant ∈ TW := tw_of (in_t3 223 (by decide +kernel)) rfl
theorem k_st_M_constant : Cond.static y_M_constant ∈ TW := tw_of (in_t3 224 (by decide +kernel)) rfl
theorem k_code_M_constant : cw_M_constant ∈ TW := tw_of (in_t3 225 (by decide +kernel)) rfl
theorem k_ml_M_124 : Cond.methodLink R_M 124 y_M_work ∈ TW := tw_of (in_t3 226 (by decide +kernel)) rfl
theorem k_im_M_work : Cond.instanceMethod y_M_work ∈ TW := tw_of (in_t3 228 (by decide +kernel)) rfl
theorem k_code_M_work : cw_M_work ∈ TW := tw_of (in_t3 229 (by decide +kernel)) rfl
theorem k_ml_M_75 : Cond.methodLink R_M 75 y_M_variable ∈ TW := tw_of (in_t3 230 (by decide +kernel)) rfl
theorem k_im_M_variable : Cond.instanceMethod y_M_variable ∈ TW := tw_of (in_t3 232 (by decide +kernel)) rfl
theorem k_code_M_variable : cw_M_variable ∈ TW := tw_of (in_t3 233 (by decide +kernel)) rfl
theorem k_ml_M_83 : Cond.methodLink R_M 83 y_M_one ∈ TW := tw_of (in_t3 234 (by decide +kernel)) rfl
theorem k_st_M_one : Cond.static y_M_one ∈ TW := tw_of (in_t3 235 (by decide +kernel)) rfl
theorem k_code_M_one : cw_M_one ∈ TW := tw_of (in_t3 236 (by decide +kernel)) rfl
theorem k_ml_M_100 : Cond.methodLink R_M 100 y_M_fetch ∈ TW := tw_of (in_t3 237 (by decide +kernel)) rfl
theorem k_im_M_fetch : Cond.instanceMethod y_M_fetch ∈ TW := tw_of (in_t3 239 (by decide +kernel)) rfl
theorem k_code_M_fetch : cw_M_fetch ∈ TW := tw_of (in_t4 0 (by decide +kernel)) rfl
theorem k_ml_M_103 : Cond.methodLink R_M 103 y_M_multiply ∈ TW := tw_of (in_t4 1 (by decide +kernel)) rfl
theorem k_im_M_multiply : Cond.instanceMethod y_M_multiply ∈ TW := tw_of (in_t4 3 (by decide +kernel)) rfl
theorem k_code_M_multiply : cw_M_multiply ∈ TW := tw_of (in_t4 4 (by decide +kernel)) rfl
theorem k_ml_M_79 : Cond.methodLink R_M 79 y_M_keep ∈ TW := tw_of (in_t4 5 (by decide +kernel)) rfl
theorem k_im_M_keep : Cond.instanceMethod y_M_keep ∈ TW := tw_of (in_t4 7 (by decide +kernel)) rfl
theorem k_code_M_keep : cw_M_keep ∈ TW := tw_of (in_t4 8 (by decide +kernel)) rfl
theorem k_ml_M_106 : Cond.methodLink R_M 106 y_M_share ∈ TW := tw_of (in_t4 9 (by decide +kernel)) rfl
theorem k_im_M_share : Cond.instanceMethod y_M_share ∈ TW := tw_of (in_t4 11 (by decide +kernel)) rfl
theorem k_code_M_share : cw_M_share ∈ TW := tw_of (in_t4 12 (by decide +kernel)) rfl
theorem k_ml_M_110 : Cond.methodLink R_M 110 y_M_same ∈ TW := tw_of (in_t4 13 (by decide +kernel)) rfl
theorem k_im_M_same : Cond.instanceMethod y_M_same ∈ TW := tw_of (in_t4 15 (by decide +kernel)) rfl
theorem k_code_M_same : cw_M_same ∈ TW := tw_of (in_t4 16 (by decide +kernel)) rfl
theorem k_ml_L_76 : Cond.methodLink R_L 76 y_M_claim ∈ TW := tw_of (in_t4 17 (by decide +kernel)) rfl
theorem k_im_M_claim : Cond.instanceMethod y_M_claim ∈ TW := tw_of (in_t4 18 (by decide +kernel)) rfl
theorem k_se_M_claim : Cond.selects R_M y_M_claim y_M_claim ∈ TW := tw_of (in_t4 19 (by decide +kernel)) rfl
theorem k_code_M_claim : cw_M_claim ∈ TW := tw_of (in_t4 20 (by decide +kernel)) rfl
theorem k_ml_L_80 : Cond.methodLink R_L 80 y_M_give ∈ TW := tw_of (in_t4 21 (by decide +kernel)) rfl
theorem k_im_M_give : Cond.instanceMethod y_M_give ∈ TW := tw_of (in_t4 22 (by decide +kernel)) rfl
theorem k_se_M_give : Cond.selects R_M y_M_give y_M_give ∈ TW := tw_of (in_t4 23 (by decide +kernel)) rfl
theorem k_code_M_give : cw_M_give ∈ TW := tw_of (in_t4 24 (by decide +kernel)) rfl
theorem k_ml_L_84 : Cond.methodLink R_L 84 y_M_solve ∈ TW := tw_of (in_t4 25 (by decide +kernel)) rfl
theorem k_im_M_solve : Cond.instanceMethod y_M_solve ∈ TW := tw_of (in_t4 26 (by decide +kernel)) rfl
theorem k_se_M_solve : Cond.selects R_M y_M_solve y_M_solve ∈ TW := tw_of (in_t4 27 (by decide +kernel)) rfl
theorem k_code_M_solve : cw_M_solve ∈ TW := tw_of (in_t4 28 (by decide +kernel)) rfl
theorem k_ml_M_128 : Cond.methodLink R_M 128 y_M_valueOf ∈ TW := tw_of (in_t4 29 (by decide +kernel)) rfl
theorem k_im_M_valueOf : Cond.instanceMethod y_M_valueOf ∈ TW := tw_of (in_t4 31 (by decide +kernel)) rfl
theorem k_code_M_valueOf : cw_M_valueOf ∈ TW := tw_of (in_t4 32 (by decide +kernel)) rfl
theorem k_ml_M_132 : Cond.methodLink R_M 132 y_M_inverse ∈ TW := tw_of (in_t4 33 (by decide +kernel)) rfl
theorem k_st_M_inverse : Cond.static y_M_inverse ∈ TW := tw_of (in_t4 34 (by decide +kernel)) rfl
theorem k_code_M_inverse : cw_M_inverse ∈ TW := tw_of (in_t4 35 (by decide +kernel)) rfl
theorem k_ml_M_145 : Cond.methodLink R_M 145 y_M_bad ∈ TW := tw_of (in_t4 36 (by decide +kernel)) rfl
theorem k_im_M_bad : Cond.instanceMethod y_M_bad ∈ TW := tw_of (in_t4 38 (by decide +kernel)) rfl
theorem k_code_M_bad : cw_M_bad ∈ TW := tw_of (in_t4 39 (by decide +kernel)) rfl
theorem k_ml_M_149 : Cond.methodLink R_M 149 y_M_holds ∈ TW := tw_of (in_t4 40 (by decide +kernel)) rfl
theorem k_im_M_holds : Cond.instanceMethod y_M_holds ∈ TW := tw_of (in_t4 42 (by decide +kernel)) rfl
theorem k_code_M_holds : cw_M_holds ∈ TW := tw_of (in_t4 43 (by decide +kernel)) rfl
theorem k_ml_L_88 : Cond.methodLink R_L 88 y_M_value ∈ TW := tw_of (in_t4 44 (by decide +kernel)) rfl
theorem k_im_M_value : Cond.instanceMethod y_M_value ∈ TW := tw_of (in_t4 45 (by decide +kernel)) rfl
theorem k_se_M_value : Cond.selects R_M y_M_value y_M_value ∈ TW := tw_of (in_t4 46 (by decide +kernel)) rfl
theorem k_code_M_value : cw_M_value ∈ TW := tw_of (in_t4 47 (by decide +kernel)) rfl
theorem k_ml_L_91 : Cond.methodLink R_L 91 y_M_tamper ∈ TW := tw_of (in_t4 48 (by decide +kernel)) rfl
theorem k_im_M_tamper : Cond.instanceMethod y_M_tamper ∈ TW := tw_of (in_t4 49 (by decide +kernel)) rfl
theorem k_se_M_tamper : Cond.selects R_M y_M_tamper y_M_tamper ∈ TW := tw_of (in_t4 50 (by decide +kernel)) rfl
theorem k_code_M_tamper : cw_M_tamper ∈ TW := tw_of (in_t4 51 (by decide +kernel)) rfl
theorem k_ml_L_94 : Cond.methodLink R_L 94 y_M_broken ∈ TW := tw_of (in_t4 52 (by decide +kernel)) rfl
theorem k_im_M_broken : Cond.instanceMethod y_M_broken ∈ TW := tw_of (in_t4 53 (by decide +kernel)) rfl
theorem k_se_M_broken : Cond.selects R_M y_M_broken y_M_broken ∈ TW := tw_of (in_t4 54 (by decide +kernel)) rfl
theorem k_code_M_broken : cw_M_broken ∈ TW := tw_of (in_t4 55 (by decide +kernel)) rfl
theorem k_ml_L_97 : Cond.methodLink R_L 97 y_M_first ∈ TW := tw_of (in_t4 56 (by decide +kernel)) rfl
theorem k_im_M_first : Cond.instanceMethod y_M_first ∈ TW := tw_of (in_t4 57 (by decide +kernel)) rfl
theorem k_se_M_first : Cond.selects R_M y_M_first y_M_first ∈ TW := tw_of (in_t4 58 (by decide +kernel)) rfl
theorem k_code_M_first : cw_M_first ∈ TW := tw_of (in_t4 59 (by decide +kernel)) rfl
theorem k_ml_L_100 : Cond.methodLink R_L 100 y_M_coefficient ∈ TW := tw_of (in_t4 60 (by decide +kernel)) rfl
theorem k_im_M_coefficient : Cond.instanceMethod y_M_coefficient ∈ TW := tw_of (in_t4 61 (by decide +kernel)) rfl
theorem k_se_M_coefficient : Cond.selects R_M y_M_coefficient y_M_coefficient ∈ TW := tw_of (in_t4 62 (by decide +kernel)) rfl
theorem k_code_M_coefficient : cw_M_coefficient ∈ TW := tw_of (in_t4 63 (by decide +kernel)) rfl
theorem k_ml_L_103 : Cond.methodLink R_L 103 y_M_terms ∈ TW := tw_of (in_t4 64 (by decide +kernel)) rfl
theorem k_im_M_terms : Cond.instanceMethod y_M_terms ∈ TW := tw_of (in_t4 65 (by decide +kernel)) rfl
theorem k_se_M_terms : Cond.selects R_M y_M_terms y_M_terms ∈ TW := tw_of (in_t4 66 (by decide +kernel)) rfl
theorem k_code_M_terms : cw_M_terms ∈ TW := tw_of (in_t4 67 (by decide +kernel)) rfl
theorem k_ml_L_106 : Cond.methodLink R_L 106 y_M_uses ∈ TW := tw_of (in_t4 68 (by decide +kernel)) rfl
theorem k_im_M_uses : Cond.instanceMethod y_M_uses ∈ TW := tw_of (in_t4 69 (by decide +kernel)) rfl
theorem k_se_M_uses : Cond.selects R_M y_M_uses y_M_uses ∈ TW := tw_of (in_t4 70 (by decide +kernel)) rfl
theorem k_code_M_uses : cw_M_uses ∈ TW := tw_of (in_t4 71 (by decide +kernel)) rfl
theorem k_ml_L_109 : Cond.methodLink R_L 109 y_M_count ∈ TW := tw_of (in_t4 72 (by decide +kernel)) rfl
theorem k_im_M_count : Cond.instanceMethod y_M_count ∈ TW := tw_of (in_t4 73 (by decide +kernel)) rfl
theorem k_se_M_count : Cond.selects R_M y_M_count y_M_count ∈ TW := tw_of (in_t4 74 (by decide +kernel)) rfl
theorem k_code_M_count : cw_M_count ∈ TW := tw_of (in_t4 75 (by decide +kernel)) rfl
theorem k_ac_long : Cond.arrayClass .long ∈ TW := tw_of (in_t4 76 (by decide +kernel)) rfl
theorem k_ca_E_E : Cond.castable R_E R_E ∈ NW := nw_of (in_t4 78 (by decide +kernel)) rfl
theorem k_ca_V_V : Cond.castable R_V R_V ∈ NW := nw_of (in_t4 79 (by decide +kernel)) rfl
theorem k_ca_K_K : Cond.castable R_K R_K ∈ NW := nw_of (in_t4 80 (by decide +kernel)) rfl
theorem k_se_getClass : Cond.selects "[Ljava/lang/Object;" ⟨"java/lang/Object", "getClass", "()Ljava/lang/Class;"⟩ ⟨"java/lang/Object", "getClass", "()Ljava/lang/Class;"⟩ ∈ TW := tw_of (in_t4 82 (by decide +kernel)) rfl
theorem k_de_getClass : Cond.declares ⟨"java/lang/Object", "getClass", "()Ljava/lang/Class;"⟩ ∈ NW := nw_of (in_t4 83 (by decide +kernel)) rfl
theorem k_ca_C_OJ : Cond.castable R_C R_OJ ∈ NW := nw_of (in_t4 84 (by decide +kernel)) rfl
theorem k_ca_S_OJ : Cond.castable R_S R_OJ ∈ NW := nw_of (in_t4 85 (by decide +kernel)) rfl
theorem k_ca_V_OJ : Cond.castable R_V R_OJ ∈ NW := nw_of (in_t4 86 (by decide +kernel)) rfl
theorem k_ca_M_OJ : Cond.castable R_M R_OJ ∈ NW := nw_of (in_t4 87 (by decide +kernel)) rfl
theorem k_ca_E_OJ : Cond.castable R_E R_OJ ∈ NW := nw_of (in_t4 88 (by decide +kernel)) rfl
theorem k_ca_K_OJ : Cond.castable R_K R_OJ ∈ NW := nw_of (in_t4 89 (by decide +kernel)) rfl
theorem k_se_A_add3 : Cond.selects R_A y_A_add3 y_A_add3 ∈ TW := tw_of (in_t0 0 (by decide +kernel)) rfl
theorem k_se_A_grow0 : Cond.selects R_A y_A_grow0 y_A_grow0 ∈ TW := tw_of (in_t0 1 (by decide +kernel)) rfl
theorem k_se_A_grow1 : Cond.selects R_A y_A_grow1 y_A_grow1 ∈ TW := tw_of (in_t0 2 (by decide +kernel)) rfl
theorem k_se_C_isWellFormed : Cond.selects R_C y_C_isWellFormed y_C_isWellFormed ∈ TW := tw_of (in_t0 3 (by decide +kernel)) rfl
theorem k_se_C_isMade : Cond.selects R_C y_C_isMade y_C_isMade ∈ TW := tw_of (in_t0 4 (by decide +kernel)) rfl
theorem k_se_C_hasRoomFor : Cond.selects R_C y_C_hasRoomFor y_C_hasRoomFor ∈ TW := tw_of (in_t0 6 (by decide +kernel)) rfl
theorem k_se_C_constraintsNeeded : Cond.selects R_C y_C_constraintsNeeded y_C_constraintsNeeded ∈ TW := tw_of (in_t0 7 (by decide +kernel)) rfl
theorem k_se_C_sumOf : Cond.selects R_C y_C_sumOf y_C_sumOf ∈ TW := tw_of (in_t0 8 (by decide +kernel)) rfl
theorem k_se_C_difference : Cond.selects R_C y_C_difference y_C_difference ∈ TW := tw_of (in_t0 9 (by decide +kernel)) rfl
theorem k_se_S_combinedWith : Cond.selects R_S y_S_combinedWith y_S_combinedWith ∈ TW := tw_of (in_t0 10 (by decide +kernel)) rfl
theorem k_se_C_makeInput : Cond.selects R_C y_C_makeInput y_C_makeInput ∈ TW := tw_of (in_t0 11 (by decide +kernel)) rfl
theorem k_se_C_addVariable : Cond.selects R_C y_C_addVariable y_C_addVariable ∈ TW := tw_of (in_t0 12 (by decide +kernel)) rfl
theorem k_se_C_makeSum : Cond.selects R_C y_C_makeSum y_C_makeSum ∈ TW := tw_of (in_t0 13 (by decide +kernel)) rfl
theorem k_se_C_makeProduct : Cond.selects R_C y_C_makeProduct y_C_makeProduct ∈ TW := tw_of (in_t0 14 (by decide +kernel)) rfl
theorem k_se_C_makeConstrainedProduct : Cond.selects R_C y_C_makeConstrainedProduct y_C_makeConstrainedProduct ∈ TW := tw_of (in_t0 15 (by decide +kernel)) rfl
theorem k_se_C_addConstraint : Cond.selects R_C y_C_addConstraint y_C_addConstraint ∈ TW := tw_of (in_t0 16 (by decide +kernel)) rfl
theorem k_se_C_makeShare : Cond.selects R_C y_C_makeShare y_C_makeShare ∈ TW := tw_of (in_t0 17 (by decide +kernel)) rfl
theorem k_se_C_makeSame : Cond.selects R_C y_C_makeSame y_C_makeSame ∈ TW := tw_of (in_t0 18 (by decide +kernel)) rfl
theorem k_se_C_makePower : Cond.selects R_C y_C_makePower y_C_makePower ∈ TW := tw_of (in_t0 19 (by decide +kernel)) rfl
theorem k_se_C_fillDraft : Cond.selects R_C y_C_fillDraft y_C_fillDraft ∈ TW := tw_of (in_t0 20 (by decide +kernel)) rfl
theorem k_se_C_howManyBroken : Cond.selects R_C y_C_howManyBroken y_C_howManyBroken ∈ TW := tw_of (in_t0 21 (by decide +kernel)) rfl
theorem k_se_C_hasWitness : Cond.selects R_C y_C_hasWitness y_C_hasWitness ∈ TW := tw_of (in_t0 22 (by decide +kernel)) rfl
theorem k_se_M_fits : Cond.selects R_M y_M_fits y_M_fits ∈ TW := tw_of (in_t0 23 (by decide +kernel)) rfl
theorem k_se_M_made : Cond.selects R_M y_M_made y_M_made ∈ TW := tw_of (in_t0 24 (by decide +kernel)) rfl
theorem k_se_M_raise : Cond.selects R_M y_M_raise y_M_raise ∈ TW := tw_of (in_t0 25 (by decide +kernel)) rfl
theorem k_se_M_needs : Cond.selects R_M y_M_needs y_M_needs ∈ TW := tw_of (in_t0 26 (by decide +kernel)) rfl
theorem k_se_M_isConstant : Cond.selects R_M y_M_isConstant y_M_isConstant ∈ TW := tw_of (in_t0 27 (by decide +kernel)) rfl
theorem k_se_M_plainEither : Cond.selects R_M y_M_plainEither y_M_plainEither ∈ TW := tw_of (in_t0 28 (by decide +kernel)) rfl
theorem k_se_M_add : Cond.selects R_M y_M_add y_M_add ∈ TW := tw_of (in_t0 29 (by decide +kernel)) rfl
theorem k_se_M_work : Cond.selects R_M y_M_work y_M_work ∈ TW := tw_of (in_t0 30 (by decide +kernel)) rfl
theorem k_se_M_variable : Cond.selects R_M y_M_variable y_M_variable ∈ TW := tw_of (in_t0 31 (by decide +kernel)) rfl
theorem k_se_M_fetch : Cond.selects R_M y_M_fetch y_M_fetch ∈ TW := tw_of (in_t0 32 (by decide +kernel)) rfl
theorem k_se_M_multiply : Cond.selects R_M y_M_multiply y_M_multiply ∈ TW := tw_of (in_t0 33 (by decide +kernel)) rfl
theorem k_se_M_keep : Cond.selects R_M y_M_keep y_M_keep ∈ TW := tw_of (in_t0 34 (by decide +kernel)) rfl
theorem k_se_M_share : Cond.selects R_M y_M_share y_M_share ∈ TW := tw_of (in_t0 35 (by decide +kernel)) rfl
theorem k_se_M_same : Cond.selects R_M y_M_same y_M_same ∈ TW := tw_of (in_t0 36 (by decide +kernel)) rfl
theorem k_se_M_valueOf : Cond.selects R_M y_M_valueOf y_M_valueOf ∈ TW := tw_of (in_t0 37 (by decide +kernel)) rfl
theorem k_se_M_bad : Cond.selects R_M y_M_bad y_M_bad ∈ TW := tw_of (in_t0 38 (by decide +kernel)) rfl
theorem k_se_M_holds : Cond.selects R_M y_M_holds y_M_holds ∈ TW := tw_of (in_t0 39 (by decide +kernel)) rfl
end
