section
-- ===== PART A: goes FIRST, ahead of the names: the tables' words, and 'selects' of the private methods out of them =====
/-- a private method of a class that the tables say can be made, by its rows of tables_1 -/
def lw_okq (q : MethodName × Nat) : Prop := (q.1.cls ≠ "java/lang/invoke/MethodHandle" ∧ q.1.cls ≠ "java/lang/invoke/VarHandle") ∧ Cond.instantiable q.1.cls q.2 ∈ tables_1 ∧ Cond.privateMethod q.1 ∈ tables_1 ∧ Cond.instanceMethod q.1 ∈ tables_1
theorem lw_p0 : lw_okq (⟨"SixteenDesk$Machine", "clearRegisters", "()V"⟩, 7) := ⟨⟨by decide +kernel, by decide +kernel⟩, List.mem_of_getElem? (i := 171) (by decide +kernel), List.mem_of_getElem? (i := 232) (by decide +kernel), List.mem_of_getElem? (i := 233) (by decide +kernel)⟩
theorem lw_p1 : lw_okq (⟨"SixteenDesk$Assembler", "pass", "()V"⟩, 13) := ⟨⟨by decide +kernel, by decide +kernel⟩, List.mem_of_getElem? (i := 49) (by decide +kernel), List.mem_of_getElem? (i := 324) (by decide +kernel), List.mem_of_getElem? (i := 325) (by decide +kernel)⟩
theorem lw_p2 : lw_okq (⟨"SixteenDesk$Assembler", "takeStart", "()LSixteenDesk$Op;"⟩, 13) := ⟨⟨by decide +kernel, by decide +kernel⟩, List.mem_of_getElem? (i := 49) (by decide +kernel), List.mem_of_getElem? (i := 332) (by decide +kernel), List.mem_of_getElem? (i := 333) (by decide +kernel)⟩
theorem lw_p3 : lw_okq (⟨"SixteenDesk$Tokens", "skipNothings", "()V"⟩, 8) := ⟨⟨by decide +kernel, by decide +kernel⟩, List.mem_of_getElem? (i := 90) (by decide +kernel), List.mem_of_getElem? (i := 340) (by decide +kernel), List.mem_of_getElem? (i := 341) (by decide +kernel)⟩
theorem lw_p4 : lw_okq (⟨"SixteenDesk$Tokens", "readText", "()V"⟩, 8) := ⟨⟨by decide +kernel, by decide +kernel⟩, List.mem_of_getElem? (i := 90) (by decide +kernel), List.mem_of_getElem? (i := 348) (by decide +kernel), List.mem_of_getElem? (i := 349) (by decide +kernel)⟩
theorem lw_p5 : lw_okq (⟨"SixteenDesk$Tokens", "readWord", "()V"⟩, 8) := ⟨⟨by decide +kernel, by decide +kernel⟩, List.mem_of_getElem? (i := 90) (by decide +kernel), List.mem_of_getElem? (i := 358) (by decide +kernel), List.mem_of_getElem? (i := 359) (by decide +kernel)⟩
theorem lw_p6 : lw_okq (⟨"SixteenDesk$Tokens", "findOp", "()Z"⟩, 8) := ⟨⟨by decide +kernel, by decide +kernel⟩, List.mem_of_getElem? (i := 90) (by decide +kernel), List.mem_of_getElem? (i := 363) (by decide +kernel), List.mem_of_getElem? (i := 364) (by decide +kernel)⟩
theorem lw_p7 : lw_okq (⟨"SixteenDesk$Tokens", "findNumber", "()Z"⟩, 8) := ⟨⟨by decide +kernel, by decide +kernel⟩, List.mem_of_getElem? (i := 90) (by decide +kernel), List.mem_of_getElem? (i := 369) (by decide +kernel), List.mem_of_getElem? (i := 370) (by decide +kernel)⟩
theorem lw_p8 : lw_okq (⟨"SixteenDesk$Tokens", "findRegister", "()Z"⟩, 8) := ⟨⟨by decide +kernel, by decide +kernel⟩, List.mem_of_getElem? (i := 90) (by decide +kernel), List.mem_of_getElem? (i := 376) (by decide +kernel), List.mem_of_getElem? (i := 377) (by decide +kernel)⟩
theorem lw_p9 : lw_okq (⟨"SixteenDesk$Assembler", "tellLabel", "()V"⟩, 13) := ⟨⟨by decide +kernel, by decide +kernel⟩, List.mem_of_getElem? (i := 49) (by decide +kernel), List.mem_of_getElem? (i := 382) (by decide +kernel), List.mem_of_getElem? (i := 383) (by decide +kernel)⟩
theorem lw_p10 : lw_okq (⟨"SixteenDesk$Assembler", "findLabel", "()I"⟩, 13) := ⟨⟨by decide +kernel, by decide +kernel⟩, List.mem_of_getElem? (i := 49) (by decide +kernel), List.mem_of_getElem? (i := 386) (by decide +kernel), List.mem_of_getElem? (i := 387) (by decide +kernel)⟩
theorem lw_p11 : lw_okq (⟨"SixteenDesk$Assembler", "fail", "(II)V"⟩, 13) := ⟨⟨by decide +kernel, by decide +kernel⟩, List.mem_of_getElem? (i := 49) (by decide +kernel), List.mem_of_getElem? (i := 390) (by decide +kernel), List.mem_of_getElem? (i := 391) (by decide +kernel)⟩
theorem lw_p12 : lw_okq (⟨"SixteenDesk$Assembler", "takeStatement", "(LSixteenDesk$Op;)V"⟩, 13) := ⟨⟨by decide +kernel, by decide +kernel⟩, List.mem_of_getElem? (i := 49) (by decide +kernel), List.mem_of_getElem? (i := 400) (by decide +kernel), List.mem_of_getElem? (i := 401) (by decide +kernel)⟩
theorem lw_p13 : lw_okq (⟨"SixteenDesk$Assembler", "takeOperand", "(CI)V"⟩, 13) := ⟨⟨by decide +kernel, by decide +kernel⟩, List.mem_of_getElem? (i := 49) (by decide +kernel), List.mem_of_getElem? (i := 462) (by decide +kernel), List.mem_of_getElem? (i := 463) (by decide +kernel)⟩
theorem lw_p14 : lw_okq (⟨"SixteenDesk$Assembler", "takeRegister", "(I)V"⟩, 13) := ⟨⟨by decide +kernel, by decide +kernel⟩, List.mem_of_getElem? (i := 49) (by decide +kernel), List.mem_of_getElem? (i := 466) (by decide +kernel), List.mem_of_getElem? (i := 467) (by decide +kernel)⟩
theorem lw_p15 : lw_okq (⟨"SixteenDesk$Assembler", "takeSecond", "()V"⟩, 13) := ⟨⟨by decide +kernel, by decide +kernel⟩, List.mem_of_getElem? (i := 49) (by decide +kernel), List.mem_of_getElem? (i := 470) (by decide +kernel), List.mem_of_getElem? (i := 471) (by decide +kernel)⟩
def lw_privs_1 : List (MethodName × Nat) := [(⟨"SixteenDesk$Machine", "clearRegisters", "()V"⟩, 7), (⟨"SixteenDesk$Assembler", "pass", "()V"⟩, 13), (⟨"SixteenDesk$Assembler", "takeStart", "()LSixteenDesk$Op;"⟩, 13), (⟨"SixteenDesk$Tokens", "skipNothings", "()V"⟩, 8), (⟨"SixteenDesk$Tokens", "readText", "()V"⟩, 8), (⟨"SixteenDesk$Tokens", "readWord", "()V"⟩, 8), (⟨"SixteenDesk$Tokens", "findOp", "()Z"⟩, 8), (⟨"SixteenDesk$Tokens", "findNumber", "()Z"⟩, 8), (⟨"SixteenDesk$Tokens", "findRegister", "()Z"⟩, 8), (⟨"SixteenDesk$Assembler", "tellLabel", "()V"⟩, 13), (⟨"SixteenDesk$Assembler", "findLabel", "()I"⟩, 13), (⟨"SixteenDesk$Assembler", "fail", "(II)V"⟩, 13), (⟨"SixteenDesk$Assembler", "takeStatement", "(LSixteenDesk$Op;)V"⟩, 13), (⟨"SixteenDesk$Assembler", "takeOperand", "(CI)V"⟩, 13), (⟨"SixteenDesk$Assembler", "takeRegister", "(I)V"⟩, 13), (⟨"SixteenDesk$Assembler", "takeSecond", "()V"⟩, 13)]
theorem lw_r1 : ∀ q ∈ lw_privs_1, lw_okq q := List.forall_mem_cons.mpr ⟨lw_p0, List.forall_mem_cons.mpr ⟨lw_p1, List.forall_mem_cons.mpr ⟨lw_p2, List.forall_mem_cons.mpr ⟨lw_p3, List.forall_mem_cons.mpr ⟨lw_p4, List.forall_mem_cons.mpr ⟨lw_p5, List.forall_mem_cons.mpr ⟨lw_p6, List.forall_mem_cons.mpr ⟨lw_p7, List.forall_mem_cons.mpr ⟨lw_p8, List.forall_mem_cons.mpr ⟨lw_p9, List.forall_mem_cons.mpr ⟨lw_p10, List.forall_mem_cons.mpr ⟨lw_p11, List.forall_mem_cons.mpr ⟨lw_p12, List.forall_mem_cons.mpr ⟨lw_p13, List.forall_mem_cons.mpr ⟨lw_p14, List.forall_mem_cons.mpr ⟨lw_p15, fun _ h => absurd h List.not_mem_nil⟩⟩⟩⟩⟩⟩⟩⟩⟩⟩⟩⟩⟩⟩⟩⟩
theorem lw_p16 : lw_okq (⟨"SixteenDesk$Assembler", "takeNumber", "(III)V"⟩, 13) := ⟨⟨by decide +kernel, by decide +kernel⟩, List.mem_of_getElem? (i := 49) (by decide +kernel), List.mem_of_getElem? (i := 474) (by decide +kernel), List.mem_of_getElem? (i := 475) (by decide +kernel)⟩
theorem lw_p17 : lw_okq (⟨"SixteenDesk$Assembler", "takeWhere", "(I)V"⟩, 13) := ⟨⟨by decide +kernel, by decide +kernel⟩, List.mem_of_getElem? (i := 49) (by decide +kernel), List.mem_of_getElem? (i := 478) (by decide +kernel), List.mem_of_getElem? (i := 479) (by decide +kernel)⟩
theorem lw_p18 : lw_okq (⟨"SixteenDesk$Assembler", "placeOfLabel", "()I"⟩, 13) := ⟨⟨by decide +kernel, by decide +kernel⟩, List.mem_of_getElem? (i := 49) (by decide +kernel), List.mem_of_getElem? (i := 482) (by decide +kernel), List.mem_of_getElem? (i := 483) (by decide +kernel)⟩
theorem lw_p19 : lw_okq (⟨"SixteenDesk$Assembler", "takeValue", "()V"⟩, 13) := ⟨⟨by decide +kernel, by decide +kernel⟩, List.mem_of_getElem? (i := 49) (by decide +kernel), List.mem_of_getElem? (i := 486) (by decide +kernel), List.mem_of_getElem? (i := 487) (by decide +kernel)⟩
theorem lw_p20 : lw_okq (⟨"SixteenDesk$Assembler", "takeBlock", "(I)V"⟩, 13) := ⟨⟨by decide +kernel, by decide +kernel⟩, List.mem_of_getElem? (i := 49) (by decide +kernel), List.mem_of_getElem? (i := 491) (by decide +kernel), List.mem_of_getElem? (i := 492) (by decide +kernel)⟩
theorem lw_p21 : lw_okq (⟨"SixteenDesk$Assembler", "takeText", "(I)V"⟩, 13) := ⟨⟨by decide +kernel, by decide +kernel⟩, List.mem_of_getElem? (i := 49) (by decide +kernel), List.mem_of_getElem? (i := 500) (by decide +kernel), List.mem_of_getElem? (i := 501) (by decide +kernel)⟩
theorem lw_p22 : lw_okq (⟨"SixteenDesk$Writer", "tellOperand", "(CI)V"⟩, 1) := ⟨⟨by decide +kernel, by decide +kernel⟩, List.mem_of_getElem? (i := 266) (by decide +kernel), List.mem_of_getElem? (i := 609) (by decide +kernel), List.mem_of_getElem? (i := 610) (by decide +kernel)⟩
theorem lw_p23 : lw_okq (⟨"SixteenDesk$Writer", "tellRegister", "(I)V"⟩, 1) := ⟨⟨by decide +kernel, by decide +kernel⟩, List.mem_of_getElem? (i := 266) (by decide +kernel), List.mem_of_getElem? (i := 613) (by decide +kernel), List.mem_of_getElem? (i := 614) (by decide +kernel)⟩
theorem lw_p24 : lw_okq (⟨"SixteenDesk$Writer", "tellNumber", "(I)V"⟩, 1) := ⟨⟨by decide +kernel, by decide +kernel⟩, List.mem_of_getElem? (i := 266) (by decide +kernel), List.mem_of_getElem? (i := 621) (by decide +kernel), List.mem_of_getElem? (i := 622) (by decide +kernel)⟩
theorem lw_p25 : lw_okq (⟨"SixteenDesk$Writer", "tellHexadecimals", "(II)V"⟩, 1) := ⟨⟨by decide +kernel, by decide +kernel⟩, List.mem_of_getElem? (i := 266) (by decide +kernel), List.mem_of_getElem? (i := 627) (by decide +kernel), List.mem_of_getElem? (i := 628) (by decide +kernel)⟩
theorem lw_p26 : lw_okq (⟨"java/lang/Throwable", "fillInStackTrace", "(I)Ljava/lang/Throwable;"⟩, 6) := ⟨⟨by decide +kernel, by decide +kernel⟩, List.mem_of_getElem? (i := 699) (by decide +kernel), List.mem_of_getElem? (i := 697) (by decide +kernel), List.mem_of_getElem? (i := 698) (by decide +kernel)⟩
theorem lw_p27 : lw_okq (⟨"SixteenDesk$Machine", "step", "()V"⟩, 7) := ⟨⟨by decide +kernel, by decide +kernel⟩, List.mem_of_getElem? (i := 171) (by decide +kernel), List.mem_of_getElem? (i := 772) (by decide +kernel), List.mem_of_getElem? (i := 773) (by decide +kernel)⟩
theorem lw_p28 : lw_okq (⟨"SixteenDesk$Machine", "enter", "(I)V"⟩, 7) := ⟨⟨by decide +kernel, by decide +kernel⟩, List.mem_of_getElem? (i := 171) (by decide +kernel), List.mem_of_getElem? (i := 777) (by decide +kernel), List.mem_of_getElem? (i := 778) (by decide +kernel)⟩
theorem lw_p29 : lw_okq (⟨"SixteenDesk$Machine", "put", "(II)V"⟩, 7) := ⟨⟨by decide +kernel, by decide +kernel⟩, List.mem_of_getElem? (i := 171) (by decide +kernel), List.mem_of_getElem? (i := 782) (by decide +kernel), List.mem_of_getElem? (i := 783) (by decide +kernel)⟩
theorem lw_p30 : lw_okq (⟨"SixteenDesk$Machine", "isBarred", "(I)Z"⟩, 7) := ⟨⟨by decide +kernel, by decide +kernel⟩, List.mem_of_getElem? (i := 171) (by decide +kernel), List.mem_of_getElem? (i := 786) (by decide +kernel), List.mem_of_getElem? (i := 787) (by decide +kernel)⟩
theorem lw_p31 : lw_okq (⟨"SixteenDesk$Machine", "fetch", "(I)I"⟩, 7) := ⟨⟨by decide +kernel, by decide +kernel⟩, List.mem_of_getElem? (i := 171) (by decide +kernel), List.mem_of_getElem? (i := 794) (by decide +kernel), List.mem_of_getElem? (i := 795) (by decide +kernel)⟩
def lw_privs_2 : List (MethodName × Nat) := [(⟨"SixteenDesk$Assembler", "takeNumber", "(III)V"⟩, 13), (⟨"SixteenDesk$Assembler", "takeWhere", "(I)V"⟩, 13), (⟨"SixteenDesk$Assembler", "placeOfLabel", "()I"⟩, 13), (⟨"SixteenDesk$Assembler", "takeValue", "()V"⟩, 13), (⟨"SixteenDesk$Assembler", "takeBlock", "(I)V"⟩, 13), (⟨"SixteenDesk$Assembler", "takeText", "(I)V"⟩, 13), (⟨"SixteenDesk$Writer", "tellOperand", "(CI)V"⟩, 1), (⟨"SixteenDesk$Writer", "tellRegister", "(I)V"⟩, 1), (⟨"SixteenDesk$Writer", "tellNumber", "(I)V"⟩, 1), (⟨"SixteenDesk$Writer", "tellHexadecimals", "(II)V"⟩, 1), (⟨"java/lang/Throwable", "fillInStackTrace", "(I)Ljava/lang/Throwable;"⟩, 6), (⟨"SixteenDesk$Machine", "step", "()V"⟩, 7), (⟨"SixteenDesk$Machine", "enter", "(I)V"⟩, 7), (⟨"SixteenDesk$Machine", "put", "(II)V"⟩, 7), (⟨"SixteenDesk$Machine", "isBarred", "(I)Z"⟩, 7), (⟨"SixteenDesk$Machine", "fetch", "(I)I"⟩, 7)]
theorem lw_r2 : ∀ q ∈ lw_privs_2, lw_okq q := List.forall_mem_cons.mpr ⟨lw_p16, List.forall_mem_cons.mpr ⟨lw_p17, List.forall_mem_cons.mpr ⟨lw_p18, List.forall_mem_cons.mpr ⟨lw_p19, List.forall_mem_cons.mpr ⟨lw_p20, List.forall_mem_cons.mpr ⟨lw_p21, List.forall_mem_cons.mpr ⟨lw_p22, List.forall_mem_cons.mpr ⟨lw_p23, List.forall_mem_cons.mpr ⟨lw_p24, List.forall_mem_cons.mpr ⟨lw_p25, List.forall_mem_cons.mpr ⟨lw_p26, List.forall_mem_cons.mpr ⟨lw_p27, List.forall_mem_cons.mpr ⟨lw_p28, List.forall_mem_cons.mpr ⟨lw_p29, List.forall_mem_cons.mpr ⟨lw_p30, List.forall_mem_cons.mpr ⟨lw_p31, fun _ h => absurd h List.not_mem_nil⟩⟩⟩⟩⟩⟩⟩⟩⟩⟩⟩⟩⟩⟩⟩⟩
theorem lw_p32 : lw_okq (⟨"SixteenDesk$Machine", "perform", "(I)V"⟩, 7) := ⟨⟨by decide +kernel, by decide +kernel⟩, List.mem_of_getElem? (i := 171) (by decide +kernel), List.mem_of_getElem? (i := 804) (by decide +kernel), List.mem_of_getElem? (i := 805) (by decide +kernel)⟩
theorem lw_p33 : lw_okq (⟨"SixteenDesk$Machine", "second", "(I)I"⟩, 7) := ⟨⟨by decide +kernel, by decide +kernel⟩, List.mem_of_getElem? (i := 171) (by decide +kernel), List.mem_of_getElem? (i := 809) (by decide +kernel), List.mem_of_getElem? (i := 810) (by decide +kernel)⟩
theorem lw_p34 : lw_okq (⟨"SixteenDesk$Machine", "settle", "(II)V"⟩, 7) := ⟨⟨by decide +kernel, by decide +kernel⟩, List.mem_of_getElem? (i := 171) (by decide +kernel), List.mem_of_getElem? (i := 813) (by decide +kernel), List.mem_of_getElem? (i := 814) (by decide +kernel)⟩
theorem lw_p35 : lw_okq (⟨"SixteenDesk$Machine", "receive", "(II)V"⟩, 7) := ⟨⟨by decide +kernel, by decide +kernel⟩, List.mem_of_getElem? (i := 171) (by decide +kernel), List.mem_of_getElem? (i := 817) (by decide +kernel), List.mem_of_getElem? (i := 818) (by decide +kernel)⟩
theorem lw_p36 : lw_okq (⟨"SixteenDesk$Machine", "give", "(II)V"⟩, 7) := ⟨⟨by decide +kernel, by decide +kernel⟩, List.mem_of_getElem? (i := 171) (by decide +kernel), List.mem_of_getElem? (i := 821) (by decide +kernel), List.mem_of_getElem? (i := 822) (by decide +kernel)⟩
theorem lw_p37 : lw_okq (⟨"SixteenDesk$Machine", "callAway", "(II)V"⟩, 7) := ⟨⟨by decide +kernel, by decide +kernel⟩, List.mem_of_getElem? (i := 171) (by decide +kernel), List.mem_of_getElem? (i := 825) (by decide +kernel), List.mem_of_getElem? (i := 826) (by decide +kernel)⟩
theorem lw_p38 : lw_okq (⟨"SixteenDesk$Machine", "comeBack", "()V"⟩, 7) := ⟨⟨by decide +kernel, by decide +kernel⟩, List.mem_of_getElem? (i := 171) (by decide +kernel), List.mem_of_getElem? (i := 829) (by decide +kernel), List.mem_of_getElem? (i := 830) (by decide +kernel)⟩
theorem lw_p39 : lw_okq (⟨"SixteenDesk$Machine", "trap", "(I)V"⟩, 7) := ⟨⟨by decide +kernel, by decide +kernel⟩, List.mem_of_getElem? (i := 171) (by decide +kernel), List.mem_of_getElem? (i := 834) (by decide +kernel), List.mem_of_getElem? (i := 835) (by decide +kernel)⟩
theorem lw_p40 : lw_okq (⟨"SixteenDesk$Machine", "takeKey", "(Z)V"⟩, 7) := ⟨⟨by decide +kernel, by decide +kernel⟩, List.mem_of_getElem? (i := 171) (by decide +kernel), List.mem_of_getElem? (i := 838) (by decide +kernel), List.mem_of_getElem? (i := 839) (by decide +kernel)⟩
theorem lw_p41 : lw_okq (⟨"SixteenDesk$Machine", "printWords", "(Z)V"⟩, 7) := ⟨⟨by decide +kernel, by decide +kernel⟩, List.mem_of_getElem? (i := 171) (by decide +kernel), List.mem_of_getElem? (i := 842) (by decide +kernel), List.mem_of_getElem? (i := 843) (by decide +kernel)⟩
theorem lw_p42 : lw_okq (⟨"SixteenDeskModel", "first", "()V"⟩, 52) := ⟨⟨by decide +kernel, by decide +kernel⟩, List.mem_of_getElem? (i := 862) (by decide +kernel), List.mem_of_getElem? (i := 869) (by decide +kernel), List.mem_of_getElem? (i := 870) (by decide +kernel)⟩
theorem lw_p43 : lw_okq (⟨"SixteenDeskModel", "step", "()V"⟩, 52) := ⟨⟨by decide +kernel, by decide +kernel⟩, List.mem_of_getElem? (i := 862) (by decide +kernel), List.mem_of_getElem? (i := 1044) (by decide +kernel), List.mem_of_getElem? (i := 1045) (by decide +kernel)⟩
theorem lw_p44 : lw_okq (⟨"SixteenDeskModel", "goIn", "()V"⟩, 52) := ⟨⟨by decide +kernel, by decide +kernel⟩, List.mem_of_getElem? (i := 862) (by decide +kernel), List.mem_of_getElem? (i := 1048) (by decide +kernel), List.mem_of_getElem? (i := 1049) (by decide +kernel)⟩
theorem lw_p45 : lw_okq (⟨"SixteenDeskModel", "isUser", "()Z"⟩, 52) := ⟨⟨by decide +kernel, by decide +kernel⟩, List.mem_of_getElem? (i := 862) (by decide +kernel), List.mem_of_getElem? (i := 1052) (by decide +kernel), List.mem_of_getElem? (i := 1053) (by decide +kernel)⟩
theorem lw_p46 : lw_okq (⟨"SixteenDeskModel", "put", "(II)V"⟩, 52) := ⟨⟨by decide +kernel, by decide +kernel⟩, List.mem_of_getElem? (i := 862) (by decide +kernel), List.mem_of_getElem? (i := 1061) (by decide +kernel), List.mem_of_getElem? (i := 1062) (by decide +kernel)⟩
theorem lw_p47 : lw_okq (⟨"SixteenDeskModel", "prints", "(I)V"⟩, 52) := ⟨⟨by decide +kernel, by decide +kernel⟩, List.mem_of_getElem? (i := 862) (by decide +kernel), List.mem_of_getElem? (i := 1066) (by decide +kernel), List.mem_of_getElem? (i := 1067) (by decide +kernel)⟩
def lw_privs_3 : List (MethodName × Nat) := [(⟨"SixteenDesk$Machine", "perform", "(I)V"⟩, 7), (⟨"SixteenDesk$Machine", "second", "(I)I"⟩, 7), (⟨"SixteenDesk$Machine", "settle", "(II)V"⟩, 7), (⟨"SixteenDesk$Machine", "receive", "(II)V"⟩, 7), (⟨"SixteenDesk$Machine", "give", "(II)V"⟩, 7), (⟨"SixteenDesk$Machine", "callAway", "(II)V"⟩, 7), (⟨"SixteenDesk$Machine", "comeBack", "()V"⟩, 7), (⟨"SixteenDesk$Machine", "trap", "(I)V"⟩, 7), (⟨"SixteenDesk$Machine", "takeKey", "(Z)V"⟩, 7), (⟨"SixteenDesk$Machine", "printWords", "(Z)V"⟩, 7), (⟨"SixteenDeskModel", "first", "()V"⟩, 52), (⟨"SixteenDeskModel", "step", "()V"⟩, 52), (⟨"SixteenDeskModel", "goIn", "()V"⟩, 52), (⟨"SixteenDeskModel", "isUser", "()Z"⟩, 52), (⟨"SixteenDeskModel", "put", "(II)V"⟩, 52), (⟨"SixteenDeskModel", "prints", "(I)V"⟩, 52)]
theorem lw_r3 : ∀ q ∈ lw_privs_3, lw_okq q := List.forall_mem_cons.mpr ⟨lw_p32, List.forall_mem_cons.mpr ⟨lw_p33, List.forall_mem_cons.mpr ⟨lw_p34, List.forall_mem_cons.mpr ⟨lw_p35, List.forall_mem_cons.mpr ⟨lw_p36, List.forall_mem_cons.mpr ⟨lw_p37, List.forall_mem_cons.mpr ⟨lw_p38, List.forall_mem_cons.mpr ⟨lw_p39, List.forall_mem_cons.mpr ⟨lw_p40, List.forall_mem_cons.mpr ⟨lw_p41, List.forall_mem_cons.mpr ⟨lw_p42, List.forall_mem_cons.mpr ⟨lw_p43, List.forall_mem_cons.mpr ⟨lw_p44, List.forall_mem_cons.mpr ⟨lw_p45, List.forall_mem_cons.mpr ⟨lw_p46, List.forall_mem_cons.mpr ⟨lw_p47, fun _ h => absurd h List.not_mem_nil⟩⟩⟩⟩⟩⟩⟩⟩⟩⟩⟩⟩⟩⟩⟩⟩
theorem lw_p48 : lw_okq (⟨"SixteenDeskModel", "get", "(I)I"⟩, 52) := ⟨⟨by decide +kernel, by decide +kernel⟩, List.mem_of_getElem? (i := 862) (by decide +kernel), List.mem_of_getElem? (i := 1074) (by decide +kernel), List.mem_of_getElem? (i := 1075) (by decide +kernel)⟩
theorem lw_p49 : lw_okq (⟨"SixteenDeskModel", "seen", "(I)I"⟩, 52) := ⟨⟨by decide +kernel, by decide +kernel⟩, List.mem_of_getElem? (i := 862) (by decide +kernel), List.mem_of_getElem? (i := 1078) (by decide +kernel), List.mem_of_getElem? (i := 1079) (by decide +kernel)⟩
theorem lw_p50 : lw_okq (⟨"SixteenDeskModel", "takeKey", "()I"⟩, 52) := ⟨⟨by decide +kernel, by decide +kernel⟩, List.mem_of_getElem? (i := 862) (by decide +kernel), List.mem_of_getElem? (i := 1082) (by decide +kernel), List.mem_of_getElem? (i := 1083) (by decide +kernel)⟩
theorem lw_p51 : lw_okq (⟨"SixteenDeskModel", "read", "(I)I"⟩, 52) := ⟨⟨by decide +kernel, by decide +kernel⟩, List.mem_of_getElem? (i := 862) (by decide +kernel), List.mem_of_getElem? (i := 1086) (by decide +kernel), List.mem_of_getElem? (i := 1087) (by decide +kernel)⟩
theorem lw_p52 : lw_okq (⟨"SixteenDeskModel", "isOut", "(I)Z"⟩, 52) := ⟨⟨by decide +kernel, by decide +kernel⟩, List.mem_of_getElem? (i := 862) (by decide +kernel), List.mem_of_getElem? (i := 1090) (by decide +kernel), List.mem_of_getElem? (i := 1091) (by decide +kernel)⟩
theorem lw_p53 : lw_okq (⟨"SixteenDeskModel", "does", "(II)V"⟩, 52) := ⟨⟨by decide +kernel, by decide +kernel⟩, List.mem_of_getElem? (i := 862) (by decide +kernel), List.mem_of_getElem? (i := 1094) (by decide +kernel), List.mem_of_getElem? (i := 1095) (by decide +kernel)⟩
theorem lw_p54 : lw_okq (⟨"SixteenDeskModel", "second", "(I)I"⟩, 52) := ⟨⟨by decide +kernel, by decide +kernel⟩, List.mem_of_getElem? (i := 862) (by decide +kernel), List.mem_of_getElem? (i := 1101) (by decide +kernel), List.mem_of_getElem? (i := 1102) (by decide +kernel)⟩
theorem lw_p55 : lw_okq (⟨"SixteenDeskModel", "comes", "(II)V"⟩, 52) := ⟨⟨by decide +kernel, by decide +kernel⟩, List.mem_of_getElem? (i := 862) (by decide +kernel), List.mem_of_getElem? (i := 1105) (by decide +kernel), List.mem_of_getElem? (i := 1106) (by decide +kernel)⟩
theorem lw_p56 : lw_okq (⟨"SixteenDeskModel", "writes", "(II)V"⟩, 52) := ⟨⟨by decide +kernel, by decide +kernel⟩, List.mem_of_getElem? (i := 862) (by decide +kernel), List.mem_of_getElem? (i := 1110) (by decide +kernel), List.mem_of_getElem? (i := 1111) (by decide +kernel)⟩
theorem lw_p57 : lw_okq (⟨"SixteenDeskModel", "comesBack", "()V"⟩, 52) := ⟨⟨by decide +kernel, by decide +kernel⟩, List.mem_of_getElem? (i := 862) (by decide +kernel), List.mem_of_getElem? (i := 1114) (by decide +kernel), List.mem_of_getElem? (i := 1115) (by decide +kernel)⟩
theorem lw_p58 : lw_okq (⟨"SixteenDeskModel", "exception", "(I)V"⟩, 52) := ⟨⟨by decide +kernel, by decide +kernel⟩, List.mem_of_getElem? (i := 862) (by decide +kernel), List.mem_of_getElem? (i := 1118) (by decide +kernel), List.mem_of_getElem? (i := 1119) (by decide +kernel)⟩
theorem lw_p59 : lw_okq (⟨"SixteenDeskModel", "trap", "(II)V"⟩, 52) := ⟨⟨by decide +kernel, by decide +kernel⟩, List.mem_of_getElem? (i := 862) (by decide +kernel), List.mem_of_getElem? (i := 1123) (by decide +kernel), List.mem_of_getElem? (i := 1124) (by decide +kernel)⟩
theorem lw_p60 : lw_okq (⟨"SixteenDeskModel", "string", "(Z)V"⟩, 52) := ⟨⟨by decide +kernel, by decide +kernel⟩, List.mem_of_getElem? (i := 862) (by decide +kernel), List.mem_of_getElem? (i := 1127) (by decide +kernel), List.mem_of_getElem? (i := 1128) (by decide +kernel)⟩
theorem lw_p61 : lw_okq (⟨"SixteenDeskModel", "four", "(I)V"⟩, 52) := ⟨⟨by decide +kernel, by decide +kernel⟩, List.mem_of_getElem? (i := 862) (by decide +kernel), List.mem_of_getElem? (i := 1163) (by decide +kernel), List.mem_of_getElem? (i := 1164) (by decide +kernel)⟩
theorem lw_p62 : lw_okq (⟨"SixteenDeskModel", "pass", "()Z"⟩, 52) := ⟨⟨by decide +kernel, by decide +kernel⟩, List.mem_of_getElem? (i := 862) (by decide +kernel), List.mem_of_getElem? (i := 1175) (by decide +kernel), List.mem_of_getElem? (i := 1176) (by decide +kernel)⟩
theorem lw_p63 : lw_okq (⟨"SixteenDeskModel", "line", "()Z"⟩, 52) := ⟨⟨by decide +kernel, by decide +kernel⟩, List.mem_of_getElem? (i := 862) (by decide +kernel), List.mem_of_getElem? (i := 1179) (by decide +kernel), List.mem_of_getElem? (i := 1180) (by decide +kernel)⟩
def lw_privs_4 : List (MethodName × Nat) := [(⟨"SixteenDeskModel", "get", "(I)I"⟩, 52), (⟨"SixteenDeskModel", "seen", "(I)I"⟩, 52), (⟨"SixteenDeskModel", "takeKey", "()I"⟩, 52), (⟨"SixteenDeskModel", "read", "(I)I"⟩, 52), (⟨"SixteenDeskModel", "isOut", "(I)Z"⟩, 52), (⟨"SixteenDeskModel", "does", "(II)V"⟩, 52), (⟨"SixteenDeskModel", "second", "(I)I"⟩, 52), (⟨"SixteenDeskModel", "comes", "(II)V"⟩, 52), (⟨"SixteenDeskModel", "writes", "(II)V"⟩, 52), (⟨"SixteenDeskModel", "comesBack", "()V"⟩, 52), (⟨"SixteenDeskModel", "exception", "(I)V"⟩, 52), (⟨"SixteenDeskModel", "trap", "(II)V"⟩, 52), (⟨"SixteenDeskModel", "string", "(Z)V"⟩, 52), (⟨"SixteenDeskModel", "four", "(I)V"⟩, 52), (⟨"SixteenDeskModel", "pass", "()Z"⟩, 52), (⟨"SixteenDeskModel", "line", "()Z"⟩, 52)]
theorem lw_r4 : ∀ q ∈ lw_privs_4, lw_okq q := List.forall_mem_cons.mpr ⟨lw_p48, List.forall_mem_cons.mpr ⟨lw_p49, List.forall_mem_cons.mpr ⟨lw_p50, List.forall_mem_cons.mpr ⟨lw_p51, List.forall_mem_cons.mpr ⟨lw_p52, List.forall_mem_cons.mpr ⟨lw_p53, List.forall_mem_cons.mpr ⟨lw_p54, List.forall_mem_cons.mpr ⟨lw_p55, List.forall_mem_cons.mpr ⟨lw_p56, List.forall_mem_cons.mpr ⟨lw_p57, List.forall_mem_cons.mpr ⟨lw_p58, List.forall_mem_cons.mpr ⟨lw_p59, List.forall_mem_cons.mpr ⟨lw_p60, List.forall_mem_cons.mpr ⟨lw_p61, List.forall_mem_cons.mpr ⟨lw_p62, List.forall_mem_cons.mpr ⟨lw_p63, fun _ h => absurd h List.not_mem_nil⟩⟩⟩⟩⟩⟩⟩⟩⟩⟩⟩⟩⟩⟩⟩⟩
theorem lw_p64 : lw_okq (⟨"SixteenDeskModel", "next", "()V"⟩, 52) := ⟨⟨by decide +kernel, by decide +kernel⟩, List.mem_of_getElem? (i := 862) (by decide +kernel), List.mem_of_getElem? (i := 1183) (by decide +kernel), List.mem_of_getElem? (i := 1184) (by decide +kernel)⟩
theorem lw_p65 : lw_okq (⟨"SixteenDeskModel", "sign", "(I)I"⟩, 52) := ⟨⟨by decide +kernel, by decide +kernel⟩, List.mem_of_getElem? (i := 862) (by decide +kernel), List.mem_of_getElem? (i := 1187) (by decide +kernel), List.mem_of_getElem? (i := 1188) (by decide +kernel)⟩
theorem lw_p66 : lw_okq (⟨"SixteenDeskModel", "isText", "()Z"⟩, 52) := ⟨⟨by decide +kernel, by decide +kernel⟩, List.mem_of_getElem? (i := 862) (by decide +kernel), List.mem_of_getElem? (i := 1206) (by decide +kernel), List.mem_of_getElem? (i := 1207) (by decide +kernel)⟩
theorem lw_p67 : lw_okq (⟨"SixteenDeskModel", "begins", "()Z"⟩, 52) := ⟨⟨by decide +kernel, by decide +kernel⟩, List.mem_of_getElem? (i := 862) (by decide +kernel), List.mem_of_getElem? (i := 1210) (by decide +kernel), List.mem_of_getElem? (i := 1211) (by decide +kernel)⟩
theorem lw_p68 : lw_okq (⟨"SixteenDeskModel", "name", "()I"⟩, 52) := ⟨⟨by decide +kernel, by decide +kernel⟩, List.mem_of_getElem? (i := 862) (by decide +kernel), List.mem_of_getElem? (i := 1214) (by decide +kernel), List.mem_of_getElem? (i := 1215) (by decide +kernel)⟩
theorem lw_p69 : lw_okq (⟨"SixteenDeskModel", "wrongToken", "()Z"⟩, 52) := ⟨⟨by decide +kernel, by decide +kernel⟩, List.mem_of_getElem? (i := 862) (by decide +kernel), List.mem_of_getElem? (i := 1221) (by decide +kernel), List.mem_of_getElem? (i := 1222) (by decide +kernel)⟩
theorem lw_p70 : lw_okq (⟨"SixteenDeskModel", "wrong", "(II)Z"⟩, 52) := ⟨⟨by decide +kernel, by decide +kernel⟩, List.mem_of_getElem? (i := 862) (by decide +kernel), List.mem_of_getElem? (i := 1225) (by decide +kernel), List.mem_of_getElem? (i := 1226) (by decide +kernel)⟩
theorem lw_p71 : lw_okq (⟨"SixteenDeskModel", "isNumber", "()Z"⟩, 52) := ⟨⟨by decide +kernel, by decide +kernel⟩, List.mem_of_getElem? (i := 862) (by decide +kernel), List.mem_of_getElem? (i := 1229) (by decide +kernel), List.mem_of_getElem? (i := 1230) (by decide +kernel)⟩
theorem lw_p72 : lw_okq (⟨"SixteenDeskModel", "isLabel", "()Z"⟩, 52) := ⟨⟨by decide +kernel, by decide +kernel⟩, List.mem_of_getElem? (i := 862) (by decide +kernel), List.mem_of_getElem? (i := 1236) (by decide +kernel), List.mem_of_getElem? (i := 1237) (by decide +kernel)⟩
theorem lw_p73 : lw_okq (⟨"SixteenDeskModel", "isRegister", "()Z"⟩, 52) := ⟨⟨by decide +kernel, by decide +kernel⟩, List.mem_of_getElem? (i := 862) (by decide +kernel), List.mem_of_getElem? (i := 1240) (by decide +kernel), List.mem_of_getElem? (i := 1241) (by decide +kernel)⟩
theorem lw_p74 : lw_okq (⟨"SixteenDeskModel", "tells", "()Z"⟩, 52) := ⟨⟨by decide +kernel, by decide +kernel⟩, List.mem_of_getElem? (i := 862) (by decide +kernel), List.mem_of_getElem? (i := 1244) (by decide +kernel), List.mem_of_getElem? (i := 1245) (by decide +kernel)⟩
theorem lw_p75 : lw_okq (⟨"SixteenDeskModel", "which", "()I"⟩, 52) := ⟨⟨by decide +kernel, by decide +kernel⟩, List.mem_of_getElem? (i := 862) (by decide +kernel), List.mem_of_getElem? (i := 1248) (by decide +kernel), List.mem_of_getElem? (i := 1249) (by decide +kernel)⟩
theorem lw_p76 : lw_okq (⟨"SixteenDeskModel", "dotted", "(II)Z"⟩, 52) := ⟨⟨by decide +kernel, by decide +kernel⟩, List.mem_of_getElem? (i := 862) (by decide +kernel), List.mem_of_getElem? (i := 1252) (by decide +kernel), List.mem_of_getElem? (i := 1253) (by decide +kernel)⟩
theorem lw_p77 : lw_okq (⟨"SixteenDeskModel", "hasRoom", "(II)Z"⟩, 52) := ⟨⟨by decide +kernel, by decide +kernel⟩, List.mem_of_getElem? (i := 862) (by decide +kernel), List.mem_of_getElem? (i := 1256) (by decide +kernel), List.mem_of_getElem? (i := 1257) (by decide +kernel)⟩
theorem lw_p78 : lw_okq (⟨"SixteenDeskModel", "value", "(IIZ)Z"⟩, 52) := ⟨⟨by decide +kernel, by decide +kernel⟩, List.mem_of_getElem? (i := 862) (by decide +kernel), List.mem_of_getElem? (i := 1260) (by decide +kernel), List.mem_of_getElem? (i := 1261) (by decide +kernel)⟩
theorem lw_p79 : lw_okq (⟨"SixteenDeskModel", "lay", "(I)V"⟩, 52) := ⟨⟨by decide +kernel, by decide +kernel⟩, List.mem_of_getElem? (i := 862) (by decide +kernel), List.mem_of_getElem? (i := 1264) (by decide +kernel), List.mem_of_getElem? (i := 1265) (by decide +kernel)⟩
def lw_privs_5 : List (MethodName × Nat) := [(⟨"SixteenDeskModel", "next", "()V"⟩, 52), (⟨"SixteenDeskModel", "sign", "(I)I"⟩, 52), (⟨"SixteenDeskModel", "isText", "()Z"⟩, 52), (⟨"SixteenDeskModel", "begins", "()Z"⟩, 52), (⟨"SixteenDeskModel", "name", "()I"⟩, 52), (⟨"SixteenDeskModel", "wrongToken", "()Z"⟩, 52), (⟨"SixteenDeskModel", "wrong", "(II)Z"⟩, 52), (⟨"SixteenDeskModel", "isNumber", "()Z"⟩, 52), (⟨"SixteenDeskModel", "isLabel", "()Z"⟩, 52), (⟨"SixteenDeskModel", "isRegister", "()Z"⟩, 52), (⟨"SixteenDeskModel", "tells", "()Z"⟩, 52), (⟨"SixteenDeskModel", "which", "()I"⟩, 52), (⟨"SixteenDeskModel", "dotted", "(II)Z"⟩, 52), (⟨"SixteenDeskModel", "hasRoom", "(II)Z"⟩, 52), (⟨"SixteenDeskModel", "value", "(IIZ)Z"⟩, 52), (⟨"SixteenDeskModel", "lay", "(I)V"⟩, 52)]
theorem lw_r5 : ∀ q ∈ lw_privs_5, lw_okq q := List.forall_mem_cons.mpr ⟨lw_p64, List.forall_mem_cons.mpr ⟨lw_p65, List.forall_mem_cons.mpr ⟨lw_p66, List.forall_mem_cons.mpr ⟨lw_p67, List.forall_mem_cons.mpr ⟨lw_p68, List.forall_mem_cons.mpr ⟨lw_p69, List.forall_mem_cons.mpr ⟨lw_p70, List.forall_mem_cons.mpr ⟨lw_p71, List.forall_mem_cons.mpr ⟨lw_p72, List.forall_mem_cons.mpr ⟨lw_p73, List.forall_mem_cons.mpr ⟨lw_p74, List.forall_mem_cons.mpr ⟨lw_p75, List.forall_mem_cons.mpr ⟨lw_p76, List.forall_mem_cons.mpr ⟨lw_p77, List.forall_mem_cons.mpr ⟨lw_p78, List.forall_mem_cons.mpr ⟨lw_p79, fun _ h => absurd h List.not_mem_nil⟩⟩⟩⟩⟩⟩⟩⟩⟩⟩⟩⟩⟩⟩⟩⟩
theorem lw_p80 : lw_okq (⟨"SixteenDeskModel", "named", "(II)Z"⟩, 52) := ⟨⟨by decide +kernel, by decide +kernel⟩, List.mem_of_getElem? (i := 862) (by decide +kernel), List.mem_of_getElem? (i := 1268) (by decide +kernel), List.mem_of_getElem? (i := 1269) (by decide +kernel)⟩
theorem lw_p81 : lw_okq (⟨"SixteenDeskModel", "instruction", "(I)Z"⟩, 52) := ⟨⟨by decide +kernel, by decide +kernel⟩, List.mem_of_getElem? (i := 862) (by decide +kernel), List.mem_of_getElem? (i := 1272) (by decide +kernel), List.mem_of_getElem? (i := 1273) (by decide +kernel)⟩
theorem lw_p82 : lw_okq (⟨"SixteenDeskModel", "where", "(II)Z"⟩, 52) := ⟨⟨by decide +kernel, by decide +kernel⟩, List.mem_of_getElem? (i := 862) (by decide +kernel), List.mem_of_getElem? (i := 1276) (by decide +kernel), List.mem_of_getElem? (i := 1277) (by decide +kernel)⟩
theorem lw_p83 : lw_okq (⟨"SixteenDeskModel", "three", "(I)Z"⟩, 52) := ⟨⟨by decide +kernel, by decide +kernel⟩, List.mem_of_getElem? (i := 862) (by decide +kernel), List.mem_of_getElem? (i := 1281) (by decide +kernel), List.mem_of_getElem? (i := 1282) (by decide +kernel)⟩
theorem lw_p84 : lw_okq (⟨"SixteenDeskModel", "taken", "(II)Z"⟩, 52) := ⟨⟨by decide +kernel, by decide +kernel⟩, List.mem_of_getElem? (i := 862) (by decide +kernel), List.mem_of_getElem? (i := 1285) (by decide +kernel), List.mem_of_getElem? (i := 1286) (by decide +kernel)⟩
theorem lw_p85 : lw_okq (⟨"SixteenDeskModel", "based", "(I)Z"⟩, 52) := ⟨⟨by decide +kernel, by decide +kernel⟩, List.mem_of_getElem? (i := 862) (by decide +kernel), List.mem_of_getElem? (i := 1293) (by decide +kernel), List.mem_of_getElem? (i := 1294) (by decide +kernel)⟩
theorem lw_p86 : lw_okq (⟨"SixteenDeskModel", "small", "(II)Z"⟩, 52) := ⟨⟨by decide +kernel, by decide +kernel⟩, List.mem_of_getElem? (i := 862) (by decide +kernel), List.mem_of_getElem? (i := 1297) (by decide +kernel), List.mem_of_getElem? (i := 1298) (by decide +kernel)⟩
theorem lw_p87 : lw_okq (⟨"SixteenDeskModel", "isTold", "(I)Z"⟩, 52) := ⟨⟨by decide +kernel, by decide +kernel⟩, List.mem_of_getElem? (i := 862) (by decide +kernel), List.mem_of_getElem? (i := 1324) (by decide +kernel), List.mem_of_getElem? (i := 1325) (by decide +kernel)⟩
theorem lw_p88 : lw_okq (⟨"SixteenDeskModel", "isBranch", "(I)Z"⟩, 52) := ⟨⟨by decide +kernel, by decide +kernel⟩, List.mem_of_getElem? (i := 862) (by decide +kernel), List.mem_of_getElem? (i := 1328) (by decide +kernel), List.mem_of_getElem? (i := 1329) (by decide +kernel)⟩
theorem lw_p89 : lw_okq (⟨"SixteenDeskModel", "sayName", "(I)V"⟩, 52) := ⟨⟨by decide +kernel, by decide +kernel⟩, List.mem_of_getElem? (i := 862) (by decide +kernel), List.mem_of_getElem? (i := 1332) (by decide +kernel), List.mem_of_getElem? (i := 1333) (by decide +kernel)⟩
theorem lw_p90 : lw_okq (⟨"SixteenDeskModel", "say", "(I)V"⟩, 52) := ⟨⟨by decide +kernel, by decide +kernel⟩, List.mem_of_getElem? (i := 862) (by decide +kernel), List.mem_of_getElem? (i := 1336) (by decide +kernel), List.mem_of_getElem? (i := 1337) (by decide +kernel)⟩
theorem lw_p91 : lw_okq (⟨"SixteenDeskModel", "sayNumber", "(I)V"⟩, 52) := ⟨⟨by decide +kernel, by decide +kernel⟩, List.mem_of_getElem? (i := 862) (by decide +kernel), List.mem_of_getElem? (i := 1340) (by decide +kernel), List.mem_of_getElem? (i := 1341) (by decide +kernel)⟩
theorem lw_p92 : lw_okq (⟨"SixteenDeskModel", "isThree", "(II)Z"⟩, 52) := ⟨⟨by decide +kernel, by decide +kernel⟩, List.mem_of_getElem? (i := 862) (by decide +kernel), List.mem_of_getElem? (i := 1344) (by decide +kernel), List.mem_of_getElem? (i := 1345) (by decide +kernel)⟩
theorem lw_p93 : lw_okq (⟨"SixteenDeskModel", "sayTwo", "(II)V"⟩, 52) := ⟨⟨by decide +kernel, by decide +kernel⟩, List.mem_of_getElem? (i := 862) (by decide +kernel), List.mem_of_getElem? (i := 1348) (by decide +kernel), List.mem_of_getElem? (i := 1349) (by decide +kernel)⟩
theorem lw_p94 : lw_okq (⟨"SixteenDeskModel", "sayRegister", "(I)V"⟩, 52) := ⟨⟨by decide +kernel, by decide +kernel⟩, List.mem_of_getElem? (i := 862) (by decide +kernel), List.mem_of_getElem? (i := 1352) (by decide +kernel), List.mem_of_getElem? (i := 1353) (by decide +kernel)⟩
theorem lw_p95 : lw_okq (⟨"SixteenDeskModel", "sayBetween", "()V"⟩, 52) := ⟨⟨by decide +kernel, by decide +kernel⟩, List.mem_of_getElem? (i := 862) (by decide +kernel), List.mem_of_getElem? (i := 1356) (by decide +kernel), List.mem_of_getElem? (i := 1357) (by decide +kernel)⟩
def lw_privs_6 : List (MethodName × Nat) := [(⟨"SixteenDeskModel", "named", "(II)Z"⟩, 52), (⟨"SixteenDeskModel", "instruction", "(I)Z"⟩, 52), (⟨"SixteenDeskModel", "where", "(II)Z"⟩, 52), (⟨"SixteenDeskModel", "three", "(I)Z"⟩, 52), (⟨"SixteenDeskModel", "taken", "(II)Z"⟩, 52), (⟨"SixteenDeskModel", "based", "(I)Z"⟩, 52), (⟨"SixteenDeskModel", "small", "(II)Z"⟩, 52), (⟨"SixteenDeskModel", "isTold", "(I)Z"⟩, 52), (⟨"SixteenDeskModel", "isBranch", "(I)Z"⟩, 52), (⟨"SixteenDeskModel", "sayName", "(I)V"⟩, 52), (⟨"SixteenDeskModel", "say", "(I)V"⟩, 52), (⟨"SixteenDeskModel", "sayNumber", "(I)V"⟩, 52), (⟨"SixteenDeskModel", "isThree", "(II)Z"⟩, 52), (⟨"SixteenDeskModel", "sayTwo", "(II)V"⟩, 52), (⟨"SixteenDeskModel", "sayRegister", "(I)V"⟩, 52), (⟨"SixteenDeskModel", "sayBetween", "()V"⟩, 52)]
theorem lw_r6 : ∀ q ∈ lw_privs_6, lw_okq q := List.forall_mem_cons.mpr ⟨lw_p80, List.forall_mem_cons.mpr ⟨lw_p81, List.forall_mem_cons.mpr ⟨lw_p82, List.forall_mem_cons.mpr ⟨lw_p83, List.forall_mem_cons.mpr ⟨lw_p84, List.forall_mem_cons.mpr ⟨lw_p85, List.forall_mem_cons.mpr ⟨lw_p86, List.forall_mem_cons.mpr ⟨lw_p87, List.forall_mem_cons.mpr ⟨lw_p88, List.forall_mem_cons.mpr ⟨lw_p89, List.forall_mem_cons.mpr ⟨lw_p90, List.forall_mem_cons.mpr ⟨lw_p91, List.forall_mem_cons.mpr ⟨lw_p92, List.forall_mem_cons.mpr ⟨lw_p93, List.forall_mem_cons.mpr ⟨lw_p94, List.forall_mem_cons.mpr ⟨lw_p95, fun _ h => absurd h List.not_mem_nil⟩⟩⟩⟩⟩⟩⟩⟩⟩⟩⟩⟩⟩⟩⟩⟩
theorem lw_p96 : lw_okq (⟨"SixteenDeskModel", "sayWhere", "(II)V"⟩, 52) := ⟨⟨by decide +kernel, by decide +kernel⟩, List.mem_of_getElem? (i := 862) (by decide +kernel), List.mem_of_getElem? (i := 1360) (by decide +kernel), List.mem_of_getElem? (i := 1361) (by decide +kernel)⟩
theorem lw_p97 : lw_okq (⟨"SixteenDeskModel", "isJump", "(I)Z"⟩, 52) := ⟨⟨by decide +kernel, by decide +kernel⟩, List.mem_of_getElem? (i := 862) (by decide +kernel), List.mem_of_getElem? (i := 1364) (by decide +kernel), List.mem_of_getElem? (i := 1365) (by decide +kernel)⟩
theorem lw_p98 : lw_okq (⟨"SixteenDeskModel", "isRest", "(I)Z"⟩, 52) := ⟨⟨by decide +kernel, by decide +kernel⟩, List.mem_of_getElem? (i := 862) (by decide +kernel), List.mem_of_getElem? (i := 1368) (by decide +kernel), List.mem_of_getElem? (i := 1369) (by decide +kernel)⟩
theorem lw_p99 : lw_okq (⟨"SixteenDeskModel", "sayHex", "(II)V"⟩, 52) := ⟨⟨by decide +kernel, by decide +kernel⟩, List.mem_of_getElem? (i := 862) (by decide +kernel), List.mem_of_getElem? (i := 1372) (by decide +kernel), List.mem_of_getElem? (i := 1373) (by decide +kernel)⟩
def lw_privs_7 : List (MethodName × Nat) := [(⟨"SixteenDeskModel", "sayWhere", "(II)V"⟩, 52), (⟨"SixteenDeskModel", "isJump", "(I)Z"⟩, 52), (⟨"SixteenDeskModel", "isRest", "(I)Z"⟩, 52), (⟨"SixteenDeskModel", "sayHex", "(II)V"⟩, 52)]
theorem lw_r7 : ∀ q ∈ lw_privs_7, lw_okq q := List.forall_mem_cons.mpr ⟨lw_p96, List.forall_mem_cons.mpr ⟨lw_p97, List.forall_mem_cons.mpr ⟨lw_p98, List.forall_mem_cons.mpr ⟨lw_p99, fun _ h => absurd h List.not_mem_nil⟩⟩⟩⟩
def lw_privs : List (MethodName × Nat) := lw_privs_1 ++ (lw_privs_2 ++ (lw_privs_3 ++ (lw_privs_4 ++ (lw_privs_5 ++ (lw_privs_6 ++ (lw_privs_7))))))
def lw_tbl : List Cond := k2_sels lw_privs ++ tables_1
theorem lw_privs_ok : ∀ q ∈ lw_privs, lw_okq q := by
  show ∀ q ∈ lw_privs_1 ++ (lw_privs_2 ++ (lw_privs_3 ++ (lw_privs_4 ++ (lw_privs_5 ++ (lw_privs_6 ++ (lw_privs_7)))))), lw_okq q
  exact List.forall_mem_append.mpr ⟨lw_r1, List.forall_mem_append.mpr ⟨lw_r2, List.forall_mem_append.mpr ⟨lw_r3, List.forall_mem_append.mpr ⟨lw_r4, List.forall_mem_append.mpr ⟨lw_r5, List.forall_mem_append.mpr ⟨lw_r6, lw_r7⟩⟩⟩⟩⟩⟩
-- ===== end of PART A; then your names; then what follows =====
end
section
def RX0 : String := "SixteenDesk$Assembler"
def TX0 : u_T := fun k => match k with
  | 0 => ("SixteenDesk$Assembler", "tape", "LSixteenDesk$Bytes;", true)
  | 1 => ("SixteenDesk$Assembler", "tokens", "LSixteenDesk$Tokens;", true)
  | 2 => ("SixteenDesk$Assembler", "heads", "[J", true)
  | 3 => ("SixteenDesk$Assembler", "tails", "[J", true)
  | 4 => ("SixteenDesk$Assembler", "draft", "LSixteenDesk$Program;", false)
  | 5 => ("SixteenDesk$Assembler", "landed", "LSixteenDesk$Program;", false)
  | 6 => ("SixteenDesk$Assembler", "assembled", "Z", false)
  | 7 => ("SixteenDesk$Assembler", "fault", "I", false)
  | 8 => ("SixteenDesk$Assembler", "faultPlace", "I", false)
  | 9 => ("SixteenDesk$Assembler", "second", "Z", false)
  | 10 => ("SixteenDesk$Assembler", "begun", "Z", false)
  | 11 => ("SixteenDesk$Assembler", "ended", "Z", false)
  | _ => ("SixteenDesk$Assembler", "word", "I", false)
def tyX0 : Nat → FieldType := fun k => match k with
  | 0 => .object "SixteenDesk$Bytes"
  | 1 => .object "SixteenDesk$Tokens"
  | 2 => .array .long
  | 3 => .array .long
  | 4 => .object "SixteenDesk$Program"
  | 5 => .object "SixteenDesk$Program"
  | 6 => .boolean
  | 7 => .int
  | 8 => .int
  | 9 => .boolean
  | 10 => .boolean
  | 11 => .boolean
  | _ => .int
abbrev wsX00 : List Cond := u_ws RX0 TX0 13
theorem nmX0 : ∀ a, a < 13 → ∀ b, b < 13 → a ≠ b → (TX0 a).2.1 ≠ (TX0 b).2.1 := by decide +kernel
theorem tyX0_ok : ∀ k, k < 13 → parseFieldDescriptor (TX0 k).2.2.1 = some (tyX0 k) := by decide +kernel
abbrev cX0_init : ByteArray := prog_2_method_1_code
def yX0_init : MethodName := ⟨RX0, "<init>", "(LSixteenDesk$Bytes;)V"⟩
abbrev cX0_translate : ByteArray := prog_2_method_2_code
def yX0_translate : MethodName := ⟨RX0, "translate", "()I"⟩
abbrev cX0_pass : ByteArray := prog_2_method_3_code
def yX0_pass : MethodName := ⟨RX0, "pass", "()V"⟩
abbrev cX0_fail : ByteArray := prog_2_method_4_code
def yX0_fail : MethodName := ⟨RX0, "fail", "(II)V"⟩
abbrev cX0_takeStart : ByteArray := prog_2_method_5_code
def yX0_takeStart : MethodName := ⟨RX0, "takeStart", "()LSixteenDesk$Op;"⟩
abbrev cX0_tellLabel : ByteArray := prog_2_method_6_code
def yX0_tellLabel : MethodName := ⟨RX0, "tellLabel", "()V"⟩
abbrev cX0_findLabel : ByteArray := prog_2_method_7_code
def yX0_findLabel : MethodName := ⟨RX0, "findLabel", "()I"⟩
abbrev cX0_takeStatement : ByteArray := prog_2_method_8_code
def yX0_takeStatement : MethodName := ⟨RX0, "takeStatement", "(LSixteenDesk$Op;)V"⟩
abbrev cX0_takeOperand : ByteArray := prog_2_method_9_code
def yX0_takeOperand : MethodName := ⟨RX0, "takeOperand", "(CI)V"⟩
abbrev cX0_takeRegister : ByteArray := prog_2_method_10_code
def yX0_takeRegister : MethodName := ⟨RX0, "takeRegister", "(I)V"⟩
abbrev cX0_takeNumber : ByteArray := prog_2_method_11_code
def yX0_takeNumber : MethodName := ⟨RX0, "takeNumber", "(III)V"⟩
abbrev cX0_takeSecond : ByteArray := prog_2_method_12_code
def yX0_takeSecond : MethodName := ⟨RX0, "takeSecond", "()V"⟩
abbrev cX0_takeWhere : ByteArray := prog_2_method_13_code
def yX0_takeWhere : MethodName := ⟨RX0, "takeWhere", "(I)V"⟩
abbrev cX0_takeValue : ByteArray := prog_2_method_14_code
def yX0_takeValue : MethodName := ⟨RX0, "takeValue", "()V"⟩
abbrev cX0_placeOfLabel : ByteArray := prog_2_method_15_code
def yX0_placeOfLabel : MethodName := ⟨RX0, "placeOfLabel", "()I"⟩
abbrev cX0_takeBlock : ByteArray := prog_2_method_16_code
def yX0_takeBlock : MethodName := ⟨RX0, "takeBlock", "(I)V"⟩
abbrev cX0_takeText : ByteArray := prog_2_method_17_code
def yX0_takeText : MethodName := ⟨RX0, "takeText", "(I)V"⟩
def RX1 : String := "SixteenDesk$Bytes"
def TX1 : u_T := fun k => match k with
  | 0 => ("SixteenDesk$Bytes", "bytes", "[B", true)
  | _ => ("SixteenDesk$Bytes", "length", "I", false)
def tyX1 : Nat → FieldType := fun k => match k with
  | 0 => .array .byte
  | _ => .int
abbrev wsX10 : List Cond := u_ws RX1 TX1 2
theorem nmX1 : ∀ a, a < 2 → ∀ b, b < 2 → a ≠ b → (TX1 a).2.1 ≠ (TX1 b).2.1 := by decide +kernel
theorem tyX1_ok : ∀ k, k < 2 → parseFieldDescriptor (TX1 k).2.2.1 = some (tyX1 k) := by decide +kernel
abbrev cX1_init : ByteArray := prog_3_method_1_code
def yX1_init : MethodName := ⟨RX1, "<init>", "(I)V"⟩
abbrev cX1_hasRoom : ByteArray := prog_3_method_2_code
def yX1_hasRoom : MethodName := ⟨RX1, "hasRoom", "(I)Z"⟩
abbrev cX1_add : ByteArray := prog_3_method_3_code
def yX1_add : MethodName := ⟨RX1, "add", "(I)V"⟩
abbrev cX1_addFour : ByteArray := prog_3_method_4_code
def yX1_addFour : MethodName := ⟨RX1, "addFour", "(I)V"⟩
abbrev cX1_addText : ByteArray := prog_3_method_5_code
def yX1_addText : MethodName := ⟨RX1, "addText", "(Ljava/lang/String;)V"⟩
abbrev cX1_cut : ByteArray := prog_3_method_6_code
def yX1_cut : MethodName := ⟨RX1, "cut", "(I)V"⟩
abbrev cX1_byteAt : ByteArray := prog_3_method_7_code
def yX1_byteAt : MethodName := ⟨RX1, "byteAt", "(I)I"⟩
def RX2 : String := "SixteenDesk$Keyboard"
def TX2 : u_T := fun k => match k with
  | 0 => ("SixteenDesk$Keyboard", "keys", "[I", true)
  | 1 => ("SixteenDesk$Keyboard", "first", "I", false)
  | 2 => ("SixteenDesk$Keyboard", "waiting", "I", false)
  | 3 => ("SixteenDesk$Keyboard", "readLast", "I", false)
  | _ => ("SixteenDesk$Keyboard", "bit14", "I", false)
def tyX2 : Nat → FieldType := fun k => match k with
  | 0 => .array .int
  | 1 => .int
  | 2 => .int
  | 3 => .int
  | _ => .int
abbrev wsX20 : List Cond := u_ws RX2 TX2 5
theorem nmX2 : ∀ a, a < 5 → ∀ b, b < 5 → a ≠ b → (TX2 a).2.1 ≠ (TX2 b).2.1 := by decide +kernel
theorem tyX2_ok : ∀ k, k < 5 → parseFieldDescriptor (TX2 k).2.2.1 = some (tyX2 k) := by decide +kernel
abbrev cX2_init : ByteArray := prog_4_method_1_code
def yX2_init : MethodName := ⟨RX2, "<init>", "()V"⟩
abbrev cX2_clear : ByteArray := prog_4_method_2_code
def yX2_clear : MethodName := ⟨RX2, "clear", "()V"⟩
abbrev cX2_add : ByteArray := prog_4_method_3_code
def yX2_add : MethodName := ⟨RX2, "add", "(I)Z"⟩
abbrev cX2_status : ByteArray := prog_4_method_4_code
def yX2_status : MethodName := ⟨RX2, "status", "()I"⟩
abbrev cX2_data : ByteArray := prog_4_method_5_code
def yX2_data : MethodName := ⟨RX2, "data", "()I"⟩
abbrev cX2_drop : ByteArray := prog_4_method_6_code
def yX2_drop : MethodName := ⟨RX2, "drop", "()V"⟩
def RX3 : String := "SixteenDesk$Machine"
def TX3 : u_T := fun k => match k with
  | 0 => ("SixteenDesk$Machine", "row", "[I", true)
  | 1 => ("SixteenDesk$Machine", "counts", "[I", true)
  | 2 => ("SixteenDesk$Machine", "memory", "LSixteenDesk$Memory;", true)
  | 3 => ("SixteenDesk$Machine", "keyboard", "LSixteenDesk$Keyboard;", true)
  | 4 => ("SixteenDesk$Machine", "printer", "LSixteenDesk$Printer;", true)
  | 5 => ("SixteenDesk$Machine", "state", "I", false)
  | _ => ("SixteenDesk$Machine", "raised", "I", false)
def tyX3 : Nat → FieldType := fun k => match k with
  | 0 => .array .int
  | 1 => .array .int
  | 2 => .object "SixteenDesk$Memory"
  | 3 => .object "SixteenDesk$Keyboard"
  | 4 => .object "SixteenDesk$Printer"
  | 5 => .int
  | _ => .int
abbrev wsX30 : List Cond := u_ws RX3 TX3 7
theorem nmX3 : ∀ a, a < 7 → ∀ b, b < 7 → a ≠ b → (TX3 a).2.1 ≠ (TX3 b).2.1 := by decide +kernel
theorem tyX3_ok : ∀ k, k < 7 → parseFieldDescriptor (TX3 k).2.2.1 = some (tyX3 k) := by decide +kernel
abbrev cX3_init : ByteArray := prog_5_method_1_code
def yX3_init : MethodName := ⟨RX3, "<init>", "()V"⟩
abbrev cX3_clearRegisters : ByteArray := prog_5_method_2_code
def yX3_clearRegisters : MethodName := ⟨RX3, "clearRegisters", "()V"⟩
abbrev cX3_restart : ByteArray := prog_5_method_3_code
def yX3_restart : MethodName := ⟨RX3, "restart", "(LSixteenDesk$Program;)V"⟩
abbrev cX3_typed : ByteArray := prog_5_method_4_code
def yX3_typed : MethodName := ⟨RX3, "typed", "(I)Z"⟩
abbrev cX3_go : ByteArray := prog_5_method_5_code
def yX3_go : MethodName := ⟨RX3, "go", "(I)I"⟩
abbrev cX3_step : ByteArray := prog_5_method_6_code
def yX3_step : MethodName := ⟨RX3, "step", "()V"⟩
abbrev cX3_perform : ByteArray := prog_5_method_7_code
def yX3_perform : MethodName := ⟨RX3, "perform", "(I)V"⟩
abbrev cX3_second : ByteArray := prog_5_method_8_code
def yX3_second : MethodName := ⟨RX3, "second", "(I)I"⟩
abbrev cX3_settle : ByteArray := prog_5_method_9_code
def yX3_settle : MethodName := ⟨RX3, "settle", "(II)V"⟩
abbrev cX3_receive : ByteArray := prog_5_method_10_code
def yX3_receive : MethodName := ⟨RX3, "receive", "(II)V"⟩
abbrev cX3_give : ByteArray := prog_5_method_11_code
def yX3_give : MethodName := ⟨RX3, "give", "(II)V"⟩
abbrev cX3_callAway : ByteArray := prog_5_method_12_code
def yX3_callAway : MethodName := ⟨RX3, "callAway", "(II)V"⟩
abbrev cX3_comeBack : ByteArray := prog_5_method_13_code
def yX3_comeBack : MethodName := ⟨RX3, "comeBack", "()V"⟩
abbrev cX3_trap : ByteArray := prog_5_method_14_code
def yX3_trap : MethodName := ⟨RX3, "trap", "(I)V"⟩
abbrev cX3_takeKey : ByteArray := prog_5_method_15_code
def yX3_takeKey : MethodName := ⟨RX3, "takeKey", "(Z)V"⟩
abbrev cX3_printWords : ByteArray := prog_5_method_16_code
def yX3_printWords : MethodName := ⟨RX3, "printWords", "(Z)V"⟩
abbrev cX3_enter : ByteArray := prog_5_method_17_code
def yX3_enter : MethodName := ⟨RX3, "enter", "(I)V"⟩
abbrev cX3_isBarred : ByteArray := prog_5_method_18_code
def yX3_isBarred : MethodName := ⟨RX3, "isBarred", "(I)Z"⟩
abbrev cX3_look : ByteArray := prog_5_method_19_code
def yX3_look : MethodName := ⟨RX3, "look", "(I)I"⟩
abbrev cX3_fetch : ByteArray := prog_5_method_20_code
def yX3_fetch : MethodName := ⟨RX3, "fetch", "(I)I"⟩
abbrev cX3_put : ByteArray := prog_5_method_21_code
def yX3_put : MethodName := ⟨RX3, "put", "(II)V"⟩
def RX4 : String := "SixteenDesk$Memory"
def TX4 : u_T := fun k => match k with
  | _ => ("SixteenDesk$Memory", "pages", "[[I", true)
def tyX4 : Nat → FieldType := fun k => match k with
  | _ => .array (.array .int)
abbrev wsX40 : List Cond := u_ws RX4 TX4 1
theorem nmX4 : ∀ a, a < 1 → ∀ b, b < 1 → a ≠ b → (TX4 a).2.1 ≠ (TX4 b).2.1 := by decide +kernel
theorem tyX4_ok : ∀ k, k < 1 → parseFieldDescriptor (TX4 k).2.2.1 = some (tyX4 k) := by decide +kernel
abbrev cX4_init : ByteArray := prog_6_method_1_code
def yX4_init : MethodName := ⟨RX4, "<init>", "()V"⟩
abbrev cX4_at : ByteArray := prog_6_method_2_code
def yX4_at : MethodName := ⟨RX4, "at", "(I)I"⟩
abbrev cX4_keep : ByteArray := prog_6_method_3_code
def yX4_keep : MethodName := ⟨RX4, "keep", "(II)V"⟩
def RX5 : String := "SixteenDesk$Op"
def TX5 : u_T := fun k => match k with
  | _ => ("", "", "", false)
def tyX5 : Nat → FieldType := fun k => match k with
  | _ => .int
abbrev wsX50 : List Cond := u_ws RX5 TX5 0
theorem nmX5 : ∀ a, a < 0 → ∀ b, b < 0 → a ≠ b → (TX5 a).2.1 ≠ (TX5 b).2.1 := by decide +kernel
theorem tyX5_ok : ∀ k, k < 0 → parseFieldDescriptor (TX5 k).2.2.1 = some (tyX5 k) := by decide +kernel
abbrev cX5_takesOneWord : ByteArray := prog_7_method_4_code
def yX5_takesOneWord : MethodName := ⟨RX5, "takesOneWord", "()Z"⟩
abbrev cX5_gives : ByteArray := prog_7_method_5_code
def yX5_gives : MethodName := ⟨RX5, "gives", "(I)Z"⟩
def RX6 : String := "SixteenDesk$Printer"
def TX6 : u_T := fun k => match k with
  | 0 => ("SixteenDesk$Printer", "kept", "[B", true)
  | 1 => ("SixteenDesk$Printer", "length", "I", false)
  | _ => ("SixteenDesk$Printer", "total", "I", false)
def tyX6 : Nat → FieldType := fun k => match k with
  | 0 => .array .byte
  | 1 => .int
  | _ => .int
abbrev wsX60 : List Cond := u_ws RX6 TX6 3
theorem nmX6 : ∀ a, a < 3 → ∀ b, b < 3 → a ≠ b → (TX6 a).2.1 ≠ (TX6 b).2.1 := by decide +kernel
theorem tyX6_ok : ∀ k, k < 3 → parseFieldDescriptor (TX6 k).2.2.1 = some (tyX6 k) := by decide +kernel
abbrev cX6_init : ByteArray := prog_8_method_1_code
def yX6_init : MethodName := ⟨RX6, "<init>", "()V"⟩
abbrev cX6_add : ByteArray := prog_8_method_2_code
def yX6_add : MethodName := ⟨RX6, "add", "(I)V"⟩
abbrev cX6_byteAt : ByteArray := prog_8_method_3_code
def yX6_byteAt : MethodName := ⟨RX6, "byteAt", "(I)I"⟩
def RX7 : String := "SixteenDesk$Program"
def TX7 : u_T := fun k => match k with
  | 0 => ("SixteenDesk$Program", "words", "[I", true)
  | 1 => ("SixteenDesk$Program", "places", "[I", true)
  | 2 => ("SixteenDesk$Program", "size", "I", false)
  | 3 => ("SixteenDesk$Program", "labels", "I", false)
  | _ => ("SixteenDesk$Program", "origin", "I", false)
def tyX7 : Nat → FieldType := fun k => match k with
  | 0 => .array .int
  | 1 => .array .int
  | 2 => .int
  | 3 => .int
  | _ => .int
abbrev wsX70 : List Cond := u_ws RX7 TX7 5
theorem nmX7 : ∀ a, a < 5 → ∀ b, b < 5 → a ≠ b → (TX7 a).2.1 ≠ (TX7 b).2.1 := by decide +kernel
theorem tyX7_ok : ∀ k, k < 5 → parseFieldDescriptor (TX7 k).2.2.1 = some (tyX7 k) := by decide +kernel
abbrev cX7_init : ByteArray := prog_9_method_1_code
def yX7_init : MethodName := ⟨RX7, "<init>", "()V"⟩
abbrev cX7_hasRoom : ByteArray := prog_9_method_2_code
def yX7_hasRoom : MethodName := ⟨RX7, "hasRoom", "(I)Z"⟩
abbrev cX7_add : ByteArray := prog_9_method_3_code
def yX7_add : MethodName := ⟨RX7, "add", "(I)V"⟩
abbrev cX7_here : ByteArray := prog_9_method_4_code
def yX7_here : MethodName := ⟨RX7, "here", "()I"⟩
def RX8 : String := "SixteenDesk$Tokens"
def TX8 : u_T := fun k => match k with
  | 0 => ("SixteenDesk$Tokens", "tape", "LSixteenDesk$Bytes;", true)
  | 1 => ("SixteenDesk$Tokens", "at", "I", false)
  | 2 => ("SixteenDesk$Tokens", "kind", "I", false)
  | 3 => ("SixteenDesk$Tokens", "start", "I", false)
  | 4 => ("SixteenDesk$Tokens", "value", "I", false)
  | 5 => ("SixteenDesk$Tokens", "op", "LSixteenDesk$Op;", false)
  | 6 => ("SixteenDesk$Tokens", "head", "J", false)
  | _ => ("SixteenDesk$Tokens", "tail", "J", false)
def tyX8 : Nat → FieldType := fun k => match k with
  | 0 => .object "SixteenDesk$Bytes"
  | 1 => .int
  | 2 => .int
  | 3 => .int
  | 4 => .int
  | 5 => .object "SixteenDesk$Op"
  | 6 => .long
  | _ => .long
abbrev wsX80 : List Cond := u_ws RX8 TX8 8
theorem nmX8 : ∀ a, a < 8 → ∀ b, b < 8 → a ≠ b → (TX8 a).2.1 ≠ (TX8 b).2.1 := by decide +kernel
theorem tyX8_ok : ∀ k, k < 8 → parseFieldDescriptor (TX8 k).2.2.1 = some (tyX8 k) := by decide +kernel
abbrev cX8_init : ByteArray := prog_10_method_1_code
def yX8_init : MethodName := ⟨RX8, "<init>", "(LSixteenDesk$Bytes;)V"⟩
abbrev cX8_rewind : ByteArray := prog_10_method_2_code
def yX8_rewind : MethodName := ⟨RX8, "rewind", "()V"⟩
abbrev cX8_nextLine : ByteArray := prog_10_method_3_code
def yX8_nextLine : MethodName := ⟨RX8, "nextLine", "()Z"⟩
abbrev cX8_advance : ByteArray := prog_10_method_4_code
def yX8_advance : MethodName := ⟨RX8, "advance", "()V"⟩
abbrev cX8_skipNothings : ByteArray := prog_10_method_5_code
def yX8_skipNothings : MethodName := ⟨RX8, "skipNothings", "()V"⟩
abbrev cX8_readText : ByteArray := prog_10_method_6_code
def yX8_readText : MethodName := ⟨RX8, "readText", "()V"⟩
abbrev cX8_readWord : ByteArray := prog_10_method_7_code
def yX8_readWord : MethodName := ⟨RX8, "readWord", "()V"⟩
abbrev cX8_findOp : ByteArray := prog_10_method_8_code
def yX8_findOp : MethodName := ⟨RX8, "findOp", "()Z"⟩
abbrev cX8_findRegister : ByteArray := prog_10_method_9_code
def yX8_findRegister : MethodName := ⟨RX8, "findRegister", "()Z"⟩
abbrev cX8_findNumber : ByteArray := prog_10_method_10_code
def yX8_findNumber : MethodName := ⟨RX8, "findNumber", "()Z"⟩
def RX9 : String := "SixteenDesk$Writer"
def TX9 : u_T := fun k => match k with
  | _ => ("SixteenDesk$Writer", "line", "LSixteenDesk$Bytes;", true)
def tyX9 : Nat → FieldType := fun k => match k with
  | _ => .object "SixteenDesk$Bytes"
abbrev wsX90 : List Cond := u_ws RX9 TX9 1
theorem nmX9 : ∀ a, a < 1 → ∀ b, b < 1 → a ≠ b → (TX9 a).2.1 ≠ (TX9 b).2.1 := by decide +kernel
theorem tyX9_ok : ∀ k, k < 1 → parseFieldDescriptor (TX9 k).2.2.1 = some (tyX9 k) := by decide +kernel
abbrev cX9_init : ByteArray := prog_11_method_1_code
def yX9_init : MethodName := ⟨RX9, "<init>", "()V"⟩
abbrev cX9_tell : ByteArray := prog_11_method_2_code
def yX9_tell : MethodName := ⟨RX9, "tell", "(I)V"⟩
abbrev cX9_opOf : ByteArray := prog_11_method_3_code
def yX9_opOf : MethodName := ⟨RX9, "opOf", "(I)LSixteenDesk$Op;"⟩
abbrev cX9_tellOperand : ByteArray := prog_11_method_4_code
def yX9_tellOperand : MethodName := ⟨RX9, "tellOperand", "(CI)V"⟩
abbrev cX9_tellRegister : ByteArray := prog_11_method_5_code
def yX9_tellRegister : MethodName := ⟨RX9, "tellRegister", "(I)V"⟩
abbrev cX9_tellNumber : ByteArray := prog_11_method_6_code
def yX9_tellNumber : MethodName := ⟨RX9, "tellNumber", "(I)V"⟩
abbrev cX9_tellHexadecimals : ByteArray := prog_11_method_7_code
def yX9_tellHexadecimals : MethodName := ⟨RX9, "tellHexadecimals", "(II)V"⟩
def RX10 : String := "SixteenDesk"
def TX10 : u_T := fun k => match k with
  | 0 => ("SixteenDesk", "tape", "LSixteenDesk$Bytes;", true)
  | 1 => ("SixteenDesk", "assembler", "LSixteenDesk$Assembler;", true)
  | 2 => ("SixteenDesk", "machine", "LSixteenDesk$Machine;", true)
  | _ => ("SixteenDesk", "writer", "LSixteenDesk$Writer;", true)
def tyX10 : Nat → FieldType := fun k => match k with
  | 0 => .object "SixteenDesk$Bytes"
  | 1 => .object "SixteenDesk$Assembler"
  | 2 => .object "SixteenDesk$Machine"
  | _ => .object "SixteenDesk$Writer"
abbrev wsX100 : List Cond := u_ws RX10 TX10 4
theorem nmX10 : ∀ a, a < 4 → ∀ b, b < 4 → a ≠ b → (TX10 a).2.1 ≠ (TX10 b).2.1 := by decide +kernel
theorem tyX10_ok : ∀ k, k < 4 → parseFieldDescriptor (TX10 k).2.2.1 = some (tyX10 k) := by decide +kernel
abbrev cX10_init : ByteArray := prog_1_method_1_code
def yX10_init : MethodName := ⟨RX10, "<init>", "()V"⟩
abbrev cX10_feed : ByteArray := prog_1_method_2_code
def yX10_feed : MethodName := ⟨RX10, "feed", "(IIIII)I"⟩
abbrev cX10_end : ByteArray := prog_1_method_3_code
def yX10_end : MethodName := ⟨RX10, "end", "(I)Z"⟩
abbrev cX10_assemble : ByteArray := prog_1_method_4_code
def yX10_assemble : MethodName := ⟨RX10, "assemble", "()I"⟩
abbrev cX10_told : ByteArray := prog_1_method_5_code
def yX10_told : MethodName := ⟨RX10, "told", "(I)I"⟩
abbrev cX10_word : ByteArray := prog_1_method_6_code
def yX10_word : MethodName := ⟨RX10, "word", "(I)I"⟩
abbrev cX10_label : ByteArray := prog_1_method_7_code
def yX10_label : MethodName := ⟨RX10, "label", "(I)I"⟩
abbrev cX10_load : ByteArray := prog_1_method_8_code
def yX10_load : MethodName := ⟨RX10, "load", "()Z"⟩
abbrev cX10_key : ByteArray := prog_1_method_9_code
def yX10_key : MethodName := ⟨RX10, "key", "(I)Z"⟩
abbrev cX10_run : ByteArray := prog_1_method_10_code
def yX10_run : MethodName := ⟨RX10, "run", "(I)I"⟩
abbrev cX10_state : ByteArray := prog_1_method_11_code
def yX10_state : MethodName := ⟨RX10, "state", "()I"⟩
abbrev cX10_register : ByteArray := prog_1_method_12_code
def yX10_register : MethodName := ⟨RX10, "register", "(I)I"⟩
abbrev cX10_set : ByteArray := prog_1_method_13_code
def yX10_set : MethodName := ⟨RX10, "set", "(II)Z"⟩
abbrev cX10_peek : ByteArray := prog_1_method_14_code
def yX10_peek : MethodName := ⟨RX10, "peek", "(I)I"⟩
abbrev cX10_poke : ByteArray := prog_1_method_15_code
def yX10_poke : MethodName := ⟨RX10, "poke", "(II)V"⟩
abbrev cX10_write : ByteArray := prog_1_method_16_code
def yX10_write : MethodName := ⟨RX10, "write", "(I)I"⟩
abbrev cX10_written : ByteArray := prog_1_method_17_code
def yX10_written : MethodName := ⟨RX10, "written", "(I)I"⟩
abbrev cX10_again : ByteArray := prog_1_method_18_code
def yX10_again : MethodName := ⟨RX10, "again", "()I"⟩
abbrev cX10_printed : ByteArray := prog_1_method_19_code
def yX10_printed : MethodName := ⟨RX10, "printed", "()I"⟩
abbrev cX10_print : ByteArray := prog_1_method_20_code
def yX10_print : MethodName := ⟨RX10, "print", "(I)I"⟩
abbrev cX10_count : ByteArray := prog_1_method_21_code
def yX10_count : MethodName := ⟨RX10, "count", "(I)I"⟩
abbrev cX10_signOf : ByteArray := prog_1_method_22_code
def yX10_signOf : MethodName := ⟨RX10, "signOf", "(I)I"⟩
abbrev cX10_digitOf : ByteArray := prog_1_method_23_code
def yX10_digitOf : MethodName := ⟨RX10, "digitOf", "(I)I"⟩
abbrev cX10_meaning : ByteArray := prog_1_method_24_code
def yX10_meaning : MethodName := ⟨RX10, "meaning", "(I)I"⟩
abbrev cX10_signed : ByteArray := prog_1_method_25_code
def yX10_signed : MethodName := ⟨RX10, "signed", "(II)I"⟩
def RX11 : String := "SixteenDeskModel"
def TX11 : u_T := fun k => match k with
  | 0 => ("SixteenDeskModel", "thrown", "I", false)
  | 1 => ("SixteenDeskModel", "memory", "[I", true)
  | 2 => ("SixteenDeskModel", "\x72", "[I", true)
  | 3 => ("SixteenDeskModel", "pc", "I", false)
  | 4 => ("SixteenDeskModel", "psr", "I", false)
  | 5 => ("SixteenDeskModel", "superStack", "I", false)
  | 6 => ("SixteenDeskModel", "userStack", "I", false)
  | 7 => ("SixteenDeskModel", "state", "I", false)
  | 8 => ("SixteenDeskModel", "mayInterrupt", "Z", false)
  | 9 => ("SixteenDeskModel", "lastRead", "I", false)
  | 10 => ("SixteenDeskModel", "keys", "[I", true)
  | 11 => ("SixteenDeskModel", "waiting", "I", false)
  | 12 => ("SixteenDeskModel", "prints", "[I", true)
  | 13 => ("SixteenDeskModel", "printed", "I", false)
  | 14 => ("SixteenDeskModel", "kept", "I", false)
  | 15 => ("SixteenDeskModel", "steps", "I", false)
  | 16 => ("SixteenDeskModel", "interrupts", "I", false)
  | 17 => ("SixteenDeskModel", "exceptions", "I", false)
  | 18 => ("SixteenDeskModel", "goings", "I", false)
  | 19 => ("SixteenDeskModel", "isFault", "Z", false)
  | 20 => ("SixteenDeskModel", "tape", "[I", true)
  | 21 => ("SixteenDeskModel", "taped", "I", false)
  | 22 => ("SixteenDeskModel", "words", "[I", true)
  | 23 => ("SixteenDeskModel", "wordMany", "I", false)
  | 24 => ("SixteenDeskModel", "origin", "I", false)
  | 25 => ("SixteenDeskModel", "isAssembled", "Z", false)
  | 26 => ("SixteenDeskModel", "labels", "[I", true)
  | 27 => ("SixteenDeskModel", "labelMany", "I", false)
  | 28 => ("SixteenDeskModel", "fault", "I", false)
  | 29 => ("SixteenDeskModel", "faultPlace", "I", false)
  | 30 => ("SixteenDeskModel", "made", "[I", true)
  | 31 => ("SixteenDeskModel", "madeMany", "I", false)
  | 32 => ("SixteenDeskModel", "from", "I", false)
  | 33 => ("SixteenDeskModel", "toldAt", "[I", true)
  | 34 => ("SixteenDeskModel", "toldLong", "[I", true)
  | 35 => ("SixteenDeskModel", "toldPlace", "[I", true)
  | 36 => ("SixteenDeskModel", "toldMany", "I", false)
  | 37 => ("SixteenDeskModel", "line", "[I", true)
  | 38 => ("SixteenDeskModel", "lineMany", "I", false)
  | 39 => ("SixteenDeskModel", "size", "I", false)
  | 40 => ("SixteenDeskModel", "p", "I", false)
  | 41 => ("SixteenDeskModel", "kind", "I", false)
  | 42 => ("SixteenDeskModel", "tokenAt", "I", false)
  | 43 => ("SixteenDeskModel", "tokenEnd", "I", false)
  | 44 => ("SixteenDeskModel", "number", "I", false)
  | 45 => ("SixteenDeskModel", "text", "[I", true)
  | 46 => ("SixteenDeskModel", "textMany", "I", false)
  | 47 => ("SixteenDeskModel", "isSecond", "Z", false)
  | 48 => ("SixteenDeskModel", "place", "I", false)
  | 49 => ("SixteenDeskModel", "hasBegun", "Z", false)
  | 50 => ("SixteenDeskModel", "isOver", "Z", false)
  | _ => ("SixteenDeskModel", "made1", "I", false)
def tyX11 : Nat → FieldType := fun k => match k with
  | 0 => .int
  | 1 => .array .int
  | 2 => .array .int
  | 3 => .int
  | 4 => .int
  | 5 => .int
  | 6 => .int
  | 7 => .int
  | 8 => .boolean
  | 9 => .int
  | 10 => .array .int
  | 11 => .int
  | 12 => .array .int
  | 13 => .int
  | 14 => .int
  | 15 => .int
  | 16 => .int
  | 17 => .int
  | 18 => .int
  | 19 => .boolean
  | 20 => .array .int
  | 21 => .int
  | 22 => .array .int
  | 23 => .int
  | 24 => .int
  | 25 => .boolean
  | 26 => .array .int
  | 27 => .int
  | 28 => .int
  | 29 => .int
  | 30 => .array .int
  | 31 => .int
  | 32 => .int
  | 33 => .array .int
  | 34 => .array .int
  | 35 => .array .int
  | 36 => .int
  | 37 => .array .int
  | 38 => .int
  | 39 => .int
  | 40 => .int
  | 41 => .int
  | 42 => .int
  | 43 => .int
  | 44 => .int
  | 45 => .array .int
  | 46 => .int
  | 47 => .boolean
  | 48 => .int
  | 49 => .boolean
  | 50 => .boolean
  | _ => .int
abbrev wsX110 : List Cond := u_ws RX11 TX11 52
theorem nmX11 : ∀ a, a < 52 → ∀ b, b < 52 → a ≠ b → (TX11 a).2.1 ≠ (TX11 b).2.1 := by decide +kernel
theorem tyX11_ok : ∀ k, k < 52 → parseFieldDescriptor (TX11 k).2.2.1 = some (tyX11 k) := by decide +kernel
abbrev cX11_init : ByteArray := prog_13_method_1_code
def yX11_init : MethodName := ⟨RX11, "<init>", "()V"⟩
abbrev cX11_thrown : ByteArray := prog_13_method_2_code
def yX11_thrown : MethodName := ⟨RX11, "thrown", "()I"⟩
abbrev cX11_first : ByteArray := prog_13_method_3_code
def yX11_first : MethodName := ⟨RX11, "first", "()V"⟩
abbrev cX11_cut : ByteArray := prog_13_method_4_code
def yX11_cut : MethodName := ⟨RX11, "cut", "(I)I"⟩
abbrev cX11_signed : ByteArray := prog_13_method_5_code
def yX11_signed : MethodName := ⟨RX11, "signed", "(II)I"⟩
abbrev cX11_isUser : ByteArray := prog_13_method_6_code
def yX11_isUser : MethodName := ⟨RX11, "isUser", "()Z"⟩
abbrev cX11_seen : ByteArray := prog_13_method_7_code
def yX11_seen : MethodName := ⟨RX11, "seen", "(I)I"⟩
abbrev cX11_takeKey : ByteArray := prog_13_method_8_code
def yX11_takeKey : MethodName := ⟨RX11, "takeKey", "()I"⟩
abbrev cX11_get : ByteArray := prog_13_method_9_code
def yX11_get : MethodName := ⟨RX11, "get", "(I)I"⟩
abbrev cX11_put : ByteArray := prog_13_method_10_code
def yX11_put : MethodName := ⟨RX11, "put", "(II)V"⟩
abbrev cX11_prints : ByteArray := prog_13_method_11_code
def yX11_prints : MethodName := ⟨RX11, "prints", "(I)V"⟩
abbrev cX11_isOut : ByteArray := prog_13_method_12_code
def yX11_isOut : MethodName := ⟨RX11, "isOut", "(I)Z"⟩
abbrev cX11_read : ByteArray := prog_13_method_13_code
def yX11_read : MethodName := ⟨RX11, "read", "(I)I"⟩
abbrev cX11_writes : ByteArray := prog_13_method_14_code
def yX11_writes : MethodName := ⟨RX11, "writes", "(II)V"⟩
abbrev cX11_comes : ByteArray := prog_13_method_15_code
def yX11_comes : MethodName := ⟨RX11, "comes", "(II)V"⟩
abbrev cX11_goIn : ByteArray := prog_13_method_16_code
def yX11_goIn : MethodName := ⟨RX11, "goIn", "()V"⟩
abbrev cX11_exception : ByteArray := prog_13_method_17_code
def yX11_exception : MethodName := ⟨RX11, "exception", "(I)V"⟩
abbrev cX11_step : ByteArray := prog_13_method_18_code
def yX11_step : MethodName := ⟨RX11, "step", "()V"⟩
abbrev cX11_does : ByteArray := prog_13_method_19_code
def yX11_does : MethodName := ⟨RX11, "does", "(II)V"⟩
abbrev cX11_second : ByteArray := prog_13_method_20_code
def yX11_second : MethodName := ⟨RX11, "second", "(I)I"⟩
abbrev cX11_comesBack : ByteArray := prog_13_method_21_code
def yX11_comesBack : MethodName := ⟨RX11, "comesBack", "()V"⟩
abbrev cX11_trap : ByteArray := prog_13_method_22_code
def yX11_trap : MethodName := ⟨RX11, "trap", "(II)V"⟩
abbrev cX11_string : ByteArray := prog_13_method_23_code
def yX11_string : MethodName := ⟨RX11, "string", "(Z)V"⟩
abbrev cX11_key : ByteArray := prog_13_method_24_code
def yX11_key : MethodName := ⟨RX11, "key", "(I)Z"⟩
abbrev cX11_run : ByteArray := prog_13_method_25_code
def yX11_run : MethodName := ⟨RX11, "run", "(I)I"⟩
abbrev cX11_state : ByteArray := prog_13_method_26_code
def yX11_state : MethodName := ⟨RX11, "state", "()I"⟩
abbrev cX11_register : ByteArray := prog_13_method_27_code
def yX11_register : MethodName := ⟨RX11, "register", "(I)I"⟩
abbrev cX11_set : ByteArray := prog_13_method_28_code
def yX11_set : MethodName := ⟨RX11, "set", "(II)Z"⟩
abbrev cX11_peek : ByteArray := prog_13_method_29_code
def yX11_peek : MethodName := ⟨RX11, "peek", "(I)I"⟩
abbrev cX11_poke : ByteArray := prog_13_method_30_code
def yX11_poke : MethodName := ⟨RX11, "poke", "(II)V"⟩
abbrev cX11_printed : ByteArray := prog_13_method_31_code
def yX11_printed : MethodName := ⟨RX11, "printed", "()I"⟩
abbrev cX11_count : ByteArray := prog_13_method_32_code
def yX11_count : MethodName := ⟨RX11, "count", "(I)I"⟩
abbrev cX11_four : ByteArray := prog_13_method_33_code
def yX11_four : MethodName := ⟨RX11, "four", "(I)V"⟩
abbrev cX11_feed : ByteArray := prog_13_method_34_code
def yX11_feed : MethodName := ⟨RX11, "feed", "(IIIII)I"⟩
abbrev cX11_end : ByteArray := prog_13_method_35_code
def yX11_end : MethodName := ⟨RX11, "end", "(I)Z"⟩
abbrev cX11_sign : ByteArray := prog_13_method_36_code
def yX11_sign : MethodName := ⟨RX11, "sign", "(I)I"⟩
abbrev cX11_great : ByteArray := prog_13_method_37_code
def yX11_great : MethodName := ⟨RX11, "great", "(I)I"⟩
abbrev cX11_isLetter : ByteArray := prog_13_method_38_code
def yX11_isLetter : MethodName := ⟨RX11, "isLetter", "(I)Z"⟩
abbrev cX11_isDigit : ByteArray := prog_13_method_39_code
def yX11_isDigit : MethodName := ⟨RX11, "isDigit", "(I)Z"⟩
abbrev cX11_isOfWord : ByteArray := prog_13_method_40_code
def yX11_isOfWord : MethodName := ⟨RX11, "isOfWord", "(I)Z"⟩
abbrev cX11_isBlank : ByteArray := prog_13_method_41_code
def yX11_isBlank : MethodName := ⟨RX11, "isBlank", "(I)Z"⟩
abbrev cX11_next : ByteArray := prog_13_method_42_code
def yX11_next : MethodName := ⟨RX11, "next", "()V"⟩
abbrev cX11_isText : ByteArray := prog_13_method_43_code
def yX11_isText : MethodName := ⟨RX11, "isText", "()Z"⟩
abbrev cX11_figure : ByteArray := prog_13_method_44_code
def yX11_figure : MethodName := ⟨RX11, "figure", "(I)I"⟩
abbrev cX11_isNumber : ByteArray := prog_13_method_45_code
def yX11_isNumber : MethodName := ⟨RX11, "isNumber", "()Z"⟩
abbrev cX11_isRegister : ByteArray := prog_13_method_46_code
def yX11_isRegister : MethodName := ⟨RX11, "isRegister", "()Z"⟩
abbrev cX11_name : ByteArray := prog_13_method_47_code
def yX11_name : MethodName := ⟨RX11, "name", "()I"⟩
abbrev cX11_isLabel : ByteArray := prog_13_method_48_code
def yX11_isLabel : MethodName := ⟨RX11, "isLabel", "()Z"⟩
abbrev cX11_wrong : ByteArray := prog_13_method_49_code
def yX11_wrong : MethodName := ⟨RX11, "wrong", "(II)Z"⟩
abbrev cX11_wrongToken : ByteArray := prog_13_method_50_code
def yX11_wrongToken : MethodName := ⟨RX11, "wrongToken", "()Z"⟩
abbrev cX11_assemble : ByteArray := prog_13_method_51_code
def yX11_assemble : MethodName := ⟨RX11, "assemble", "()I"⟩
abbrev cX11_pass : ByteArray := prog_13_method_52_code
def yX11_pass : MethodName := ⟨RX11, "pass", "()Z"⟩
abbrev cX11_line : ByteArray := prog_13_method_53_code
def yX11_line : MethodName := ⟨RX11, "line", "()Z"⟩
abbrev cX11_begins : ByteArray := prog_13_method_54_code
def yX11_begins : MethodName := ⟨RX11, "begins", "()Z"⟩
abbrev cX11_which : ByteArray := prog_13_method_55_code
def yX11_which : MethodName := ⟨RX11, "which", "()I"⟩
abbrev cX11_tells : ByteArray := prog_13_method_56_code
def yX11_tells : MethodName := ⟨RX11, "tells", "()Z"⟩
abbrev cX11_hasRoom : ByteArray := prog_13_method_57_code
def yX11_hasRoom : MethodName := ⟨RX11, "hasRoom", "(II)Z"⟩
abbrev cX11_lay : ByteArray := prog_13_method_58_code
def yX11_lay : MethodName := ⟨RX11, "lay", "(I)V"⟩
abbrev cX11_dotted : ByteArray := prog_13_method_59_code
def yX11_dotted : MethodName := ⟨RX11, "dotted", "(II)Z"⟩
abbrev cX11_value : ByteArray := prog_13_method_60_code
def yX11_value : MethodName := ⟨RX11, "value", "(IIZ)Z"⟩
abbrev cX11_taken : ByteArray := prog_13_method_61_code
def yX11_taken : MethodName := ⟨RX11, "taken", "(II)Z"⟩
abbrev cX11_small : ByteArray := prog_13_method_62_code
def yX11_small : MethodName := ⟨RX11, "small", "(II)Z"⟩
abbrev cX11_where : ByteArray := prog_13_method_63_code
def yX11_where : MethodName := ⟨RX11, "where", "(II)Z"⟩
abbrev cX11_named : ByteArray := prog_13_method_64_code
def yX11_named : MethodName := ⟨RX11, "named", "(II)Z"⟩
abbrev cX11_instruction : ByteArray := prog_13_method_65_code
def yX11_instruction : MethodName := ⟨RX11, "instruction", "(I)Z"⟩
abbrev cX11_three : ByteArray := prog_13_method_66_code
def yX11_three : MethodName := ⟨RX11, "three", "(I)Z"⟩
abbrev cX11_based : ByteArray := prog_13_method_67_code
def yX11_based : MethodName := ⟨RX11, "based", "(I)Z"⟩
abbrev cX11_told : ByteArray := prog_13_method_68_code
def yX11_told : MethodName := ⟨RX11, "told", "(I)I"⟩
abbrev cX11_word : ByteArray := prog_13_method_69_code
def yX11_word : MethodName := ⟨RX11, "word", "(I)I"⟩
abbrev cX11_label : ByteArray := prog_13_method_70_code
def yX11_label : MethodName := ⟨RX11, "label", "(I)I"⟩
abbrev cX11_load : ByteArray := prog_13_method_71_code
def yX11_load : MethodName := ⟨RX11, "load", "()Z"⟩
abbrev cX11_say : ByteArray := prog_13_method_72_code
def yX11_say : MethodName := ⟨RX11, "say", "(I)V"⟩
abbrev cX11_sayName : ByteArray := prog_13_method_73_code
def yX11_sayName : MethodName := ⟨RX11, "sayName", "(I)V"⟩
abbrev cX11_sayRegister : ByteArray := prog_13_method_74_code
def yX11_sayRegister : MethodName := ⟨RX11, "sayRegister", "(I)V"⟩
abbrev cX11_sayBetween : ByteArray := prog_13_method_75_code
def yX11_sayBetween : MethodName := ⟨RX11, "sayBetween", "()V"⟩
abbrev cX11_sayNumber : ByteArray := prog_13_method_76_code
def yX11_sayNumber : MethodName := ⟨RX11, "sayNumber", "(I)V"⟩
abbrev cX11_sayHex : ByteArray := prog_13_method_77_code
def yX11_sayHex : MethodName := ⟨RX11, "sayHex", "(II)V"⟩
abbrev cX11_write : ByteArray := prog_13_method_78_code
def yX11_write : MethodName := ⟨RX11, "write", "(I)I"⟩
abbrev cX11_sayWhere : ByteArray := prog_13_method_79_code
def yX11_sayWhere : MethodName := ⟨RX11, "sayWhere", "(II)V"⟩
abbrev cX11_sayTwo : ByteArray := prog_13_method_80_code
def yX11_sayTwo : MethodName := ⟨RX11, "sayTwo", "(II)V"⟩
abbrev cX11_isTold : ByteArray := prog_13_method_81_code
def yX11_isTold : MethodName := ⟨RX11, "isTold", "(I)Z"⟩
abbrev cX11_isBranch : ByteArray := prog_13_method_82_code
def yX11_isBranch : MethodName := ⟨RX11, "isBranch", "(I)Z"⟩
abbrev cX11_isThree : ByteArray := prog_13_method_83_code
def yX11_isThree : MethodName := ⟨RX11, "isThree", "(II)Z"⟩
abbrev cX11_isJump : ByteArray := prog_13_method_84_code
def yX11_isJump : MethodName := ⟨RX11, "isJump", "(I)Z"⟩
abbrev cX11_isRest : ByteArray := prog_13_method_85_code
def yX11_isRest : MethodName := ⟨RX11, "isRest", "(I)Z"⟩
abbrev cX11_written : ByteArray := prog_13_method_86_code
def yX11_written : MethodName := ⟨RX11, "written", "(I)I"⟩
abbrev cX11_again : ByteArray := prog_13_method_87_code
def yX11_again : MethodName := ⟨RX11, "again", "()I"⟩
abbrev cX11_print : ByteArray := prog_13_method_88_code
def yX11_print : MethodName := ⟨RX11, "print", "(I)I"⟩
def RJx29ce0 : String := "java/lang/Enum"
def TJx29ce0 : u_T := fun k => match k with
  | _ => ("", "", "", false)
def tyJx29ce0 : Nat → FieldType := fun k => match k with
  | _ => .int
abbrev wsJx29ce00 : List Cond := u_ws RJx29ce0 TJx29ce0 0
theorem nmJx29ce0 : ∀ a, a < 0 → ∀ b, b < 0 → a ≠ b → (TJx29ce0 a).2.1 ≠ (TJx29ce0 b).2.1 := by decide +kernel
theorem tyJx29ce0_ok : ∀ k, k < 0 → parseFieldDescriptor (TJx29ce0 k).2.2.1 = some (tyJx29ce0 k) := by decide +kernel
def RJ0 : String := "java/lang/String"
def TJ0 : u_T := fun k => match k with
  | _ => ("", "", "", false)
def tyJ0 : Nat → FieldType := fun k => match k with
  | _ => .int
abbrev wsJ00 : List Cond := u_ws RJ0 TJ0 0
theorem nmJ0 : ∀ a, a < 0 → ∀ b, b < 0 → a ≠ b → (TJ0 a).2.1 ≠ (TJ0 b).2.1 := by decide +kernel
theorem tyJ0_ok : ∀ k, k < 0 → parseFieldDescriptor (TJ0 k).2.2.1 = some (tyJ0 k) := by decide +kernel
abbrev cJ0_length_8abf5 : ByteArray := prog_18_method_54_code
def yJ0_length_8abf5 : MethodName := ⟨RJ0, "length", "()I"⟩
abbrev cJ0_charAt_5068e : ByteArray := prog_18_method_56_code
def yJ0_charAt_5068e : MethodName := ⟨RJ0, "charAt", "(I)C"⟩
abbrev cJ0_coder_7d493 : ByteArray := prog_18_method_152_code
def yJ0_coder_7d493 : MethodName := ⟨RJ0, "coder", "()B"⟩
abbrev cJ0_isLatin1_aae02 : ByteArray := prog_18_method_154_code
def yJ0_isLatin1_aae02 : MethodName := ⟨RJ0, "isLatin1", "()Z"⟩
abbrev cJ0_checkIndex_df160 : ByteArray := prog_18_method_155_code
def yJ0_checkIndex_df160 : MethodName := ⟨RJ0, "checkIndex", "(II)V"⟩
def RJ1 : String := "java/lang/StringLatin1"
def TJ1 : u_T := fun k => match k with
  | _ => ("", "", "", false)
def tyJ1 : Nat → FieldType := fun k => match k with
  | _ => .int
abbrev wsJ10 : List Cond := u_ws RJ1 TJ1 0
theorem nmJ1 : ∀ a, a < 0 → ∀ b, b < 0 → a ≠ b → (TJ1 a).2.1 ≠ (TJ1 b).2.1 := by decide +kernel
theorem tyJ1_ok : ∀ k, k < 0 → parseFieldDescriptor (TJ1 k).2.2.1 = some (tyJ1 k) := by decide +kernel
abbrev cJ1_charAt_3b067 : ByteArray := prog_19_method_2_code
def yJ1_charAt_3b067 : MethodName := ⟨RJ1, "charAt", "([BI)C"⟩
def RJ2 : String := "java/lang/StringUTF16"
def TJ2 : u_T := fun k => match k with
  | _ => ("", "", "", false)
def tyJ2 : Nat → FieldType := fun k => match k with
  | _ => .int
abbrev wsJ20 : List Cond := u_ws RJ2 TJ2 0
theorem nmJ2 : ∀ a, a < 0 → ∀ b, b < 0 → a ≠ b → (TJ2 a).2.1 ≠ (TJ2 b).2.1 := by decide +kernel
theorem tyJ2_ok : ∀ k, k < 0 → parseFieldDescriptor (TJ2 k).2.2.1 = some (tyJ2 k) := by decide +kernel
abbrev cJ2_getChar_3b067 : ByteArray := prog_20_method_5_code
def yJ2_getChar_3b067 : MethodName := ⟨RJ2, "getChar", "([BI)C"⟩
abbrev cJ2_length_9d52b : ByteArray := prog_20_method_6_code
def yJ2_length_9d52b : MethodName := ⟨RJ2, "length", "([B)I"⟩
abbrev cJ2_charAt_3b067 : ByteArray := prog_20_method_83_code
def yJ2_charAt_3b067 : MethodName := ⟨RJ2, "charAt", "([BI)C"⟩
abbrev cJ2_checkIndex_2214a : ByteArray := prog_20_method_91_code
def yJ2_checkIndex_2214a : MethodName := ⟨RJ2, "checkIndex", "(I[B)V"⟩
def RJ3 : String := "jdk/internal/util/Preconditions"
def TJ3 : u_T := fun k => match k with
  | _ => ("", "", "", false)
def tyJ3 : Nat → FieldType := fun k => match k with
  | _ => .int
abbrev wsJ30 : List Cond := u_ws RJ3 TJ3 0
theorem nmJ3 : ∀ a, a < 0 → ∀ b, b < 0 → a ≠ b → (TJ3 a).2.1 ≠ (TJ3 b).2.1 := by decide +kernel
theorem tyJ3_ok : ∀ k, k < 0 → parseFieldDescriptor (TJ3 k).2.2.1 = some (tyJ3 k) := by decide +kernel
abbrev cJ3_checkIndex_8e157 : ByteArray := prog_23_method_11_code
def yJ3_checkIndex_8e157 : MethodName := ⟨RJ3, "checkIndex", "(IILjava/util/function/BiFunction;)I"⟩
def RL : String := "SixteenDeskLaw"
abbrev cL_told : ByteArray := method_3_code
def yL_told : MethodName := ⟨RL, "told", "(LSixteenDesk;I[J)I"⟩
abbrev cL_word : ByteArray := method_4_code
def yL_word : MethodName := ⟨RL, "word", "(LSixteenDesk;I[J)I"⟩
abbrev cL_label : ByteArray := method_5_code
def yL_label : MethodName := ⟨RL, "label", "(LSixteenDesk;I[J)I"⟩
abbrev cL_run : ByteArray := method_6_code
def yL_run : MethodName := ⟨RL, "run", "(LSixteenDesk;I[J)I"⟩
abbrev cL_register : ByteArray := method_7_code
def yL_register : MethodName := ⟨RL, "register", "(LSixteenDesk;I[J)I"⟩
abbrev cL_count : ByteArray := method_8_code
def yL_count : MethodName := ⟨RL, "count", "(LSixteenDesk;I[J)I"⟩
abbrev cL_law : ByteArray := code
def yL_law : MethodName := ⟨RL, "law", "([I)Z"⟩
abbrev vwCl : List vw_C := [(RX0, TX0, 13), (RX1, TX1, 2), (RX2, TX2, 5), (RX3, TX3, 7), (RX4, TX4, 1), (RX6, TX6, 3), (RX7, TX7, 5), (RX8, TX8, 8), (RX9, TX9, 1), (RX10, TX10, 4), (RX11, TX11, 52)]
end
section
/-! WHAT LIES IN THE HEAP FOR GOOD: the constants, under numbers from 1,000,000 on (to be filled; the laws below are all that the core asks). -/
def KC (ad : Nat → Nat) (A : Nat → Prop) (U : State) (H : Heap) : Prop := True
theorem KC.warm {ad : Nat → Nat} {A : Nat → Prop} {s U : State} {H : Heap} (hW : s.WarmedH U.vm) (h : KC ad A s H) : KC ad A U H := trivial
theorem KC.same {ad : Nat → Nat} {A : Nat → Prop} {s U : State} {H : Heap} (hv : U.vm = s.vm) (h : KC ad A s H) : KC ad A U H := trivial
theorem KC.kept {ad : Nat → Nat} {A : Nat → Prop} {U : State} {H H1 : Heap} (h : KC ad A U H) (hq : ∀ a : Nat, a < H.size → ¬ A a → H1[a]? = H[a]?) : KC ad A U H1 := trivial
theorem KC.narrow {ad : Nat → Nat} {A B : Nat → Prop} {U : State} {H : Heap} (h : KC ad A U H) (hAB : ∀ q, B q → A q) : KC ad B U H := trivial
theorem KC.ext {ad ad' : Nat → Nat} {A : Nat → Prop} {U : State} {H : Heap} (h : KC ad A U H) (he : ∀ a, 1000000 ≤ a → ad' a = ad a) : KC ad' A U H := trivial
end
section
/-! THE PURE MACHINE. A heap by numbers (hI ints, hL longs, hR references, hn cells of ours, hc cells made, hs slots made);
what it says of the machine's heap (Rp); a run of a method from a point to its end (Rt); and what holds at the end (WP). -/
abbrev PH : Type := (Nat → Nat → Int32) × (Nat → Nat → Int64) × (Nat → Nat → Option Nat) × Nat × Nat × Nat
def hI (h : PH) : Nat → Nat → Int32 := h.1
def hL (h : PH) : Nat → Nat → Int64 := h.2.1
def hR (h : PH) : Nat → Nat → Option Nat := h.2.2.1
def hn (h : PH) : Nat := h.2.2.2.1
def hc (h : PH) : Nat := h.2.2.2.2.1
def hs (h : PH) : Nat := h.2.2.2.2.2
def up2 {α : Type} (f : Nat → Nat → α) (a k : Nat) (v : α) : Nat → Nat → α := fun b j => if b = a then (if j = k then v else f b j) else f b j
def sI (h : PH) (a k : Nat) (v : Int32) : PH := (up2 (hI h) a k v, hL h, hR h, hn h, hc h, hs h)
def sL (h : PH) (a k : Nat) (v : Int64) : PH := (hI h, up2 (hL h) a k v, hR h, hn h, hc h, hs h)
def sR (h : PH) (a k : Nat) (v : Option Nat) : PH := (hI h, hL h, up2 (hR h) a k v, hn h, hc h, hs h)
/-- a new cell, all of it 0 and null, of z slots -/
def sN (h : PH) (z : Nat) : PH := (fun b j => if b = hn h then 0 else hI h b j, fun b j => if b = hn h then 0 else hL h b j, fun b j => if b = hn h then none else hR h b j, hn h + 1, hc h + 1, hs h + z)
/-- which kind a cell is (vwCl's classes 0 .. 10, 11 bytes, 12 ints, 13 longs, 14 rows of ints), by the order of making -/
def kdT : List Nat := [9, 1, 11, 0, 13, 13, 6, 12, 12, 6, 12, 12, 7, 3, 12, 12, 4, 14, 2, 12, 5, 11, 8, 1, 11, 10, 12, 12, 12, 12, 12, 12, 12, 12, 12, 12, 12, 12, 12, 13]
def lnT : List Nat := [0, 0, 4000, 0, 200, 200, 0, 4096, 200, 0, 4096, 200, 0, 0, 12, 4, 0, 256, 0, 100, 0, 4000, 0, 0, 32, 0, 65536, 8, 100, 4000, 4020, 4096, 200, 4096, 200, 200, 200, 40, 4000, 1]
def kd (a : Nat) : Nat := kdT.getD a 12
def ln (a : Nat) : Nat := lnT.getD a 256
/-- the kinds of a class' fields: 0 an int, 1 a long, 2 a reference -/
def fkT : List (List Nat) := [[2, 2, 2, 2, 2, 2, 0, 0, 0, 0, 0, 0, 0], [2, 0], [2, 0, 0, 0, 0], [2, 2, 2, 2, 2, 0, 0], [2], [2, 0, 0], [2, 2, 0, 0, 0], [2, 0, 0, 0, 0, 2, 1, 1], [2], [2, 2, 2, 2], [0, 2, 2, 0, 0, 0, 0, 0, 0, 0, 2, 0, 2, 0, 0, 0, 0, 0, 0, 0, 2, 0, 2, 0, 0, 0, 2, 0, 0, 0, 2, 0, 0, 2, 2, 2, 0, 2, 0, 0, 0, 0, 0, 0, 0, 2, 0, 0, 0, 0, 0, 0]]
def fk (c k : Nat) : Nat := (fkT.getD c []).getD k 0
def nF (c : Nat) : Nat := (fkT.getD c []).length
def fv (ad : Nat → Nat) (h : PH) (a c k : Nat) : Value := if fk c k = 0 then .int (hI h a k) else if fk c k = 1 then .long (hL h a k) else va_rf ((hR h a k).map ad)
def ce (cy : Nat → ClassId) (ad : Nat → Nat) (h : PH) (a : Nat) : va_E :=
  if kd a < 11 then .inr (kd a, (List.range (nF (kd a))).map (fv ad h a (kd a)))
  else if kd a = 11 then .inl (cy 0, ln a, .inl (hI h a))
  else if kd a = 12 then .inl (cy 1, ln a, .inl (hI h a))
  else if kd a = 13 then .inl (cy 2, ln a, .inr (.inl (hL h a)))
  else .inl (cy 3, ln a, .inr (.inr (.inr (.inr (fun j => (hR h a j).map ad)))))
def wd (cy : Nat → ClassId) (ad : Nat → Nat) (h : PH) : va_W := (List.range (hn h)).map (fun a => (ad a, ce cy ad h a))
def ctys (cy : Nat → ClassId) : List (ClassId × FieldType) := [(cy 0, .byte), (cy 1, .int), (cy 2, .long), (cy 3, .array .int)]
/-- a number of a cell that is there, or of a constant -/
def okr (n a : Nat) : Prop := a < n ∨ 1000000 ≤ a
def okv (n : Nat) (v : Value) : Prop := ∀ a, v = .ref a → okr n a
def cv (ad : Nat → Nat) (v : Value) : Value := match v with
  | .ref a => .ref (ad a)
  | v => v
theorem cv_rf (ad : Nat → Nat) (r : Option Nat) : cv ad (va_rf r) = va_rf (r.map ad) := by cases r <;> rfl
theorem cv_cat (ad : Nat → Nat) (v : Value) : (cv ad v).category = v.category := by cases v <;> rfl
theorem okr.mono {n m a : Nat} (h : okr n a) (hm : n ≤ m) : okr m a := h.elim (fun h => Or.inl (Nat.lt_of_lt_of_le h hm)) Or.inr
theorem okv.mono {n m : Nat} {v : Value} (h : okv n v) (hm : n ≤ m) : okv m v := fun a e => (h a e).mono hm
theorem cv_ext {n : Nat} {ad ad' : Nat → Nat} (h : ∀ a, okr n a → ad' a = ad a) {v : Value} (hv : okv n v) : cv ad' v = cv ad v := by
  cases v with
  | ref a => show Value.ref (ad' a) = Value.ref (ad a); rw [h a (hv a rfl)]
  | _ => rfl
/-- the references of the heap are of cells that are there -/
def okh (h : PH) : Prop := ∀ a k b, a < hn h → hR h a k = some b → okr (hn h) b
def Rp (cy : Nat → ClassId) (D : va_G) (ad : Nat → Nat) (h : PH) (A : Nat → Prop) (H0 H : Heap) (locs : List Loc) : Prop :=
  va_P D vwCl (wd cy ad h) H ∧ va_D A (wd cy ad h) ∧ va_S A H0 H locs ∧ okh h
/-- a method: its class, its code, its locals, what it returns, its name -/
abbrev MR : Type := String × ByteArray × Nat × Option FieldType × MethodName
def PL (n : Nat) (ad : Nat → Nat) (nL : Nat) (ls : List (Option Value)) (cls : Array Slot) : Prop :=
  cls.size = nL ∧ lv_wf cls ∧ ∀ (i : Nat) (v : Value), ls[i]? = some (some v) → v.category = 1 ∧ okv n v ∧ cls[i]? = some (Slot.val (cv ad v))
theorem wd_get {cy : Nat → ClassId} {ad : Nat → Nat} {h : PH} {a : Nat} (ha : a < hn h) : (wd cy ad h)[a]? = some (ad a, ce cy ad h a) := by
  unfold wd; rw [List.getElem?_map, List.getElem?_range ha]; rfl
theorem wd_len (cy : Nat → ClassId) (ad : Nat → Nat) (h : PH) : (wd cy ad h).length = hn h := by simp [wd]
theorem wd_set {cy : Nat → ClassId} {ad : Nat → Nat} {h h' : PH} {a : Nat} (hnn : hn h' = hn h) (ho : ∀ b, b ≠ a → ce cy ad h' b = ce cy ad h b) : (wd cy ad h).set a (ad a, ce cy ad h' a) = wd cy ad h' := by
  apply List.ext_getElem?
  intro i
  rw [List.getElem?_set]
  by_cases hi : i < hn h
  · by_cases e : a = i
    · subst e; rw [if_pos rfl, if_pos (by rw [wd_len]; exact hi), wd_get (by rw [hnn]; exact hi)]
    · rw [if_neg e, wd_get hi, wd_get (by rw [hnn]; exact hi), ho i (Ne.symm e)]
  · have h1 : (wd cy ad h')[i]? = none := List.getElem?_eq_none (by rw [wd_len, hnn]; omega)
    rw [h1]
    by_cases e : a = i
    · rw [if_pos e, if_neg (by rw [wd_len]; omega)]
    · rw [if_neg e]; exact List.getElem?_eq_none (by rw [wd_len]; omega)
theorem ce_ext {cy : Nat → ClassId} {ad ad' : Nat → Nat} {h : PH} (ho : okh h) (he : ∀ a, okr (hn h) a → ad' a = ad a) {a : Nat} (ha : a < hn h) : ce cy ad' h a = ce cy ad h a := by
  have hr : ∀ k, (hR h a k).map ad' = (hR h a k).map ad := by
    intro k
    cases e : hR h a k with
    | none => rfl
    | some b => show some (ad' b) = some (ad b); rw [he b (ho a k b ha e)]
  have hf : fv ad' h a (kd a) = fv ad h a (kd a) := by funext k; unfold fv; rw [hr]
  unfold ce
  rw [hf]
  simp only [hr]
theorem wd_ext {cy : Nat → ClassId} {ad ad' : Nat → Nat} {h : PH} (ho : okh h) (he : ∀ a, okr (hn h) a → ad' a = ad a) : wd cy ad' h = wd cy ad h := by
  unfold wd
  apply List.map_congr_left
  intro a ha
  have ha := List.mem_range.mp ha
  rw [he a (Or.inl ha), ce_ext ho he ha]
def Tg : List Cond := lw_tbl
/-- what stands all through one run of a method -/
def Cx (M : MR) (cy : Nat → ClassId) (D : va_G) (ad : Nat → Nat) (A : Nat → Prop) (p : Program) (s : State) (m : MethodId) (args : Array Value) (meth : Method) (c : Code) : Prop :=
  p.tables.exec = Jvm.exec ∧ c.code = M.2.1 ∧ c.maxLocals = M.2.2.1 ∧ s.vm.findClass M.1 = some m.cls ∧ (∀ w ∈ Tg, w.before args s = true) ∧ meth.locks = false ∧ meth.sig.returnType = M.2.2.2.1 ∧ meth.name = M.2.2.2.2.name ∧ va_K D vwCl (ctys cy) s ∧ (∀ q, s.heap.size ≤ q → A q) ∧ KC ad A s s.heap
theorem Cx.ext {M : MR} {cy : Nat → ClassId} {D : va_G} {ad ad' : Nat → Nat} {A : Nat → Prop} {p : Program} {s : State} {m : MethodId} {args : Array Value} {meth : Method} {c : Code} {n : Nat} (h : Cx M cy D ad A p s m args meth c) (he : ∀ a, okr n a → ad' a = ad a) : Cx M cy D ad' A p s m args meth c := by
  obtain ⟨a1, a2, a3, a4, a5, a6, a7, a8, a9, a10, a11⟩ := h
  exact ⟨a1, a2, a3, a4, a5, a6, a7, a8, a9, a10, a11.ext (fun a h => he a (Or.inr h))⟩
/-- the instruction at which a run ends, by what it ends with (.retAddr: a throw's 'new', of the class by number) -/
def RetAt (M : MR) (pc : Nat) (r : Option Value) : Prop := match r with
  | none => decode M.2.1 pc = .ok (.return_, 1)
  | some (.int v) => decode M.2.1 pc = .ok (.ireturn, 1) ∧ ∀ ty, M.2.2.2.1 = some ty → narrow ty (.int v) = .int v
  | some (.retAddr j) => j = pc
  | some _ => decode M.2.1 pc = .ok (.areturn, 1)
def rst (ad : Nat → Nat) (r : Option Value) : List Value := match r with
  | none => []
  | some (.retAddr _) => []
  | some v => [cv ad v]
def Rt (M : MR) (d L pc : Nat) (ls : List (Option Value)) (st : List Value) (h : PH) (r : Option Value) (hE : PH) : Prop :=
  hn h ≤ hn hE ∧ hc h ≤ hc hE ∧ hs h ≤ hs hE ∧
  ∀ (p : Program) (l : Launch) (e : Env) (R : Room) (s : State) (m : MethodId) (args : Array Value) (below : List Frame) (meth : Method) (c : Code) (cy : Nat → ClassId) (D : va_G) (A : Nat → Prop) (ad : Nat → Nat) (H : Heap) (locs : List Loc) (cls : Array Slot) (c0 s0 : Nat) (Qf : State → Prop),
    Cx M cy D ad A p s m args meth c → d ≤ R.frames → L ≤ R.locals → hc hE ≤ c0 + R.cells → hs hE ≤ s0 + R.slots → c0 ≤ hc h → s0 ≤ hs h →
    Rp cy D ad h A s.heap H locs → PL (hn h) ad M.2.2.1 ls cls → (∀ v ∈ st, okv (hn h) v) →
    (∀ (ad' : Nat → Nat) (H' : Heap) (locs' : List Loc) (cls' : Array Slot) (pcE : Nat), (∀ a, okr (hn h) a → ad' a = ad a) → Rp cy D ad' hE A s.heap H' locs' → RetAt M pcE r → (∀ v, r = some v → okv (hn hE) v) → cls'.size = M.2.2.1 → W p l e R s m args below meth c H' locs' (hc hE - c0) (hs hE - s0) Qf (F0 m pcE cls' (rst ad' r))) →
    W p l e R s m args below meth c H locs (hc h - c0) (hs h - s0) Qf (F0 m pc cls (st.map (cv ad)))
def WP (M : MR) (d L pc : Nat) (ls : List (Option Value)) (st : List Value) (h : PH) (Q : Option Value → PH → Prop) : Prop := ∃ r hE, Rt M d L pc ls st h r hE ∧ Q r hE
theorem WP.mp {M : MR} {d L pc pc' : Nat} {ls ls' : List (Option Value)} {st st' : List Value} {h h' : PH} {Q : Option Value → PH → Prop} (f : ∀ r hE, Rt M d L pc' ls' st' h' r hE → Rt M d L pc ls st h r hE) (k : WP M d L pc' ls' st' h' Q) : WP M d L pc ls st h Q := by
  obtain ⟨r, hE, a, b⟩ := k
  exact ⟨r, hE, f r hE a, b⟩
theorem WP.imp {M : MR} {d L pc : Nat} {ls : List (Option Value)} {st : List Value} {h : PH} {Q Q' : Option Value → PH → Prop} (k : WP M d L pc ls st h Q) (f : ∀ r hE, Q r hE → Q' r hE) : WP M d L pc ls st h Q' := by
  obtain ⟨r, hE, a, b⟩ := k
  exact ⟨r, hE, a, f r hE b⟩
/-- an instruction that leaves the heap alone -/
theorem Rt.pure {M : MR} {d L pc pc' : Nat} {ls ls' : List (Option Value)} {st st' : List Value} {h : PH} {r : Option Value} {hE : PH}
    (w : ∀ (p : Program) (l : Launch) (e : Env) (R : Room) (s : State) (m : MethodId) (args : Array Value) (below : List Frame) (meth : Method) (c : Code) (H : Heap) (locs : List Loc) (cells slots : Nat) (Q : State → Prop) (ad : Nat → Nat) (cls : Array Slot) (cy : Nat → ClassId) (D : va_G) (A : Nat → Prop),
      p.tables.exec = Jvm.exec → c.code = M.2.1 → Cx M cy D ad A p s m args meth c → Rp cy D ad h A s.heap H locs → PL (hn h) ad M.2.2.1 ls cls → (∀ v ∈ st, okv (hn h) v) →
      (∀ cls', PL (hn h) ad M.2.2.1 ls' cls' → (∀ v ∈ st', okv (hn h) v) → W p l e R s m args below meth c H locs cells slots Q (F0 m pc' cls' (st'.map (cv ad)))) → W p l e R s m args below meth c H locs cells slots Q (F0 m pc cls (st.map (cv ad))))
    (k : Rt M d L pc' ls' st' h r hE) : Rt M d L pc ls st h r hE := by
  obtain ⟨k1, k2, k3, k4⟩ := k
  refine ⟨k1, k2, k3, ?_⟩
  intro p l e R s m args below meth c cy D A ad H locs cls c0 s0 Qf hC hd hL h1 h2 h3 h4 hR hP hS hEnd
  refine w p l e R s m args below meth c H locs _ _ Qf ad cls cy D A hC.1 hC.2.1 hC hR hP hS (fun cls' hP' hS' => ?_)
  exact k4 p l e R s m args below meth c cy D A ad H locs cls' c0 s0 Qf hC hd hL h1 h2 h3 h4 hR hP' hS' hEnd
end
