section
-- ===== PART A: goes FIRST, ahead of the names: the tables' words, and 'selects' of the private methods out of them =====
/-- a private method of a class that the tables say can be made, by its rows of tables_1 -/
def lw_okq (q : MethodName × Nat) : Prop := (q.1.cls ≠ "java/lang/invoke/MethodHandle" ∧ q.1.cls ≠ "java/lang/invoke/VarHandle") ∧ Cond.instantiable q.1.cls q.2 ∈ tables_1 ∧ Cond.privateMethod q.1 ∈ tables_1 ∧ Cond.instanceMethod q.1 ∈ tables_1
theorem lw_p0 : lw_okq (⟨"SixteenDesk$Machine", "clearRegisters", "()V"⟩, 7) := ⟨⟨by decide +kernel, by decide +kernel⟩, List.mem_of_getElem? (i := 171) (by decide +kernel), List.mem_of_getElem? (i := 232) (by decide +kernel), List.mem_of_getElem? (i := 233) (by decide +kernel)⟩
theorem lw_p1 : lw_okq (⟨"SixteenDesk$Assembler", "pass", "()V"⟩, 13) := ⟨⟨by decide +kernel, by decide +kernel⟩, List.mem_of_getElem? (i := 49) (by decide +kernel), List.mem_of_getElem? (i := 324) (by decide +kernel), List.mem_of_getElem? (i := 325) (by decide +kernel)⟩
theorem lw_p2 : lw_okq (⟨"SixteenDesk$Assembler", "takeStart", "()LSixteenDesk$Op;"⟩, 13) := ⟨⟨by decide +kernel, by decide +kernel⟩, List.mem_of_getElem? (i := 49) (by decide +kernel), List.mem_of_getElem? (i := 332) (by decide +kernel), List.mem_of_getElem? (i := 333) (by decide +kernel)⟩
theorem lw_p3 : lw_okq (⟨"SixteenDesk$Tokens", "skipNothings", "()V"⟩, 8) := ⟨⟨by decide +kernel, by decide +kernel⟩, List.mem_of_getElem? (i := 90) (by decide +kernel), List.mem_of_getElem? (i := 340) (by decide +kernel), List.mem_of_getElem? (i := 341) (by decide +kernel)⟩
theorem lw_p4 : lw_okq (⟨"SixteenDesk$Tokens", "readText", "()V"⟩, 8) := ⟨⟨by decide +kernel, by decide +kernel⟩, List.mem_of_getElem? (i := 90) (by decide +kernel), List.mem_of_getElem? (i := 348) (by decide +kernel), List.mem_of_getElem? (i := 349) (by decide +kernel)⟩
theorem lw_p5 : lw_okq (⟨"SixteenDesk$Tokens", "readWord", "()V"⟩, 8) := ⟨⟨by decide +kernel, by decide +kernel⟩, List.mem_of_getElem? (i := 90) (by decide +kernel), List.mem_of_getElem? (i := 358) (by decide +kernel), List.mem_of_getElem? (i := 359) (by decide +kernel)⟩
theorem lw_p6 : lw_okq (⟨"SixteenDesk$Tokens", "findOp", "()Z"⟩, 8) := ⟨⟨by decide +kernel, by decide +kernel⟩, List.mem_of_getElem? (i := 90) (by decide +kernel), List.mem_of_getElem? (i := 363) (by decide +kernel), List.mem_of_getElem? (i := 364) (by decide +kernel)⟩
theorem lw_p7 : lw_okq (⟨"SixteenDesk$Tokens", "findNumber", "()Z"⟩, 8) := ⟨⟨by decide +kernel, by decide +kernel⟩, List.mem_of_getElem? (i := 90) (by decide +kernel), List.mem_of_getElem? (i := 369) (by decide +kernel), List.mem_of_getElem? (i := 370) (by decide +kernel)⟩
theorem lw_p8 : lw_okq (⟨"SixteenDesk$Tokens", "findRegister", "()Z"⟩, 8) := ⟨⟨by decide +kernel, by decide +kernel⟩, List.mem_of_getElem? (i := 90) (by decide +kernel), List.mem_of_getElem? (i := 376) (by decide +kernel), List.mem_of_getElem? (i := 377) (by decide +kernel)⟩
theorem lw_p9 : lw_okq (⟨"SixteenDesk$Assembler", "tellLabel", "()V"⟩, 13) := ⟨⟨by decide +kernel, by decide +kernel⟩, List.mem_of_getElem? (i := 49) (by decide +kernel), List.mem_of_getElem? (i := 382) (by decide +kernel), List.mem_of_getElem? (i := 383) (by decide +kernel)⟩
theorem lw_p10 : lw_okq (⟨"SixteenDesk$Assembler", "findLabel", "()I"⟩, 13) := ⟨⟨by decide +kernel, by decide +kernel⟩, List.mem_of_getElem? (i := 49) (by decide +kernel), List.mem_of_getElem? (i := 386) (by decide +kernel), List.mem_of_getElem? (i := 387) (by decide +kernel)⟩
theorem lw_p11 : lw_okq (⟨"SixteenDesk$Assembler", "fail", "(II)V"⟩, 13) := ⟨⟨by decide +kernel, by decide +kernel⟩, List.mem_of_getElem? (i := 49) (by decide +kernel), List.mem_of_getElem? (i := 390) (by decide +kernel), List.mem_of_getElem? (i := 391) (by decide +kernel)⟩
theorem lw_p12 : lw_okq (⟨"SixteenDesk$Assembler", "takeStatement", "(LSixteenDesk$Op;)V"⟩, 13) := ⟨⟨by decide +kernel, by decide +kernel⟩, List.mem_of_getElem? (i := 49) (by decide +kernel), List.mem_of_getElem? (i := 400) (by decide +kernel), List.mem_of_getElem? (i := 401) (by decide +kernel)⟩
theorem lw_p13 : lw_okq (⟨"SixteenDesk$Assembler", "takeOperand", "(CI)V"⟩, 13) := ⟨⟨by decide +kernel, by decide +kernel⟩, List.mem_of_getElem? (i := 49) (by decide +kernel), List.mem_of_getElem? (i := 462) (by decide +kernel), List.mem_of_getElem? (i := 463) (by decide +kernel)⟩
theorem lw_p14 : lw_okq (⟨"SixteenDesk$Assembler", "takeRegister", "(I)V"⟩, 13) := ⟨⟨by decide +kernel, by decide +kernel⟩, List.mem_of_getElem? (i := 49) (by decide +kernel), List.mem_of_getElem? (i := 466) (by decide +kernel), List.mem_of_getElem? (i := 467) (by decide +kernel)⟩
theorem lw_p15 : lw_okq (⟨"SixteenDesk$Assembler", "takeSecond", "()V"⟩, 13) := ⟨⟨by decide +kernel, by decide +kernel⟩, List.mem_of_getElem? (i := 49) (by decide +kernel), List.mem_of_getElem? (i := 470) (by decide +kernel), List.mem_of_getElem? (i := 471) (by decide +kernel)⟩
def lw_privs_1 : List (MethodName × Nat) := [(⟨"SixteenDesk$Machine", "clearRegisters", "()V"⟩, 7), (⟨"SixteenDesk$Assembler", "pass", "()V"⟩, 13), (⟨"SixteenDesk$Assembler", "takeStart", "()LSixteenDesk$Op;"⟩, 13), (⟨"SixteenDesk$Tokens", "skipNothings", "()V"⟩, 8), (⟨"SixteenDesk$Tokens", "readText", "()V"⟩, 8), (⟨"SixteenDesk$Tokens", "readWord", "()V"⟩, 8), (⟨"SixteenDesk$Tokens", "findOp", "()Z"⟩, 8), (⟨"SixteenDesk$Tokens", "findNumber", "()Z"⟩, 8), (⟨"SixteenDesk$Tokens", "findRegister", "()Z"⟩, 8), (⟨"SixteenDesk$Assembler", "tellLabel", "()V"⟩, 13), (⟨"SixteenDesk$Assembler", "findLabel", "()I"⟩, 13), (⟨"SixteenDesk$Assembler", "fail", "(II)V"⟩, 13), (⟨"SixteenDesk$Assembler", "takeStatement", "(LSixteenDesk$Op;)V"⟩, 13), (⟨"SixteenDesk$Assembler", "takeOperand", "(CI)V"⟩, 13), (⟨"SixteenDesk$Assembler", "takeRegister", "(I)V"⟩, 13), (⟨"SixteenDesk$Assembler", "takeSecond", "()V"⟩, 13)]
theorem lw_r1 : ∀ q ∈ lw_privs_1, lw_okq q := List.forall_mem_cons.mpr ⟨lw_p0, List.forall_mem_cons.mpr ⟨lw_p1, List.forall_mem_cons.mpr ⟨lw_p2, List.forall_mem_cons.mpr ⟨lw_p3, List.forall_mem_cons.mpr ⟨lw_p4, List.forall_mem_cons.mpr ⟨lw_p5, List.forall_mem_cons.mpr ⟨lw_p6, List.forall_mem_cons.mpr ⟨lw_p7, List.forall_mem_cons.mpr ⟨lw_p8, List.forall_mem_cons.mpr ⟨lw_p9, List.forall_mem_cons.mpr ⟨lw_p10, List.forall_mem_cons.mpr ⟨lw_p11, List.forall_mem_cons.mpr ⟨lw_p12, List.forall_mem_cons.mpr ⟨lw_p13, List.forall_mem_cons.mpr ⟨lw_p14, List.forall_mem_cons.mpr ⟨lw_p15, fun _ h => absurd h List.not_mem_nil⟩⟩⟩⟩⟩⟩⟩⟩⟩⟩⟩⟩⟩⟩⟩⟩
theorem lw_p16 : lw_okq (⟨"SixteenDesk$Assembler", "takeNumber", "(III)V"⟩, 13) := ⟨⟨by decide +kernel, by decide +kernel⟩, List.mem_of_getElem? (i := 49) (by decide +kernel), List.mem_of_getElem? (i := 474) (by decide +kernel), List.mem_of_getElem? (i := 475) (by decide +kernel)⟩
theorem lw_p17 : lw_okq (⟨"SixteenDesk$Assembler", "takeWhere", "(I)V"⟩, 13) := ⟨⟨by decide +kernel, by decide +kernel⟩, List.mem_of_getElem? (i := 49) (by decide +kernel), List.mem_of_getElem? (i := 478) (by decide +kernel), List.mem_of_getElem? (i := 479) (by decide +kernel)⟩
theorem lw_p18 : lw_okq (⟨"SixteenDesk$Assembler", "placeOfLabel", "()I"⟩, 13) := ⟨⟨by decide +kernel, by decide +kernel⟩, List.mem_of_getElem? (i := 49) (by decide +kernel), List.mem_of_getElem? (i := 482) (by decide +kernel), List.mem_of_getElem? (i := 483) (by decide +kernel)⟩
theorem lw_p19 : lw_okq (⟨"SixteenDesk$Assembler", "takeValue", "()V"⟩, 13) := ⟨⟨by decide +kernel, by decide +kernel⟩, List.mem_of_getElem? (i := 49) (by decide +kernel), List.mem_of_getElem? (i := 486) (by decide +kernel), List.mem_of_getElem? (i := 487) (by decide +kernel)⟩
theorem lw_p20 : lw_okq (⟨"SixteenDesk$Assembler", "takeBlock", "(I)V"⟩, 13) := ⟨⟨by decide +kernel, by decide +kernel⟩, List.mem_of_getElem? (i := 49) (by decide +kernel), List.mem_of_getElem? (i := 491) (by decide +kernel), List.mem_of_getElem? (i := 492) (by decide +kernel)⟩
theorem lw_p21 : lw_okq (⟨"SixteenDesk$Assembler", "takeText", "(I)V"⟩, 13) := ⟨⟨by decide +kernel, by decide +kernel⟩, List.mem_of_getElem? (i := 49) (by decide +kernel), List.mem_of_getElem? (i := 500) (by decide +kernel), List.mem_of_getElem? (i := 501) (by decide +kernel)⟩
theorem lw_p22 : lw_okq (⟨"SixteenDesk$Writer", "tellOperand", "(CI)V"⟩, 1) := ⟨⟨by decide +kernel, by decide +kernel⟩, List.mem_of_getElem? (i := 266) (by decide +kernel), List.mem_of_getElem? (i := 609) (by decide +kernel), List.mem_of_getElem? (i := 610) (by decide +kernel)⟩
theorem lw_p23 : lw_okq (⟨"SixteenDesk$Writer", "tellRegister", "(I)V"⟩, 1) := ⟨⟨by decide +kernel, by decide +kernel⟩, List.mem_of_getElem? (i := 266) (by decide +kernel), List.mem_of_getElem? (i := 613) (by decide +kernel), List.mem_of_getElem? (i := 614) (by decide +kernel)⟩
theorem lw_p24 : lw_okq (⟨"SixteenDesk$Writer", "tellNumber", "(I)V"⟩, 1) := ⟨⟨by decide +kernel, by decide +kernel⟩, List.mem_of_getElem? (i := 266) (by decide +kernel), List.mem_of_getElem? (i := 621) (by decide +kernel), List.mem_of_getElem? (i := 622) (by decide +kernel)⟩
theorem lw_p25 : lw_okq (⟨"SixteenDesk$Writer", "tellHexadecimals", "(II)V"⟩, 1) := ⟨⟨by decide +kernel, by decide +kernel⟩, List.mem_of_getElem? (i := 266) (by decide +kernel), List.mem_of_getElem? (i := 627) (by decide +kernel), List.mem_of_getElem? (i := 628) (by decide +kernel)⟩
theorem lw_p26 : lw_okq (⟨"java/lang/Throwable", "fillInStackTrace", "(I)Ljava/lang/Throwable;"⟩, 6) := ⟨⟨by decide +kernel, by decide +kernel⟩, List.mem_of_getElem? (i := 699) (by decide +kernel), List.mem_of_getElem? (i := 697) (by decide +kernel), List.mem_of_getElem? (i := 698) (by decide +kernel)⟩
theorem lw_p27 : lw_okq (⟨"SixteenDesk$Machine", "step", "()V"⟩, 7) := ⟨⟨by decide +kernel, by decide +kernel⟩, List.mem_of_getElem? (i := 171) (by decide +kernel), List.mem_of_getElem? (i := 772) (by decide +kernel), List.mem_of_getElem? (i := 773) (by decide +kernel)⟩
theorem lw_p28 : lw_okq (⟨"SixteenDesk$Machine", "enter", "(I)V"⟩, 7) := ⟨⟨by decide +kernel, by decide +kernel⟩, List.mem_of_getElem? (i := 171) (by decide +kernel), List.mem_of_getElem? (i := 777) (by decide +kernel), List.mem_of_getElem? (i := 778) (by decide +kernel)⟩
theorem lw_p29 : lw_okq (⟨"SixteenDesk$Machine", "put", "(II)V"⟩, 7) := ⟨⟨by decide +kernel, by decide +kernel⟩, List.mem_of_getElem? (i := 171) (by decide +kernel), List.mem_of_getElem? (i := 782) (by decide +kernel), List.mem_of_getElem? (i := 783) (by decide +kernel)⟩
theorem lw_p30 : lw_okq (⟨"SixteenDesk$Machine", "isBarred", "(I)Z"⟩, 7) := ⟨⟨by decide +kernel, by decide +kernel⟩, List.mem_of_getElem? (i := 171) (by decide +kernel), List.mem_of_getElem? (i := 786) (by decide +kernel), List.mem_of_getElem? (i := 787) (by decide +kernel)⟩
theorem lw_p31 : lw_okq (⟨"SixteenDesk$Machine", "fetch", "(I)I"⟩, 7) := ⟨⟨by decide +kernel, by decide +kernel⟩, List.mem_of_getElem? (i := 171) (by decide +kernel), List.mem_of_getElem? (i := 794) (by decide +kernel), List.mem_of_getElem? (i := 795) (by decide +kernel)⟩
def lw_privs_2 : List (MethodName × Nat) := [(⟨"SixteenDesk$Assembler", "takeNumber", "(III)V"⟩, 13), (⟨"SixteenDesk$Assembler", "takeWhere", "(I)V"⟩, 13), (⟨"SixteenDesk$Assembler", "placeOfLabel", "()I"⟩, 13), (⟨"SixteenDesk$Assembler", "takeValue", "()V"⟩, 13), (⟨"SixteenDesk$Assembler", "takeBlock", "(I)V"⟩, 13), (⟨"SixteenDesk$Assembler", "takeText", "(I)V"⟩, 13), (⟨"SixteenDesk$Writer", "tellOperand", "(CI)V"⟩, 1), (⟨"SixteenDesk$Writer", "tellRegister", "(I)V"⟩, 1), (⟨"SixteenDesk$Writer", "tellNumber", "(I)V"⟩, 1), (⟨"SixteenDesk$Writer", "tellHexadecimals", "(II)V"⟩, 1), (⟨"java/lang/Throwable", "fillInStackTrace", "(I)Ljava/lang/Throwable;"⟩, 6), (⟨"SixteenDesk$Machine", "step", "()V"⟩, 7), (⟨"SixteenDesk$Machine", "enter", "(I)V"⟩, 7), (⟨"SixteenDesk$Machine", "put", "(II)V"⟩, 7), (⟨"SixteenDesk$Machine", "isBarred", "(I)Z"⟩, 7), (⟨"SixteenDesk$Machine", "fetch", "(I)I"⟩, 7)]
theorem lw_r2 : ∀ q ∈ lw_privs_2, lw_okq q := List.forall_mem_cons.mpr ⟨lw_p16, List.forall_mem_cons.mpr ⟨lw_p17, List.forall_mem_cons.mpr ⟨lw_p18, List.forall_mem_cons.mpr ⟨lw_p19, List.forall_mem_cons.mpr ⟨lw_p20, List.forall_mem_cons.mpr ⟨lw_p21, List.forall_mem_cons.mpr ⟨lw_p22, List.forall_mem_cons.mpr ⟨lw_p23, List.forall_mem_cons.mpr ⟨lw_p24, List.forall_mem_cons.mpr ⟨lw_p25, List.forall_mem_cons.mpr ⟨lw_p26, List.forall_mem_cons.mpr ⟨lw_p27, List.forall_mem_cons.mpr ⟨lw_p28, List.forall_mem_cons.mpr ⟨lw_p29, List.forall_mem_cons.mpr ⟨lw_p30, List.forall_mem_cons.mpr ⟨lw_p31, fun _ h => absurd h List.not_mem_nil⟩⟩⟩⟩⟩⟩⟩⟩⟩⟩⟩⟩⟩⟩⟩⟩
theorem lw_p32 : lw_okq (⟨"SixteenDesk$Machine", "perform", "(I)V"⟩, 7) := ⟨⟨by decide +kernel, by decide +kernel⟩, List.mem_of_getElem? (i := 171) (by decide +kernel), List.mem_of_getElem? (i := 804) (by decide +kernel), List.mem_of_getElem? (i := 805) (by decide +kernel)⟩
theorem lw_p33 : lw_okq (⟨"SixteenDesk$Machine", "second", "(I)I"⟩, 7) := ⟨⟨by decide +kernel, by decide +kernel⟩, List.mem_of_getElem? (i := 171) (by decide +kernel), List.mem_of_getElem? (i := 809) (by decide +kernel), List.mem_of_getElem? (i := 810) (by decide +kernel)⟩
theorem lw_p34 : lw_okq (⟨"SixteenDesk$Machine", "settle", "(II)V"⟩, 7) := ⟨⟨by decide +kernel, by decide +kernel⟩, List.mem_of_getElem? (i := 171) (by decide +kernel), List.mem_of_getElem? (i := 813) (by decide +kernel), List.mem_of_getElem? (i := 814) (by decide +kernel)⟩
theorem lw_p35 : lw_okq (⟨"SixteenDesk$Machine", "receive", "(II)V"⟩, 7) := ⟨⟨by decide +kernel, by decide +kernel⟩, List.mem_of_getElem? (i := 171) (by decide +kernel), List.mem_of_getElem? (i := 817) (by decide +kernel), List.mem_of_getElem? (i := 818) (by decide +kernel)⟩
theorem lw_p36 : lw_okq (⟨"SixteenDesk$Machine", "give", "(II)V"⟩, 7) := ⟨⟨by decide +kernel, by decide +kernel⟩, List.mem_of_getElem? (i := 171) (by decide +kernel), List.mem_of_getElem? (i := 821) (by decide +kernel), List.mem_of_getElem? (i := 822) (by decide +kernel)⟩
theorem lw_p37 : lw_okq (⟨"SixteenDesk$Machine", "callAway", "(II)V"⟩, 7) := ⟨⟨by decide +kernel, by decide +kernel⟩, List.mem_of_getElem? (i := 171) (by decide +kernel), List.mem_of_getElem? (i := 825) (by decide +kernel), List.mem_of_getElem? (i := 826) (by decide +kernel)⟩
theorem lw_p38 : lw_okq (⟨"SixteenDesk$Machine", "comeBack", "()V"⟩, 7) := ⟨⟨by decide +kernel, by decide +kernel⟩, List.mem_of_getElem? (i := 171) (by decide +kernel), List.mem_of_getElem? (i := 829) (by decide +kernel), List.mem_of_getElem? (i := 830) (by decide +kernel)⟩
theorem lw_p39 : lw_okq (⟨"SixteenDesk$Machine", "trap", "(I)V"⟩, 7) := ⟨⟨by decide +kernel, by decide +kernel⟩, List.mem_of_getElem? (i := 171) (by decide +kernel), List.mem_of_getElem? (i := 834) (by decide +kernel), List.mem_of_getElem? (i := 835) (by decide +kernel)⟩
theorem lw_p40 : lw_okq (⟨"SixteenDesk$Machine", "takeKey", "(Z)V"⟩, 7) := ⟨⟨by decide +kernel, by decide +kernel⟩, List.mem_of_getElem? (i := 171) (by decide +kernel), List.mem_of_getElem? (i := 838) (by decide +kernel), List.mem_of_getElem? (i := 839) (by decide +kernel)⟩
theorem lw_p41 : lw_okq (⟨"SixteenDesk$Machine", "printWords", "(Z)V"⟩, 7) := ⟨⟨by decide +kernel, by decide +kernel⟩, List.mem_of_getElem? (i := 171) (by decide +kernel), List.mem_of_getElem? (i := 842) (by decide +kernel), List.mem_of_getElem? (i := 843) (by decide +kernel)⟩
theorem lw_p42 : lw_okq (⟨"SixteenDeskModel", "first", "()V"⟩, 52) := ⟨⟨by decide +kernel, by decide +kernel⟩, List.mem_of_getElem? (i := 862) (by decide +kernel), List.mem_of_getElem? (i := 869) (by decide +kernel), List.mem_of_getElem? (i := 870) (by decide +kernel)⟩
theorem lw_p43 : lw_okq (⟨"SixteenDeskModel", "step", "()V"⟩, 52) := ⟨⟨by decide +kernel, by decide +kernel⟩, List.mem_of_getElem? (i := 862) (by decide +kernel), List.mem_of_getElem? (i := 1044) (by decide +kernel), List.mem_of_getElem? (i := 1045) (by decide +kernel)⟩
theorem lw_p44 : lw_okq (⟨"SixteenDeskModel", "goIn", "()V"⟩, 52) := ⟨⟨by decide +kernel, by decide +kernel⟩, List.mem_of_getElem? (i := 862) (by decide +kernel), List.mem_of_getElem? (i := 1048) (by decide +kernel), List.mem_of_getElem? (i := 1049) (by decide +kernel)⟩
theorem lw_p45 : lw_okq (⟨"SixteenDeskModel", "isUser", "()Z"⟩, 52) := ⟨⟨by decide +kernel, by decide +kernel⟩, List.mem_of_getElem? (i := 862) (by decide +kernel), List.mem_of_getElem? (i := 1052) (by decide +kernel), List.mem_of_getElem? (i := 1053) (by decide +kernel)⟩
theorem lw_p46 : lw_okq (⟨"SixteenDeskModel", "put", "(II)V"⟩, 52) := ⟨⟨by decide +kernel, by decide +kernel⟩, List.mem_of_getElem? (i := 862) (by decide +kernel), List.mem_of_getElem? (i := 1061) (by decide +kernel), List.mem_of_getElem? (i := 1062) (by decide +kernel)⟩
theorem lw_p47 : lw_okq (⟨"SixteenDeskModel", "prints", "(I)V"⟩, 52) := ⟨⟨by decide +kernel, by decide +kernel⟩, List.mem_of_getElem? (i := 862) (by decide +kernel), List.mem_of_getElem? (i := 1066) (by decide +kernel), List.mem_of_getElem? (i := 1067) (by decide +kernel)⟩
def lw_privs_3 : List (MethodName × Nat) := [(⟨"SixteenDesk$Machine", "perform", "(I)V"⟩, 7), (⟨"SixteenDesk$Machine", "second", "(I)I"⟩, 7), (⟨"SixteenDesk$Machine", "settle", "(II)V"⟩, 7), (⟨"SixteenDesk$Machine", "receive", "(II)V"⟩, 7), (⟨"SixteenDesk$Machine", "give", "(II)V"⟩, 7), (⟨"SixteenDesk$Machine", "callAway", "(II)V"⟩, 7), (⟨"SixteenDesk$Machine", "comeBack", "()V"⟩, 7), (⟨"SixteenDesk$Machine", "trap", "(I)V"⟩, 7), (⟨"SixteenDesk$Machine", "takeKey", "(Z)V"⟩, 7), (⟨"SixteenDesk$Machine", "printWords", "(Z)V"⟩, 7), (⟨"SixteenDeskModel", "first", "()V"⟩, 52), (⟨"SixteenDeskModel", "step", "()V"⟩, 52), (⟨"SixteenDeskModel", "goIn", "()V"⟩, 52), (⟨"SixteenDeskModel", "isUser", "()Z"⟩, 52), (⟨"SixteenDeskModel", "put", "(II)V"⟩, 52), (⟨"SixteenDeskModel", "prints", "(I)V"⟩, 52)]
theorem lw_r3 : ∀ q ∈ lw_privs_3, lw_okq q := List.forall_mem_cons.mpr ⟨lw_p32, List.forall_mem_cons.mpr ⟨lw_p33, List.forall_mem_cons.mpr ⟨lw_p34, List.forall_mem_cons.mpr ⟨lw_p35, List.forall_mem_cons.mpr ⟨lw_p36, List.forall_mem_cons.mpr ⟨lw_p37, List.forall_mem_cons.mpr ⟨lw_p38, List.forall_mem_cons.mpr ⟨lw_p39, List.forall_mem_cons.mpr ⟨lw_p40, List.forall_mem_cons.mpr ⟨lw_p41, List.forall_mem_cons.mpr ⟨lw_p42, List.forall_mem_cons.mpr ⟨lw_p43, List.forall_mem_cons.mpr ⟨lw_p44, List.forall_mem_cons.mpr ⟨lw_p45, List.forall_mem_cons.mpr ⟨lw_p46, List.forall_mem_cons.mpr ⟨lw_p47, fun _ h => absurd h List.not_mem_nil⟩⟩⟩⟩⟩⟩⟩⟩⟩⟩⟩⟩⟩⟩⟩⟩
theorem lw_p48 : lw_okq (⟨"SixteenDeskModel", "get", "(I)I"⟩, 52) := ⟨⟨by decide +kernel, by decide +kernel⟩, List.mem_of_getElem? (i := 862) (by decide +kernel), List.mem_of_getElem? (i := 1074) (by decide +kernel), List.mem_of_getElem? (i := 1075) (by decide +kernel)⟩
theorem lw_p49 : lw_okq (⟨"SixteenDeskModel", "seen", "(I)I"⟩, 52) := ⟨⟨by decide +kernel, by decide +kernel⟩, List.mem_of_getElem? (i := 862) (by decide +kernel), List.mem_of_getElem? (i := 1078) (by decide +kernel), List.mem_of_getElem? (i := 1079) (by decide +kernel)⟩
theorem lw_p50 : lw_okq (⟨"SixteenDeskModel", "takeKey", "()I"⟩, 52) := ⟨⟨by decide +kernel, by decide +kernel⟩, List.mem_of_getElem? (i := 862) (by decide +kernel), List.mem_of_getElem? (i := 1082) (by decide +kernel), List.mem_of_getElem? (i := 1083) (by decide +kernel)⟩
theorem lw_p51 : lw_okq (⟨"SixteenDeskModel", "read", "(I)I"⟩, 52) := ⟨⟨by decide +kernel, by decide +kernel⟩, List.mem_of_getElem? (i := 862) (by decide +kernel), List.mem_of_getElem? (i := 1086) (by decide +kernel), List.mem_of_getElem? (i := 1087) (by decide +kernel)⟩
theorem lw_p52 : lw_okq (⟨"SixteenDeskModel", "isOut", "(I)Z"⟩, 52) := ⟨⟨by decide +kernel, by decide +kernel⟩, List.mem_of_getElem? (i := 862) (by decide +kernel), List.mem_of_getElem? (i := 1090) (by decide +kernel), List.mem_of_getElem? (i := 1091) (by decide +kernel)⟩
theorem lw_p53 : lw_okq (⟨"SixteenDeskModel", "does", "(II)V"⟩, 52) := ⟨⟨by decide +kernel, by decide +kernel⟩, List.mem_of_getElem? (i := 862) (by decide +kernel), List.mem_of_getElem? (i := 1094) (by decide +kernel), List.mem_of_getElem? (i := 1095) (by decide +kernel)⟩
theorem lw_p54 : lw_okq (⟨"SixteenDeskModel", "second", "(I)I"⟩, 52) := ⟨⟨by decide +kernel, by decide +kernel⟩, List.mem_of_getElem? (i := 862) (by decide +kernel), List.mem_of_getElem? (i := 1101) (by decide +kernel), List.mem_of_getElem? (i := 1102) (by decide +kernel)⟩
theorem lw_p55 : lw_okq (⟨"SixteenDeskModel", "comes", "(II)V"⟩, 52) := ⟨⟨by decide +kernel, by decide +kernel⟩, List.mem_of_getElem? (i := 862) (by decide +kernel), List.mem_of_getElem? (i := 1105) (by decide +kernel), List.mem_of_getElem? (i := 1106) (by decide +kernel)⟩
theorem lw_p56 : lw_okq (⟨"SixteenDeskModel", "writes", "(II)V"⟩, 52) := ⟨⟨by decide +kernel, by decide +kernel⟩, List.mem_of_getElem? (i := 862) (by decide +kernel), List.mem_of_getElem? (i := 1110) (by decide +kernel), List.mem_of_getElem? (i := 1111) (by decide +kernel)⟩
theorem lw_p57 : lw_okq (⟨"SixteenDeskModel", "comesBack", "()V"⟩, 52) := ⟨⟨by decide +kernel, by decide +kernel⟩, List.mem_of_getElem? (i := 862) (by decide +kernel), List.mem_of_getElem? (i := 1114) (by decide +kernel), List.mem_of_getElem? (i := 1115) (by decide +kernel)⟩
theorem lw_p58 : lw_okq (⟨"SixteenDeskModel", "exception", "(I)V"⟩, 52) := ⟨⟨by decide +kernel, by decide +kernel⟩, List.mem_of_getElem? (i := 862) (by decide +kernel), List.mem_of_getElem? (i := 1118) (by decide +kernel), List.mem_of_getElem? (i := 1119) (by decide +kernel)⟩
theorem lw_p59 : lw_okq (⟨"SixteenDeskModel", "trap", "(II)V"⟩, 52) := ⟨⟨by decide +kernel, by decide +kernel⟩, List.mem_of_getElem? (i := 862) (by decide +kernel), List.mem_of_getElem? (i := 1123) (by decide +kernel), List.mem_of_getElem? (i := 1124) (by decide +kernel)⟩
theorem lw_p60 : lw_okq (⟨"SixteenDeskModel", "string", "(Z)V"⟩, 52) := ⟨⟨by decide +kernel, by decide +kernel⟩, List.mem_of_getElem? (i := 862) (by decide +kernel), List.mem_of_getElem? (i := 1127) (by decide +kernel), List.mem_of_getElem? (i := 1128) (by decide +kernel)⟩
theorem lw_p61 : lw_okq (⟨"SixteenDeskModel", "four", "(I)V"⟩, 52) := ⟨⟨by decide +kernel, by decide +kernel⟩, List.mem_of_getElem? (i := 862) (by decide +kernel), List.mem_of_getElem? (i := 1163) (by decide +kernel), List.mem_of_getElem? (i := 1164) (by decide +kernel)⟩
theorem lw_p62 : lw_okq (⟨"SixteenDeskModel", "pass", "()Z"⟩, 52) := ⟨⟨by decide +kernel, by decide +kernel⟩, List.mem_of_getElem? (i := 862) (by decide +kernel), List.mem_of_getElem? (i := 1175) (by decide +kernel), List.mem_of_getElem? (i := 1176) (by decide +kernel)⟩
theorem lw_p63 : lw_okq (⟨"SixteenDeskModel", "line", "()Z"⟩, 52) := ⟨⟨by decide +kernel, by decide +kernel⟩, List.mem_of_getElem? (i := 862) (by decide +kernel), List.mem_of_getElem? (i := 1179) (by decide +kernel), List.mem_of_getElem? (i := 1180) (by decide +kernel)⟩
def lw_privs_4 : List (MethodName × Nat) := [(⟨"SixteenDeskModel", "get", "(I)I"⟩, 52), (⟨"SixteenDeskModel", "seen", "(I)I"⟩, 52), (⟨"SixteenDeskModel", "takeKey", "()I"⟩, 52), (⟨"SixteenDeskModel", "read", "(I)I"⟩, 52), (⟨"SixteenDeskModel", "isOut", "(I)Z"⟩, 52), (⟨"SixteenDeskModel", "does", "(II)V"⟩, 52), (⟨"SixteenDeskModel", "second", "(I)I"⟩, 52), (⟨"SixteenDeskModel", "comes", "(II)V"⟩, 52), (⟨"SixteenDeskModel", "writes", "(II)V"⟩, 52), (⟨"SixteenDeskModel", "comesBack", "()V"⟩, 52), (⟨"SixteenDeskModel", "exception", "(I)V"⟩, 52), (⟨"SixteenDeskModel", "trap", "(II)V"⟩, 52), (⟨"SixteenDeskModel", "string", "(Z)V"⟩, 52), (⟨"SixteenDeskModel", "four", "(I)V"⟩, 52), (⟨"SixteenDeskModel", "pass", "()Z"⟩, 52), (⟨"SixteenDeskModel", "line", "()Z"⟩, 52)]
theorem lw_r4 : ∀ q ∈ lw_privs_4, lw_okq q := List.forall_mem_cons.mpr ⟨lw_p48, List.forall_mem_cons.mpr ⟨lw_p49, List.forall_mem_cons.mpr ⟨lw_p50, List.forall_mem_cons.mpr ⟨lw_p51, List.forall_mem_cons.mpr ⟨lw_p52, List.forall_mem_cons.mpr ⟨lw_p53, List.forall_mem_cons.mpr ⟨lw_p54, List.forall_mem_cons.mpr ⟨lw_p55, List.forall_mem_cons.mpr ⟨lw_p56, List.forall_mem_cons.mpr ⟨lw_p57, List.forall_mem_cons.mpr ⟨lw_p58, List.forall_mem_cons.mpr ⟨lw_p59, List.forall_mem_cons.mpr ⟨lw_p60, List.forall_mem_cons.mpr ⟨lw_p61, List.forall_mem_cons.mpr ⟨lw_p62, List.forall_mem_cons.mpr ⟨lw_p63, fun _ h => absurd h List.not_mem_nil⟩⟩⟩⟩⟩⟩⟩⟩⟩⟩⟩⟩⟩⟩⟩⟩
theorem lw_p64 : lw_okq (⟨"SixteenDeskModel", "next", "()V"⟩, 52) := ⟨⟨by decide +kernel, by decide +kernel⟩, List.mem_of_getElem? (i := 862) (by decide +kernel), List.mem_of_getElem? (i := 1183) (by decide +kernel), List.mem_of_getElem? (i := 1184) (by decide +kernel)⟩
theorem lw_p65 : lw_okq (⟨"SixteenDeskModel", "sign", "(I)I"⟩, 52) := ⟨⟨by decide +kernel, by decide +kernel⟩, List.mem_of_getElem? (i := 862) (by decide +kernel), List.mem_of_getElem? (i := 1187) (by decide +kernel), List.mem_of_getElem? (i := 1188) (by decide +kernel)⟩
theorem lw_p66 : lw_okq (⟨"SixteenDeskModel", "isText", "()Z"⟩, 52) := ⟨⟨by decide +kernel, by decide +kernel⟩, List.mem_of_getElem? (i := 862) (by decide +kernel), List.mem_of_getElem? (i := 1206) (by decide +kernel), List.mem_of_getElem? (i := 1207) (by decide +kernel)⟩
theorem lw_p67 : lw_okq (⟨"SixteenDeskModel", "begins", "()Z"⟩, 52) := ⟨⟨by decide +kernel, by decide +kernel⟩, List.mem_of_getElem? (i := 862) (by decide +kernel), List.mem_of_getElem? (i := 1210) (by decide +kernel), List.mem_of_getElem? (i := 1211) (by decide +kernel)⟩
theorem lw_p68 : lw_okq (⟨"SixteenDeskModel", "name", "()I"⟩, 52) := ⟨⟨by decide +kernel, by decide +kernel⟩, List.mem_of_getElem? (i := 862) (by decide +kernel), List.mem_of_getElem? (i := 1214) (by decide +kernel), List.mem_of_getElem? (i := 1215) (by decide +kernel)⟩
theorem lw_p69 : lw_okq (⟨"SixteenDeskModel", "wrongToken", "()Z"⟩, 52) := ⟨⟨by decide +kernel, by decide +kernel⟩, List.mem_of_getElem? (i := 862) (by decide +kernel), List.mem_of_getElem? (i := 1221) (by decide +kernel), List.mem_of_getElem? (i := 1222) (by decide +kernel)⟩
theorem lw_p70 : lw_okq (⟨"SixteenDeskModel", "wrong", "(II)Z"⟩, 52) := ⟨⟨by decide +kernel, by decide +kernel⟩, List.mem_of_getElem? (i := 862) (by decide +kernel), List.mem_of_getElem? (i := 1225) (by decide +kernel), List.mem_of_getElem? (i := 1226) (by decide +kernel)⟩
theorem lw_p71 : lw_okq (⟨"SixteenDeskModel", "isNumber", "()Z"⟩, 52) := ⟨⟨by decide +kernel, by decide +kernel⟩, List.mem_of_getElem? (i := 862) (by decide +kernel), List.mem_of_getElem? (i := 1229) (by decide +kernel), List.mem_of_getElem? (i := 1230) (by decide +kernel)⟩
theorem lw_p72 : lw_okq (⟨"SixteenDeskModel", "isLabel", "()Z"⟩, 52) := ⟨⟨by decide +kernel, by decide +kernel⟩, List.mem_of_getElem? (i := 862) (by decide +kernel), List.mem_of_getElem? (i := 1236) (by decide +kernel), List.mem_of_getElem? (i := 1237) (by decide +kernel)⟩
theorem lw_p73 : lw_okq (⟨"SixteenDeskModel", "isRegister", "()Z"⟩, 52) := ⟨⟨by decide +kernel, by decide +kernel⟩, List.mem_of_getElem? (i := 862) (by decide +kernel), List.mem_of_getElem? (i := 1240) (by decide +kernel), List.mem_of_getElem? (i := 1241) (by decide +kernel)⟩
theorem lw_p74 : lw_okq (⟨"SixteenDeskModel", "tells", "()Z"⟩, 52) := ⟨⟨by decide +kernel, by decide +kernel⟩, List.mem_of_getElem? (i := 862) (by decide +kernel), List.mem_of_getElem? (i := 1244) (by decide +kernel), List.mem_of_getElem? (i := 1245) (by decide +kernel)⟩
theorem lw_p75 : lw_okq (⟨"SixteenDeskModel", "which", "()I"⟩, 52) := ⟨⟨by decide +kernel, by decide +kernel⟩, List.mem_of_getElem? (i := 862) (by decide +kernel), List.mem_of_getElem? (i := 1248) (by decide +kernel), List.mem_of_getElem? (i := 1249) (by decide +kernel)⟩
theorem lw_p76 : lw_okq (⟨"SixteenDeskModel", "dotted", "(II)Z"⟩, 52) := ⟨⟨by decide +kernel, by decide +kernel⟩, List.mem_of_getElem? (i := 862) (by decide +kernel), List.mem_of_getElem? (i := 1252) (by decide +kernel), List.mem_of_getElem? (i := 1253) (by decide +kernel)⟩
theorem lw_p77 : lw_okq (⟨"SixteenDeskModel", "hasRoom", "(II)Z"⟩, 52) := ⟨⟨by decide +kernel, by decide +kernel⟩, List.mem_of_getElem? (i := 862) (by decide +kernel), List.mem_of_getElem? (i := 1256) (by decide +kernel), List.mem_of_getElem? (i := 1257) (by decide +kernel)⟩
theorem lw_p78 : lw_okq (⟨"SixteenDeskModel", "value", "(IIZ)Z"⟩, 52) := ⟨⟨by decide +kernel, by decide +kernel⟩, List.mem_of_getElem? (i := 862) (by decide +kernel), List.mem_of_getElem? (i := 1260) (by decide +kernel), List.mem_of_getElem? (i := 1261) (by decide +kernel)⟩
theorem lw_p79 : lw_okq (⟨"SixteenDeskModel", "lay", "(I)V"⟩, 52) := ⟨⟨by decide +kernel, by decide +kernel⟩, List.mem_of_getElem? (i := 862) (by decide +kernel), List.mem_of_getElem? (i := 1264) (by decide +kernel), List.mem_of_getElem? (i := 1265) (by decide +kernel)⟩
def lw_privs_5 : List (MethodName × Nat) := [(⟨"SixteenDeskModel", "next", "()V"⟩, 52), (⟨"SixteenDeskModel", "sign", "(I)I"⟩, 52), (⟨"SixteenDeskModel", "isText", "()Z"⟩, 52), (⟨"SixteenDeskModel", "begins", "()Z"⟩, 52), (⟨"SixteenDeskModel", "name", "()I"⟩, 52), (⟨"SixteenDeskModel", "wrongToken", "()Z"⟩, 52), (⟨"SixteenDeskModel", "wrong", "(II)Z"⟩, 52), (⟨"SixteenDeskModel", "isNumber", "()Z"⟩, 52), (⟨"SixteenDeskModel", "isLabel", "()Z"⟩, 52), (⟨"SixteenDeskModel", "isRegister", "()Z"⟩, 52), (⟨"SixteenDeskModel", "tells", "()Z"⟩, 52), (⟨"SixteenDeskModel", "which", "()I"⟩, 52), (⟨"SixteenDeskModel", "dotted", "(II)Z"⟩, 52), (⟨"SixteenDeskModel", "hasRoom", "(II)Z"⟩, 52), (⟨"SixteenDeskModel", "value", "(IIZ)Z"⟩, 52), (⟨"SixteenDeskModel", "lay", "(I)V"⟩, 52)]
theorem lw_r5 : ∀ q ∈ lw_privs_5, lw_okq q := List.forall_mem_cons.mpr ⟨lw_p64, List.forall_mem_cons.mpr ⟨lw_p65, List.forall_mem_cons.mpr ⟨lw_p66, List.forall_mem_cons.mpr ⟨lw_p67, List.forall_mem_cons.mpr ⟨lw_p68, List.forall_mem_cons.mpr ⟨lw_p69, List.forall_mem_cons.mpr ⟨lw_p70, List.forall_mem_cons.mpr ⟨lw_p71, List.forall_mem_cons.mpr ⟨lw_p72, List.forall_mem_cons.mpr ⟨lw_p73, List.forall_mem_cons.mpr ⟨lw_p74, List.forall_mem_cons.mpr ⟨lw_p75, List.forall_mem_cons.mpr ⟨lw_p76, List.forall_mem_cons.mpr ⟨lw_p77, List.forall_mem_cons.mpr ⟨lw_p78, List.forall_mem_cons.mpr ⟨lw_p79, fun _ h => absurd h List.not_mem_nil⟩⟩⟩⟩⟩⟩⟩⟩⟩⟩⟩⟩⟩⟩⟩⟩
theorem lw_p80 : lw_okq (⟨"SixteenDeskModel", "named", "(II)Z"⟩, 52) := ⟨⟨by decide +kernel, by decide +kernel⟩, List.mem_of_getElem? (i := 862) (by decide +kernel), List.mem_of_getElem? (i := 1268) (by decide +kernel), List.mem_of_getElem? (i := 1269) (by decide +kernel)⟩
theorem lw_p81 : lw_okq (⟨"SixteenDeskModel", "instruction", "(I)Z"⟩, 52) := ⟨⟨by decide +kernel, by decide +kernel⟩, List.mem_of_getElem? (i := 862) (by decide +kernel), List.mem_of_getElem? (i := 1272) (by decide +kernel), List.mem_of_getElem? (i := 1273) (by decide +kernel)⟩
theorem lw_p82 : lw_okq (⟨"SixteenDeskModel", "where", "(II)Z"⟩, 52) := ⟨⟨by decide +kernel, by decide +kernel⟩, List.mem_of_getElem? (i := 862) (by decide +kernel), List.mem_of_getElem? (i := 1276) (by decide +kernel), List.mem_of_getElem? (i := 1277) (by decide +kernel)⟩
theorem lw_p83 : lw_okq (⟨"SixteenDeskModel", "three", "(I)Z"⟩, 52) := ⟨⟨by decide +kernel, by decide +kernel⟩, List.mem_of_getElem? (i := 862) (by decide +kernel), List.mem_of_getElem? (i := 1281) (by decide +kernel), List.mem_of_getElem? (i := 1282) (by decide +kernel)⟩
theorem lw_p84 : lw_okq (⟨"SixteenDeskModel", "taken", "(II)Z"⟩, 52) := ⟨⟨by decide +kernel, by decide +kernel⟩, List.mem_of_getElem? (i := 862) (by decide +kernel), List.mem_of_getElem? (i := 1285) (by decide +kernel), List.mem_of_getElem? (i := 1286) (by decide +kernel)⟩
theorem lw_p85 : lw_okq (⟨"SixteenDeskModel", "based", "(I)Z"⟩, 52) := ⟨⟨by decide +kernel, by decide +kernel⟩, List.mem_of_getElem? (i := 862) (by decide +kernel), List.mem_of_getElem? (i := 1293) (by decide +kernel), List.mem_of_getElem? (i := 1294) (by decide +kernel)⟩
theorem lw_p86 : lw_okq (⟨"SixteenDeskModel", "small", "(II)Z"⟩, 52) := ⟨⟨by decide +kernel, by decide +kernel⟩, List.mem_of_getElem? (i := 862) (by decide +kernel), List.mem_of_getElem? (i := 1297) (by decide +kernel), List.mem_of_getElem? (i := 1298) (by decide +kernel)⟩
theorem lw_p87 : lw_okq (⟨"SixteenDeskModel", "isTold", "(I)Z"⟩, 52) := ⟨⟨by decide +kernel, by decide +kernel⟩, List.mem_of_getElem? (i := 862) (by decide +kernel), List.mem_of_getElem? (i := 1324) (by decide +kernel), List.mem_of_getElem? (i := 1325) (by decide +kernel)⟩
theorem lw_p88 : lw_okq (⟨"SixteenDeskModel", "isBranch", "(I)Z"⟩, 52) := ⟨⟨by decide +kernel, by decide +kernel⟩, List.mem_of_getElem? (i := 862) (by decide +kernel), List.mem_of_getElem? (i := 1328) (by decide +kernel), List.mem_of_getElem? (i := 1329) (by decide +kernel)⟩
theorem lw_p89 : lw_okq (⟨"SixteenDeskModel", "sayName", "(I)V"⟩, 52) := ⟨⟨by decide +kernel, by decide +kernel⟩, List.mem_of_getElem? (i := 862) (by decide +kernel), List.mem_of_getElem? (i := 1332) (by decide +kernel), List.mem_of_getElem? (i := 1333) (by decide +kernel)⟩
theorem lw_p90 : lw_okq (⟨"SixteenDeskModel", "say", "(I)V"⟩, 52) := ⟨⟨by decide +kernel, by decide +kernel⟩, List.mem_of_getElem? (i := 862) (by decide +kernel), List.mem_of_getElem? (i := 1336) (by decide +kernel), List.mem_of_getElem? (i := 1337) (by decide +kernel)⟩
theorem lw_p91 : lw_okq (⟨"SixteenDeskModel", "sayNumber", "(I)V"⟩, 52) := ⟨⟨by decide +kernel, by decide +kernel⟩, List.mem_of_getElem? (i := 862) (by decide +kernel), List.mem_of_getElem? (i := 1340) (by decide +kernel), List.mem_of_getElem? (i := 1341) (by decide +kernel)⟩
theorem lw_p92 : lw_okq (⟨"SixteenDeskModel", "isThree", "(II)Z"⟩, 52) := ⟨⟨by decide +kernel, by decide +kernel⟩, List.mem_of_getElem? (i := 862) (by decide +kernel), List.mem_of_getElem? (i := 1344) (by decide +kernel), List.mem_of_getElem? (i := 1345) (by decide +kernel)⟩
theorem lw_p93 : lw_okq (⟨"SixteenDeskModel", "sayTwo", "(II)V"⟩, 52) := ⟨⟨by decide +kernel, by decide +kernel⟩, List.mem_of_getElem? (i := 862) (by decide +kernel), List.mem_of_getElem? (i := 1348) (by decide +kernel), List.mem_of_getElem? (i := 1349) (by decide +kernel)⟩
theorem lw_p94 : lw_okq (⟨"SixteenDeskModel", "sayRegister", "(I)V"⟩, 52) := ⟨⟨by decide +kernel, by decide +kernel⟩, List.mem_of_getElem? (i := 862) (by decide +kernel), List.mem_of_getElem? (i := 1352) (by decide +kernel), List.mem_of_getElem? (i := 1353) (by decide +kernel)⟩
theorem lw_p95 : lw_okq (⟨"SixteenDeskModel", "sayBetween", "()V"⟩, 52) := ⟨⟨by decide +kernel, by decide +kernel⟩, List.mem_of_getElem? (i := 862) (by decide +kernel), List.mem_of_getElem? (i := 1356) (by decide +kernel), List.mem_of_getElem? (i := 1357) (by decide +kernel)⟩
def lw_privs_6 : List (MethodName × Nat) := [(⟨"SixteenDeskModel", "named", "(II)Z"⟩, 52), (⟨"SixteenDeskModel", "instruction", "(I)Z"⟩, 52), (⟨"SixteenDeskModel", "where", "(II)Z"⟩, 52), (⟨"SixteenDeskModel", "three", "(I)Z"⟩, 52), (⟨"SixteenDeskModel", "taken", "(II)Z"⟩, 52), (⟨"SixteenDeskModel", "based", "(I)Z"⟩, 52), (⟨"SixteenDeskModel", "small", "(II)Z"⟩, 52), (⟨"SixteenDeskModel", "isTold", "(I)Z"⟩, 52), (⟨"SixteenDeskModel", "isBranch", "(I)Z"⟩, 52), (⟨"SixteenDeskModel", "sayName", "(I)V"⟩, 52), (⟨"SixteenDeskModel", "say", "(I)V"⟩, 52), (⟨"SixteenDeskModel", "sayNumber", "(I)V"⟩, 52), (⟨"SixteenDeskModel", "isThree", "(II)Z"⟩, 52), (⟨"SixteenDeskModel", "sayTwo", "(II)V"⟩, 52), (⟨"SixteenDeskModel", "sayRegister", "(I)V"⟩, 52), (⟨"SixteenDeskModel", "sayBetween", "()V"⟩, 52)]
theorem lw_r6 : ∀ q ∈ lw_privs_6, lw_okq q := List.forall_mem_cons.mpr ⟨lw_p80, List.forall_mem_cons.mpr ⟨lw_p81, List.forall_mem_cons.mpr ⟨lw_p82, List.forall_mem_cons.mpr ⟨lw_p83, List.forall_mem_cons.mpr ⟨lw_p84, List.forall_mem_cons.mpr ⟨lw_p85, List.forall_mem_cons.mpr ⟨lw_p86, List.forall_mem_cons.mpr ⟨lw_p87, List.forall_mem_cons.mpr ⟨lw_p88, List.forall_mem_cons.mpr ⟨lw_p89, List.forall_mem_cons.mpr ⟨lw_p90, List.forall_mem_cons.mpr ⟨lw_p91, List.forall_mem_cons.mpr ⟨lw_p92, List.forall_mem_cons.mpr ⟨lw_p93, List.forall_mem_cons.mpr ⟨lw_p94, List.forall_mem_cons.mpr ⟨lw_p95, fun _ h => absurd h List.not_mem_nil⟩⟩⟩⟩⟩⟩⟩⟩⟩⟩⟩⟩⟩⟩⟩⟩
theorem lw_p96 : lw_okq (⟨"SixteenDeskModel", "sayWhere", "(II)V"⟩, 52) := ⟨⟨by decide +kernel, by decide +kernel⟩, List.mem_of_getElem? (i := 862) (by decide +kernel), List.mem_of_getElem? (i := 1360) (by decide +kernel), List.mem_of_getElem? (i := 1361) (by decide +kernel)⟩
theorem lw_p97 : lw_okq (⟨"SixteenDeskModel", "isJump", "(I)Z"⟩, 52) := ⟨⟨by decide +kernel, by decide +kernel⟩, List.mem_of_getElem? (i := 862) (by decide +kernel), List.mem_of_getElem? (i := 1364) (by decide +kernel), List.mem_of_getElem? (i := 1365) (by decide +kernel)⟩
theorem lw_p98 : lw_okq (⟨"SixteenDeskModel", "isRest", "(I)Z"⟩, 52) := ⟨⟨by decide +kernel, by decide +kernel⟩, List.mem_of_getElem? (i := 862) (by decide +kernel), List.mem_of_getElem? (i := 1368) (by decide +kernel), List.mem_of_getElem? (i := 1369) (by decide +kernel)⟩
theorem lw_p99 : lw_okq (⟨"SixteenDeskModel", "sayHex", "(II)V"⟩, 52) := ⟨⟨by decide +kernel, by decide +kernel⟩, List.mem_of_getElem? (i := 862) (by decide +kernel), List.mem_of_getElem? (i := 1372) (by decide +kernel), List.mem_of_getElem? (i := 1373) (by decide +kernel)⟩
def lw_privs_7 : List (MethodName × Nat) := [(⟨"SixteenDeskModel", "sayWhere", "(II)V"⟩, 52), (⟨"SixteenDeskModel", "isJump", "(I)Z"⟩, 52), (⟨"SixteenDeskModel", "isRest", "(I)Z"⟩, 52), (⟨"SixteenDeskModel", "sayHex", "(II)V"⟩, 52)]
theorem lw_r7 : ∀ q ∈ lw_privs_7, lw_okq q := List.forall_mem_cons.mpr ⟨lw_p96, List.forall_mem_cons.mpr ⟨lw_p97, List.forall_mem_cons.mpr ⟨lw_p98, List.forall_mem_cons.mpr ⟨lw_p99, fun _ h => absurd h List.not_mem_nil⟩⟩⟩⟩
def lw_privs : List (MethodName × Nat) := lw_privs_1 ++ (lw_privs_2 ++ (lw_privs_3 ++ (lw_privs_4 ++ (lw_privs_5 ++ (lw_privs_6 ++ (lw_privs_7))))))
def lw_tbl : List Cond := k2_sels lw_privs ++ tables_1
theorem lw_privs_ok : ∀ q ∈ lw_privs, lw_okq q := by
  show ∀ q ∈ lw_privs_1 ++ (lw_privs_2 ++ (lw_privs_3 ++ (lw_privs_4 ++ (lw_privs_5 ++ (lw_privs_6 ++ (lw_privs_7)))))), lw_okq q
  exact List.forall_mem_append.mpr ⟨lw_r1, List.forall_mem_append.mpr ⟨lw_r2, List.forall_mem_append.mpr ⟨lw_r3, List.forall_mem_append.mpr ⟨lw_r4, List.forall_mem_append.mpr ⟨lw_r5, List.forall_mem_append.mpr ⟨lw_r6, lw_r7⟩⟩⟩⟩⟩⟩
-- ===== end of PART A; then your names; then what follows =====
end
section
def RX0 : String := "SixteenDesk$Assembler"
def TX0 : u_T := fun k => match k with
  | 0 => ("SixteenDesk$Assembler", "tape", "LSixteenDesk$Bytes;", true)
  | 1 => ("SixteenDesk$Assembler", "tokens", "LSixteenDesk$Tokens;", true)
  | 2 => ("SixteenDesk$Assembler", "heads", "[J", true)
  | 3 => ("SixteenDesk$Assembler", "tails", "[J", true)
  | 4 => ("SixteenDesk$Assembler", "draft", "LSixteenDesk$Program;", false)
  | 5 => ("SixteenDesk$Assembler", "landed", "LSixteenDesk$Program;", false)
  | 6 => ("SixteenDesk$Assembler", "assembled", "Z", false)
  | 7 => ("SixteenDesk$Assembler", "fault", "I", false)
  | 8 => ("SixteenDesk$Assembler", "faultPlace", "I", false)
  | 9 => ("SixteenDesk$Assembler", "second", "Z", false)
  | 10 => ("SixteenDesk$Assembler", "begun", "Z", false)
  | 11 => ("SixteenDesk$Assembler", "ended", "Z", false)
  | _ => ("SixteenDesk$Assembler", "word", "I", false)
def tyX0 : Nat → FieldType := fun k => match k with
  | 0 => .object "SixteenDesk$Bytes"
  | 1 => .object "SixteenDesk$Tokens"
  | 2 => .array .long
  | 3 => .array .long
  | 4 => .object "SixteenDesk$Program"
  | 5 => .object "SixteenDesk$Program"
  | 6 => .boolean
  | 7 => .int
  | 8 => .int
  | 9 => .boolean
  | 10 => .boolean
  | 11 => .boolean
  | _ => .int
abbrev wsX00 : List Cond := u_ws RX0 TX0 13
theorem nmX0 : ∀ a, a < 13 → ∀ b, b < 13 → a ≠ b → (TX0 a).2.1 ≠ (TX0 b).2.1 := by decide +kernel
theorem tyX0_ok : ∀ k, k < 13 → parseFieldDescriptor (TX0 k).2.2.1 = some (tyX0 k) := by decide +kernel
abbrev cX0_init : ByteArray := prog_2_method_1_code
def yX0_init : MethodName := ⟨RX0, "<init>", "(LSixteenDesk$Bytes;)V"⟩
abbrev cX0_translate : ByteArray := prog_2_method_2_code
def yX0_translate : MethodName := ⟨RX0, "translate", "()I"⟩
abbrev cX0_pass : ByteArray := prog_2_method_3_code
def yX0_pass : MethodName := ⟨RX0, "pass", "()V"⟩
abbrev cX0_fail : ByteArray := prog_2_method_4_code
def yX0_fail : MethodName := ⟨RX0, "fail", "(II)V"⟩
abbrev cX0_takeStart : ByteArray := prog_2_method_5_code
def yX0_takeStart : MethodName := ⟨RX0, "takeStart", "()LSixteenDesk$Op;"⟩
abbrev cX0_tellLabel : ByteArray := prog_2_method_6_code
def yX0_tellLabel : MethodName := ⟨RX0, "tellLabel", "()V"⟩
abbrev cX0_findLabel : ByteArray := prog_2_method_7_code
def yX0_findLabel : MethodName := ⟨RX0, "findLabel", "()I"⟩
abbrev cX0_takeStatement : ByteArray := prog_2_method_8_code
def yX0_takeStatement : MethodName := ⟨RX0, "takeStatement", "(LSixteenDesk$Op;)V"⟩
abbrev cX0_takeOperand : ByteArray := prog_2_method_9_code
def yX0_takeOperand : MethodName := ⟨RX0, "takeOperand", "(CI)V"⟩
abbrev cX0_takeRegister : ByteArray := prog_2_method_10_code
def yX0_takeRegister : MethodName := ⟨RX0, "takeRegister", "(I)V"⟩
abbrev cX0_takeNumber : ByteArray := prog_2_method_11_code
def yX0_takeNumber : MethodName := ⟨RX0, "takeNumber", "(III)V"⟩
abbrev cX0_takeSecond : ByteArray := prog_2_method_12_code
def yX0_takeSecond : MethodName := ⟨RX0, "takeSecond", "()V"⟩
abbrev cX0_takeWhere : ByteArray := prog_2_method_13_code
def yX0_takeWhere : MethodName := ⟨RX0, "takeWhere", "(I)V"⟩
abbrev cX0_takeValue : ByteArray := prog_2_method_14_code
def yX0_takeValue : MethodName := ⟨RX0, "takeValue", "()V"⟩
abbrev cX0_placeOfLabel : ByteArray := prog_2_method_15_code
def yX0_placeOfLabel : MethodName := ⟨RX0, "placeOfLabel", "()I"⟩
abbrev cX0_takeBlock : ByteArray := prog_2_method_16_code
def yX0_takeBlock : MethodName := ⟨RX0, "takeBlock", "(I)V"⟩
abbrev cX0_takeText : ByteArray := prog_2_method_17_code
def yX0_takeText : MethodName := ⟨RX0, "takeText", "(I)V"⟩
def RX1 : String := "SixteenDesk$Bytes"
def TX1 : u_T := fun k => match k with
  | 0 => ("SixteenDesk$Bytes", "bytes", "[B", true)
  | _ => ("SixteenDesk$Bytes", "length", "I", false)
def tyX1 : Nat → FieldType := fun k => match k with
  | 0 => .array .byte
  | _ => .int
abbrev wsX10 : List Cond := u_ws RX1 TX1 2
theorem nmX1 : ∀ a, a < 2 → ∀ b, b < 2 → a ≠ b → (TX1 a).2.1 ≠ (TX1 b).2.1 := by decide +kernel
theorem tyX1_ok : ∀ k, k < 2 → parseFieldDescriptor (TX1 k).2.2.1 = some (tyX1 k) := by decide +kernel
abbrev cX1_init : ByteArray := prog_3_method_1_code
def yX1_init : MethodName := ⟨RX1, "<init>", "(I)V"⟩
abbrev cX1_hasRoom : ByteArray := prog_3_method_2_code
def yX1_hasRoom : MethodName := ⟨RX1, "hasRoom", "(I)Z"⟩
abbrev cX1_add : ByteArray := prog_3_method_3_code
def yX1_add : MethodName := ⟨RX1, "add", "(I)V"⟩
abbrev cX1_addFour : ByteArray := prog_3_method_4_code
def yX1_addFour : MethodName := ⟨RX1, "addFour", "(I)V"⟩
abbrev cX1_addText : ByteArray := prog_3_method_5_code
def yX1_addText : MethodName := ⟨RX1, "addText", "(Ljava/lang/String;)V"⟩
abbrev cX1_cut : ByteArray := prog_3_method_6_code
def yX1_cut : MethodName := ⟨RX1, "cut", "(I)V"⟩
abbrev cX1_byteAt : ByteArray := prog_3_method_7_code
def yX1_byteAt : MethodName := ⟨RX1, "byteAt", "(I)I"⟩
def RX2 : String := "SixteenDesk$Keyboard"
def TX2 : u_T := fun k => match k with
  | 0 => ("SixteenDesk$Keyboard", "keys", "[I", true)
  | 1 => ("SixteenDesk$Keyboard", "first", "I", false)
  | 2 => ("SixteenDesk$Keyboard", "waiting", "I", false)
  | 3 => ("SixteenDesk$Keyboard", "readLast", "I", false)
  | _ => ("SixteenDesk$Keyboard", "bit14", "I", false)
def tyX2 : Nat → FieldType := fun k => match k with
  | 0 => .array .int
  | 1 => .int
  | 2 => .int
  | 3 => .int
  | _ => .int
abbrev wsX20 : List Cond := u_ws RX2 TX2 5
theorem nmX2 : ∀ a, a < 5 → ∀ b, b < 5 → a ≠ b → (TX2 a).2.1 ≠ (TX2 b).2.1 := by decide +kernel
theorem tyX2_ok : ∀ k, k < 5 → parseFieldDescriptor (TX2 k).2.2.1 = some (tyX2 k) := by decide +kernel
abbrev cX2_init : ByteArray := prog_4_method_1_code
def yX2_init : MethodName := ⟨RX2, "<init>", "()V"⟩
abbrev cX2_clear : ByteArray := prog_4_method_2_code
def yX2_clear : MethodName := ⟨RX2, "clear", "()V"⟩
abbrev cX2_add : ByteArray := prog_4_method_3_code
def yX2_add : MethodName := ⟨RX2, "add", "(I)Z"⟩
abbrev cX2_status : ByteArray := prog_4_method_4_code
def yX2_status : MethodName := ⟨RX2, "status", "()I"⟩
abbrev cX2_data : ByteArray := prog_4_method_5_code
def yX2_data : MethodName := ⟨RX2, "data", "()I"⟩
abbrev cX2_drop : ByteArray := prog_4_method_6_code
def yX2_drop : MethodName := ⟨RX2, "drop", "()V"⟩
def RX3 : String := "SixteenDesk$Machine"
def TX3 : u_T := fun k => match k with
  | 0 => ("SixteenDesk$Machine", "row", "[I", true)
  | 1 => ("SixteenDesk$Machine", "counts", "[I", true)
  | 2 => ("SixteenDesk$Machine", "memory", "LSixteenDesk$Memory;", true)
  | 3 => ("SixteenDesk$Machine", "keyboard", "LSixteenDesk$Keyboard;", true)
  | 4 => ("SixteenDesk$Machine", "printer", "LSixteenDesk$Printer;", true)
  | 5 => ("SixteenDesk$Machine", "state", "I", false)
  | _ => ("SixteenDesk$Machine", "raised", "I", false)
def tyX3 : Nat → FieldType := fun k => match k with
  | 0 => .array .int
  | 1 => .array .int
  | 2 => .object "SixteenDesk$Memory"
  | 3 => .object "SixteenDesk$Keyboard"
  | 4 => .object "SixteenDesk$Printer"
  | 5 => .int
  | _ => .int
abbrev wsX30 : List Cond := u_ws RX3 TX3 7
theorem nmX3 : ∀ a, a < 7 → ∀ b, b < 7 → a ≠ b → (TX3 a).2.1 ≠ (TX3 b).2.1 := by decide +kernel
theorem tyX3_ok : ∀ k, k < 7 → parseFieldDescriptor (TX3 k).2.2.1 = some (tyX3 k) := by decide +kernel
abbrev cX3_init : ByteArray := prog_5_method_1_code
def yX3_init : MethodName := ⟨RX3, "<init>", "()V"⟩
abbrev cX3_clearRegisters : ByteArray := prog_5_method_2_code
def yX3_clearRegisters : MethodName := ⟨RX3, "clearRegisters", "()V"⟩
abbrev cX3_restart : ByteArray := prog_5_method_3_code
def yX3_restart : MethodName := ⟨RX3, "restart", "(LSixteenDesk$Program;)V"⟩
abbrev cX3_typed : ByteArray := prog_5_method_4_code
def yX3_typed : MethodName := ⟨RX3, "typed", "(I)Z"⟩
abbrev cX3_go : ByteArray := prog_5_method_5_code
def yX3_go : MethodName := ⟨RX3, "go", "(I)I"⟩
abbrev cX3_step : ByteArray := prog_5_method_6_code
def yX3_step : MethodName := ⟨RX3, "step", "()V"⟩
abbrev cX3_perform : ByteArray := prog_5_method_7_code
def yX3_perform : MethodName := ⟨RX3, "perform", "(I)V"⟩
abbrev cX3_second : ByteArray := prog_5_method_8_code
def yX3_second : MethodName := ⟨RX3, "second", "(I)I"⟩
abbrev cX3_settle : ByteArray := prog_5_method_9_code
def yX3_settle : MethodName := ⟨RX3, "settle", "(II)V"⟩
abbrev cX3_receive : ByteArray := prog_5_method_10_code
def yX3_receive : MethodName := ⟨RX3, "receive", "(II)V"⟩
abbrev cX3_give : ByteArray := prog_5_method_11_code
def yX3_give : MethodName := ⟨RX3, "give", "(II)V"⟩
abbrev cX3_callAway : ByteArray := prog_5_method_12_code
def yX3_callAway : MethodName := ⟨RX3, "callAway", "(II)V"⟩
abbrev cX3_comeBack : ByteArray := prog_5_method_13_code
def yX3_comeBack : MethodName := ⟨RX3, "comeBack", "()V"⟩
abbrev cX3_trap : ByteArray := prog_5_method_14_code
def yX3_trap : MethodName := ⟨RX3, "trap", "(I)V"⟩
abbrev cX3_takeKey : ByteArray := prog_5_method_15_code
def yX3_takeKey : MethodName := ⟨RX3, "takeKey", "(Z)V"⟩
abbrev cX3_printWords : ByteArray := prog_5_method_16_code
def yX3_printWords : MethodName := ⟨RX3, "printWords", "(Z)V"⟩
abbrev cX3_enter : ByteArray := prog_5_method_17_code
def yX3_enter : MethodName := ⟨RX3, "enter", "(I)V"⟩
abbrev cX3_isBarred : ByteArray := prog_5_method_18_code
def yX3_isBarred : MethodName := ⟨RX3, "isBarred", "(I)Z"⟩
abbrev cX3_look : ByteArray := prog_5_method_19_code
def yX3_look : MethodName := ⟨RX3, "look", "(I)I"⟩
abbrev cX3_fetch : ByteArray := prog_5_method_20_code
def yX3_fetch : MethodName := ⟨RX3, "fetch", "(I)I"⟩
abbrev cX3_put : ByteArray := prog_5_method_21_code
def yX3_put : MethodName := ⟨RX3, "put", "(II)V"⟩
def RX4 : String := "SixteenDesk$Memory"
def TX4 : u_T := fun k => match k with
  | _ => ("SixteenDesk$Memory", "pages", "[[I", true)
def tyX4 : Nat → FieldType := fun k => match k with
  | _ => .array (.array .int)
abbrev wsX40 : List Cond := u_ws RX4 TX4 1
theorem nmX4 : ∀ a, a < 1 → ∀ b, b < 1 → a ≠ b → (TX4 a).2.1 ≠ (TX4 b).2.1 := by decide +kernel
theorem tyX4_ok : ∀ k, k < 1 → parseFieldDescriptor (TX4 k).2.2.1 = some (tyX4 k) := by decide +kernel
abbrev cX4_init : ByteArray := prog_6_method_1_code
def yX4_init : MethodName := ⟨RX4, "<init>", "()V"⟩
abbrev cX4_at : ByteArray := prog_6_method_2_code
def yX4_at : MethodName := ⟨RX4, "at", "(I)I"⟩
abbrev cX4_keep : ByteArray := prog_6_method_3_code
def yX4_keep : MethodName := ⟨RX4, "keep", "(II)V"⟩
def RX5 : String := "SixteenDesk$Op"
def TX5 : u_T := fun k => match k with
  | _ => ("", "", "", false)
def tyX5 : Nat → FieldType := fun k => match k with
  | _ => .int
abbrev wsX50 : List Cond := u_ws RX5 TX5 0
theorem nmX5 : ∀ a, a < 0 → ∀ b, b < 0 → a ≠ b → (TX5 a).2.1 ≠ (TX5 b).2.1 := by decide +kernel
theorem tyX5_ok : ∀ k, k < 0 → parseFieldDescriptor (TX5 k).2.2.1 = some (tyX5 k) := by decide +kernel
abbrev cX5_takesOneWord : ByteArray := prog_7_method_4_code
def yX5_takesOneWord : MethodName := ⟨RX5, "takesOneWord", "()Z"⟩
abbrev cX5_gives : ByteArray := prog_7_method_5_code
def yX5_gives : MethodName := ⟨RX5, "gives", "(I)Z"⟩
def RX6 : String := "SixteenDesk$Printer"
def TX6 : u_T := fun k => match k with
  | 0 => ("SixteenDesk$Printer", "kept", "[B", true)
  | 1 => ("SixteenDesk$Printer", "length", "I", false)
  | _ => ("SixteenDesk$Printer", "total", "I", false)
def tyX6 : Nat → FieldType := fun k => match k with
  | 0 => .array .byte
  | 1 => .int
  | _ => .int
abbrev wsX60 : List Cond := u_ws RX6 TX6 3
theorem nmX6 : ∀ a, a < 3 → ∀ b, b < 3 → a ≠ b → (TX6 a).2.1 ≠ (TX6 b).2.1 := by decide +kernel
theorem tyX6_ok : ∀ k, k < 3 → parseFieldDescriptor (TX6 k).2.2.1 = some (tyX6 k) := by decide +kernel
abbrev cX6_init : ByteArray := prog_8_method_1_code
def yX6_init : MethodName := ⟨RX6, "<init>", "()V"⟩
abbrev cX6_add : ByteArray := prog_8_method_2_code
def yX6_add : MethodName := ⟨RX6, "add", "(I)V"⟩
abbrev cX6_byteAt : ByteArray := prog_8_method_3_code
def yX6_byteAt : MethodName := ⟨RX6, "byteAt", "(I)I"⟩
def RX7 : String := "SixteenDesk$Program"
def TX7 : u_T := fun k => match k with
  | 0 => ("SixteenDesk$Program", "words", "[I", true)
  | 1 => ("SixteenDesk$Program", "places", "[I", true)
  | 2 => ("SixteenDesk$Program", "size", "I", false)
  | 3 => ("SixteenDesk$Program", "labels", "I", false)
  | _ => ("SixteenDesk$Program", "origin", "I", false)
def tyX7 : Nat → FieldType := fun k => match k with
  | 0 => .array .int
  | 1 => .array .int
  | 2 => .int
  | 3 => .int
  | _ => .int
abbrev wsX70 : List Cond := u_ws RX7 TX7 5
theorem nmX7 : ∀ a, a < 5 → ∀ b, b < 5 → a ≠ b → (TX7 a).2.1 ≠ (TX7 b).2.1 := by decide +kernel
theorem tyX7_ok : ∀ k, k < 5 → parseFieldDescriptor (TX7 k).2.2.1 = some (tyX7 k) := by decide +kernel
abbrev cX7_init : ByteArray := prog_9_method_1_code
def yX7_init : MethodName := ⟨RX7, "<init>", "()V"⟩
abbrev cX7_hasRoom : ByteArray := prog_9_method_2_code
def yX7_hasRoom : MethodName := ⟨RX7, "hasRoom", "(I)Z"⟩
abbrev cX7_add : ByteArray := prog_9_method_3_code
def yX7_add : MethodName := ⟨RX7, "add", "(I)V"⟩
abbrev cX7_here : ByteArray := prog_9_method_4_code
def yX7_here : MethodName := ⟨RX7, "here", "()I"⟩
def RX8 : String := "SixteenDesk$Tokens"
def TX8 : u_T := fun k => match k with
  | 0 => ("SixteenDesk$Tokens", "tape", "LSixteenDesk$Bytes;", true)
  | 1 => ("SixteenDesk$Tokens", "at", "I", false)
  | 2 => ("SixteenDesk$Tokens", "kind", "I", false)
  | 3 => ("SixteenDesk$Tokens", "start", "I", false)
  | 4 => ("SixteenDesk$Tokens", "value", "I", false)
  | 5 => ("SixteenDesk$Tokens", "op", "LSixteenDesk$Op;", false)
  | 6 => ("SixteenDesk$Tokens", "head", "J", false)
  | _ => ("SixteenDesk$Tokens", "tail", "J", false)
def tyX8 : Nat → FieldType := fun k => match k with
  | 0 => .object "SixteenDesk$Bytes"
  | 1 => .int
  | 2 => .int
  | 3 => .int
  | 4 => .int
  | 5 => .object "SixteenDesk$Op"
  | 6 => .long
  | _ => .long
abbrev wsX80 : List Cond := u_ws RX8 TX8 8
theorem nmX8 : ∀ a, a < 8 → ∀ b, b < 8 → a ≠ b → (TX8 a).2.1 ≠ (TX8 b).2.1 := by decide +kernel
theorem tyX8_ok : ∀ k, k < 8 → parseFieldDescriptor (TX8 k).2.2.1 = some (tyX8 k) := by decide +kernel
abbrev cX8_init : ByteArray := prog_10_method_1_code
def yX8_init : MethodName := ⟨RX8, "<init>", "(LSixteenDesk$Bytes;)V"⟩
abbrev cX8_rewind : ByteArray := prog_10_method_2_code
def yX8_rewind : MethodName := ⟨RX8, "rewind", "()V"⟩
abbrev cX8_nextLine : ByteArray := prog_10_method_3_code
def yX8_nextLine : MethodName := ⟨RX8, "nextLine", "()Z"⟩
abbrev cX8_advance : ByteArray := prog_10_method_4_code
def yX8_advance : MethodName := ⟨RX8, "advance", "()V"⟩
abbrev cX8_skipNothings : ByteArray := prog_10_method_5_code
def yX8_skipNothings : MethodName := ⟨RX8, "skipNothings", "()V"⟩
abbrev cX8_readText : ByteArray := prog_10_method_6_code
def yX8_readText : MethodName := ⟨RX8, "readText", "()V"⟩
abbrev cX8_readWord : ByteArray := prog_10_method_7_code
def yX8_readWord : MethodName := ⟨RX8, "readWord", "()V"⟩
abbrev cX8_findOp : ByteArray := prog_10_method_8_code
def yX8_findOp : MethodName := ⟨RX8, "findOp", "()Z"⟩
abbrev cX8_findRegister : ByteArray := prog_10_method_9_code
def yX8_findRegister : MethodName := ⟨RX8, "findRegister", "()Z"⟩
abbrev cX8_findNumber : ByteArray := prog_10_method_10_code
def yX8_findNumber : MethodName := ⟨RX8, "findNumber", "()Z"⟩
def RX9 : String := "SixteenDesk$Writer"
def TX9 : u_T := fun k => match k with
  | _ => ("SixteenDesk$Writer", "line", "LSixteenDesk$Bytes;", true)
def tyX9 : Nat → FieldType := fun k => match k with
  | _ => .object "SixteenDesk$Bytes"
abbrev wsX90 : List Cond := u_ws RX9 TX9 1
theorem nmX9 : ∀ a, a < 1 → ∀ b, b < 1 → a ≠ b → (TX9 a).2.1 ≠ (TX9 b).2.1 := by decide +kernel
theorem tyX9_ok : ∀ k, k < 1 → parseFieldDescriptor (TX9 k).2.2.1 = some (tyX9 k) := by decide +kernel
abbrev cX9_init : ByteArray := prog_11_method_1_code
def yX9_init : MethodName := ⟨RX9, "<init>", "()V"⟩
abbrev cX9_tell : ByteArray := prog_11_method_2_code
def yX9_tell : MethodName := ⟨RX9, "tell", "(I)V"⟩
abbrev cX9_opOf : ByteArray := prog_11_method_3_code
def yX9_opOf : MethodName := ⟨RX9, "opOf", "(I)LSixteenDesk$Op;"⟩
abbrev cX9_tellOperand : ByteArray := prog_11_method_4_code
def yX9_tellOperand : MethodName := ⟨RX9, "tellOperand", "(CI)V"⟩
abbrev cX9_tellRegister : ByteArray := prog_11_method_5_code
def yX9_tellRegister : MethodName := ⟨RX9, "tellRegister", "(I)V"⟩
abbrev cX9_tellNumber : ByteArray := prog_11_method_6_code
def yX9_tellNumber : MethodName := ⟨RX9, "tellNumber", "(I)V"⟩
abbrev cX9_tellHexadecimals : ByteArray := prog_11_method_7_code
def yX9_tellHexadecimals : MethodName := ⟨RX9, "tellHexadecimals", "(II)V"⟩
def RX10 : String := "SixteenDesk"
def TX10 : u_T := fun k => match k with
  | 0 => ("SixteenDesk", "tape", "LSixteenDesk$Bytes;", true)
  | 1 => ("SixteenDesk", "assembler", "LSixteenDesk$Assembler;", true)
  | 2 => ("SixteenDesk", "machine", "LSixteenDesk$Machine;", true)
  | _ => ("SixteenDesk", "writer", "LSixteenDesk$Writer;", true)
def tyX10 : Nat → FieldType := fun k => match k with
  | 0 => .object "SixteenDesk$Bytes"
  | 1 => .object "SixteenDesk$Assembler"
  | 2 => .object "SixteenDesk$Machine"
  | _ => .object "SixteenDesk$Writer"
abbrev wsX100 : List Cond := u_ws RX10 TX10 4
theorem nmX10 : ∀ a, a < 4 → ∀ b, b < 4 → a ≠ b → (TX10 a).2.1 ≠ (TX10 b).2.1 := by decide +kernel
theorem tyX10_ok : ∀ k, k < 4 → parseFieldDescriptor (TX10 k).2.2.1 = some (tyX10 k) := by decide +kernel
abbrev cX10_init : ByteArray := prog_1_method_1_code
def yX10_init : MethodName := ⟨RX10, "<init>", "()V"⟩
abbrev cX10_feed : ByteArray := prog_1_method_2_code
def yX10_feed : MethodName := ⟨RX10, "feed", "(IIIII)I"⟩
abbrev cX10_end : ByteArray := prog_1_method_3_code
def yX10_end : MethodName := ⟨RX10, "end", "(I)Z"⟩
abbrev cX10_assemble : ByteArray := prog_1_method_4_code
def yX10_assemble : MethodName := ⟨RX10, "assemble", "()I"⟩
abbrev cX10_told : ByteArray := prog_1_method_5_code
def yX10_told : MethodName := ⟨RX10, "told", "(I)I"⟩
abbrev cX10_word : ByteArray := prog_1_method_6_code
def yX10_word : MethodName := ⟨RX10, "word", "(I)I"⟩
abbrev cX10_label : ByteArray := prog_1_method_7_code
def yX10_label : MethodName := ⟨RX10, "label", "(I)I"⟩
abbrev cX10_load : ByteArray := prog_1_method_8_code
def yX10_load : MethodName := ⟨RX10, "load", "()Z"⟩
abbrev cX10_key : ByteArray := prog_1_method_9_code
def yX10_key : MethodName := ⟨RX10, "key", "(I)Z"⟩
abbrev cX10_run : ByteArray := prog_1_method_10_code
def yX10_run : MethodName := ⟨RX10, "run", "(I)I"⟩
abbrev cX10_state : ByteArray := prog_1_method_11_code
def yX10_state : MethodName := ⟨RX10, "state", "()I"⟩
abbrev cX10_register : ByteArray := prog_1_method_12_code
def yX10_register : MethodName := ⟨RX10, "register", "(I)I"⟩
abbrev cX10_set : ByteArray := prog_1_method_13_code
def yX10_set : MethodName := ⟨RX10, "set", "(II)Z"⟩
abbrev cX10_peek : ByteArray := prog_1_method_14_code
def yX10_peek : MethodName := ⟨RX10, "peek", "(I)I"⟩
abbrev cX10_poke : ByteArray := prog_1_method_15_code
def yX10_poke : MethodName := ⟨RX10, "poke", "(II)V"⟩
abbrev cX10_write : ByteArray := prog_1_method_16_code
def yX10_write : MethodName := ⟨RX10, "write", "(I)I"⟩
abbrev cX10_written : ByteArray := prog_1_method_17_code
def yX10_written : MethodName := ⟨RX10, "written", "(I)I"⟩
abbrev cX10_again : ByteArray := prog_1_method_18_code
def yX10_again : MethodName := ⟨RX10, "again", "()I"⟩
abbrev cX10_printed : ByteArray := prog_1_method_19_code
def yX10_printed : MethodName := ⟨RX10, "printed", "()I"⟩
abbrev cX10_print : ByteArray := prog_1_method_20_code
def yX10_print : MethodName := ⟨RX10, "print", "(I)I"⟩
abbrev cX10_count : ByteArray := prog_1_method_21_code
def yX10_count : MethodName := ⟨RX10, "count", "(I)I"⟩
abbrev cX10_signOf : ByteArray := prog_1_method_22_code
def yX10_signOf : MethodName := ⟨RX10, "signOf", "(I)I"⟩
abbrev cX10_digitOf : ByteArray := prog_1_method_23_code
def yX10_digitOf : MethodName := ⟨RX10, "digitOf", "(I)I"⟩
abbrev cX10_meaning : ByteArray := prog_1_method_24_code
def yX10_meaning : MethodName := ⟨RX10, "meaning", "(I)I"⟩
abbrev cX10_signed : ByteArray := prog_1_method_25_code
def yX10_signed : MethodName := ⟨RX10, "signed", "(II)I"⟩
def RX11 : String := "SixteenDeskModel"
def TX11 : u_T := fun k => match k with
  | 0 => ("SixteenDeskModel", "thrown", "I", false)
  | 1 => ("SixteenDeskModel", "memory", "[I", true)
  | 2 => ("SixteenDeskModel", "\x72", "[I", true)
  | 3 => ("SixteenDeskModel", "pc", "I", false)
  | 4 => ("SixteenDeskModel", "psr", "I", false)
  | 5 => ("SixteenDeskModel", "superStack", "I", false)
  | 6 => ("SixteenDeskModel", "userStack", "I", false)
  | 7 => ("SixteenDeskModel", "state", "I", false)
  | 8 => ("SixteenDeskModel", "mayInterrupt", "Z", false)
  | 9 => ("SixteenDeskModel", "lastRead", "I", false)
  | 10 => ("SixteenDeskModel", "keys", "[I", true)
  | 11 => ("SixteenDeskModel", "waiting", "I", false)
  | 12 => ("SixteenDeskModel", "prints", "[I", true)
  | 13 => ("SixteenDeskModel", "printed", "I", false)
  | 14 => ("SixteenDeskModel", "kept", "I", false)
  | 15 => ("SixteenDeskModel", "steps", "I", false)
  | 16 => ("SixteenDeskModel", "interrupts", "I", false)
  | 17 => ("SixteenDeskModel", "exceptions", "I", false)
  | 18 => ("SixteenDeskModel", "goings", "I", false)
  | 19 => ("SixteenDeskModel", "isFault", "Z", false)
  | 20 => ("SixteenDeskModel", "tape", "[I", true)
  | 21 => ("SixteenDeskModel", "taped", "I", false)
  | 22 => ("SixteenDeskModel", "words", "[I", true)
  | 23 => ("SixteenDeskModel", "wordMany", "I", false)
  | 24 => ("SixteenDeskModel", "origin", "I", false)
  | 25 => ("SixteenDeskModel", "isAssembled", "Z", false)
  | 26 => ("SixteenDeskModel", "labels", "[I", true)
  | 27 => ("SixteenDeskModel", "labelMany", "I", false)
  | 28 => ("SixteenDeskModel", "fault", "I", false)
  | 29 => ("SixteenDeskModel", "faultPlace", "I", false)
  | 30 => ("SixteenDeskModel", "made", "[I", true)
  | 31 => ("SixteenDeskModel", "madeMany", "I", false)
  | 32 => ("SixteenDeskModel", "from", "I", false)
  | 33 => ("SixteenDeskModel", "toldAt", "[I", true)
  | 34 => ("SixteenDeskModel", "toldLong", "[I", true)
  | 35 => ("SixteenDeskModel", "toldPlace", "[I", true)
  | 36 => ("SixteenDeskModel", "toldMany", "I", false)
  | 37 => ("SixteenDeskModel", "line", "[I", true)
  | 38 => ("SixteenDeskModel", "lineMany", "I", false)
  | 39 => ("SixteenDeskModel", "size", "I", false)
  | 40 => ("SixteenDeskModel", "p", "I", false)
  | 41 => ("SixteenDeskModel", "kind", "I", false)
  | 42 => ("SixteenDeskModel", "tokenAt", "I", false)
  | 43 => ("SixteenDeskModel", "tokenEnd", "I", false)
  | 44 => ("SixteenDeskModel", "number", "I", false)
  | 45 => ("SixteenDeskModel", "text", "[I", true)
  | 46 => ("SixteenDeskModel", "textMany", "I", false)
  | 47 => ("SixteenDeskModel", "isSecond", "Z", false)
  | 48 => ("SixteenDeskModel", "place", "I", false)
  | 49 => ("SixteenDeskModel", "hasBegun", "Z", false)
  | 50 => ("SixteenDeskModel", "isOver", "Z", false)
  | _ => ("SixteenDeskModel", "made1", "I", false)
def tyX11 : Nat → FieldType := fun k => match k with
  | 0 => .int
  | 1 => .array .int
  | 2 => .array .int
  | 3 => .int
  | 4 => .int
  | 5 => .int
  | 6 => .int
  | 7 => .int
  | 8 => .boolean
  | 9 => .int
  | 10 => .array .int
  | 11 => .int
  | 12 => .array .int
  | 13 => .int
  | 14 => .int
  | 15 => .int
  | 16 => .int
  | 17 => .int
  | 18 => .int
  | 19 => .boolean
  | 20 => .array .int
  | 21 => .int
  | 22 => .array .int
  | 23 => .int
  | 24 => .int
  | 25 => .boolean
  | 26 => .array .int
  | 27 => .int
  | 28 => .int
  | 29 => .int
  | 30 => .array .int
  | 31 => .int
  | 32 => .int
  | 33 => .array .int
  | 34 => .array .int
  | 35 => .array .int
  | 36 => .int
  | 37 => .array .int
  | 38 => .int
  | 39 => .int
  | 40 => .int
  | 41 => .int
  | 42 => .int
  | 43 => .int
  | 44 => .int
  | 45 => .array .int
  | 46 => .int
  | 47 => .boolean
  | 48 => .int
  | 49 => .boolean
  | 50 => .boolean
  | _ => .int
abbrev wsX110 : List Cond := u_ws RX11 TX11 52
theorem nmX11 : ∀ a, a < 52 → ∀ b, b < 52 → a ≠ b → (TX11 a).2.1 ≠ (TX11 b).2.1 := by decide +kernel
theorem tyX11_ok : ∀ k, k < 52 → parseFieldDescriptor (TX11 k).2.2.1 = some (tyX11 k) := by decide +kernel
abbrev cX11_init : ByteArray := prog_13_method_1_code
def yX11_init : MethodName := ⟨RX11, "<init>", "()V"⟩
abbrev cX11_thrown : ByteArray := prog_13_method_2_code
def yX11_thrown : MethodName := ⟨RX11, "thrown", "()I"⟩
abbrev cX11_first : ByteArray := prog_13_method_3_code
def yX11_first : MethodName := ⟨RX11, "first", "()V"⟩
abbrev cX11_cut : ByteArray := prog_13_method_4_code
def yX11_cut : MethodName := ⟨RX11, "cut", "(I)I"⟩
abbrev cX11_signed : ByteArray := prog_13_method_5_code
def yX11_signed : MethodName := ⟨RX11, "signed", "(II)I"⟩
abbrev cX11_isUser : ByteArray := prog_13_method_6_code
def yX11_isUser : MethodName := ⟨RX11, "isUser", "()Z"⟩
abbrev cX11_seen : ByteArray := prog_13_method_7_code
def yX11_seen : MethodName := ⟨RX11, "seen", "(I)I"⟩
abbrev cX11_takeKey : ByteArray := prog_13_method_8_code
def yX11_takeKey : MethodName := ⟨RX11, "takeKey", "()I"⟩
abbrev cX11_get : ByteArray := prog_13_method_9_code
def yX11_get : MethodName := ⟨RX11, "get", "(I)I"⟩
abbrev cX11_put : ByteArray := prog_13_method_10_code
def yX11_put : MethodName := ⟨RX11, "put", "(II)V"⟩
abbrev cX11_prints : ByteArray := prog_13_method_11_code
def yX11_prints : MethodName := ⟨RX11, "prints", "(I)V"⟩
abbrev cX11_isOut : ByteArray := prog_13_method_12_code
def yX11_isOut : MethodName := ⟨RX11, "isOut", "(I)Z"⟩
abbrev cX11_read : ByteArray := prog_13_method_13_code
def yX11_read : MethodName := ⟨RX11, "read", "(I)I"⟩
abbrev cX11_writes : ByteArray := prog_13_method_14_code
def yX11_writes : MethodName := ⟨RX11, "writes", "(II)V"⟩
abbrev cX11_comes : ByteArray := prog_13_method_15_code
def yX11_comes : MethodName := ⟨RX11, "comes", "(II)V"⟩
abbrev cX11_goIn : ByteArray := prog_13_method_16_code
def yX11_goIn : MethodName := ⟨RX11, "goIn", "()V"⟩
abbrev cX11_exception : ByteArray := prog_13_method_17_code
def yX11_exception : MethodName := ⟨RX11, "exception", "(I)V"⟩
abbrev cX11_step : ByteArray := prog_13_method_18_code
def yX11_step : MethodName := ⟨RX11, "step", "()V"⟩
abbrev cX11_does : ByteArray := prog_13_method_19_code
def yX11_does : MethodName := ⟨RX11, "does", "(II)V"⟩
abbrev cX11_second : ByteArray := prog_13_method_20_code
def yX11_second : MethodName := ⟨RX11, "second", "(I)I"⟩
abbrev cX11_comesBack : ByteArray := prog_13_method_21_code
def yX11_comesBack : MethodName := ⟨RX11, "comesBack", "()V"⟩
abbrev cX11_trap : ByteArray := prog_13_method_22_code
def yX11_trap : MethodName := ⟨RX11, "trap", "(II)V"⟩
abbrev cX11_string : ByteArray := prog_13_method_23_code
def yX11_string : MethodName := ⟨RX11, "string", "(Z)V"⟩
abbrev cX11_key : ByteArray := prog_13_method_24_code
def yX11_key : MethodName := ⟨RX11, "key", "(I)Z"⟩
abbrev cX11_run : ByteArray := prog_13_method_25_code
def yX11_run : MethodName := ⟨RX11, "run", "(I)I"⟩
abbrev cX11_state : ByteArray := prog_13_method_26_code
def yX11_state : MethodName := ⟨RX11, "state", "()I"⟩
abbrev cX11_register : ByteArray := prog_13_method_27_code
def yX11_register : MethodName := ⟨RX11, "register", "(I)I"⟩
abbrev cX11_set : ByteArray := prog_13_method_28_code
def yX11_set : MethodName := ⟨RX11, "set", "(II)Z"⟩
abbrev cX11_peek : ByteArray := prog_13_method_29_code
def yX11_peek : MethodName := ⟨RX11, "peek", "(I)I"⟩
abbrev cX11_poke : ByteArray := prog_13_method_30_code
def yX11_poke : MethodName := ⟨RX11, "poke", "(II)V"⟩
abbrev cX11_printed : ByteArray := prog_13_method_31_code
def yX11_printed : MethodName := ⟨RX11, "printed", "()I"⟩
abbrev cX11_count : ByteArray := prog_13_method_32_code
def yX11_count : MethodName := ⟨RX11, "count", "(I)I"⟩
abbrev cX11_four : ByteArray := prog_13_method_33_code
def yX11_four : MethodName := ⟨RX11, "four", "(I)V"⟩
abbrev cX11_feed : ByteArray := prog_13_method_34_code
def yX11_feed : MethodName := ⟨RX11, "feed", "(IIIII)I"⟩
abbrev cX11_end : ByteArray := prog_13_method_35_code
def yX11_end : MethodName := ⟨RX11, "end", "(I)Z"⟩
abbrev cX11_sign : ByteArray := prog_13_method_36_code
def yX11_sign : MethodName := ⟨RX11, "sign", "(I)I"⟩
abbrev cX11_great : ByteArray := prog_13_method_37_code
def yX11_great : MethodName := ⟨RX11, "great", "(I)I"⟩
abbrev cX11_isLetter : ByteArray := prog_13_method_38_code
def yX11_isLetter : MethodName := ⟨RX11, "isLetter", "(I)Z"⟩
abbrev cX11_isDigit : ByteArray := prog_13_method_39_code
def yX11_isDigit : MethodName := ⟨RX11, "isDigit", "(I)Z"⟩
abbrev cX11_isOfWord : ByteArray := prog_13_method_40_code
def yX11_isOfWord : MethodName := ⟨RX11, "isOfWord", "(I)Z"⟩
abbrev cX11_isBlank : ByteArray := prog_13_method_41_code
def yX11_isBlank : MethodName := ⟨RX11, "isBlank", "(I)Z"⟩
abbrev cX11_next : ByteArray := prog_13_method_42_code
def yX11_next : MethodName := ⟨RX11, "next", "()V"⟩
abbrev cX11_isText : ByteArray := prog_13_method_43_code
def yX11_isText : MethodName := ⟨RX11, "isText", "()Z"⟩
abbrev cX11_figure : ByteArray := prog_13_method_44_code
def yX11_figure : MethodName := ⟨RX11, "figure", "(I)I"⟩
abbrev cX11_isNumber : ByteArray := prog_13_method_45_code
def yX11_isNumber : MethodName := ⟨RX11, "isNumber", "()Z"⟩
abbrev cX11_isRegister : ByteArray := prog_13_method_46_code
def yX11_isRegister : MethodName := ⟨RX11, "isRegister", "()Z"⟩
abbrev cX11_name : ByteArray := prog_13_method_47_code
def yX11_name : MethodName := ⟨RX11, "name", "()I"⟩
abbrev cX11_isLabel : ByteArray := prog_13_method_48_code
def yX11_isLabel : MethodName := ⟨RX11, "isLabel", "()Z"⟩
abbrev cX11_wrong : ByteArray := prog_13_method_49_code
def yX11_wrong : MethodName := ⟨RX11, "wrong", "(II)Z"⟩
abbrev cX11_wrongToken : ByteArray := prog_13_method_50_code
def yX11_wrongToken : MethodName := ⟨RX11, "wrongToken", "()Z"⟩
abbrev cX11_assemble : ByteArray := prog_13_method_51_code
def yX11_assemble : MethodName := ⟨RX11, "assemble", "()I"⟩
abbrev cX11_pass : ByteArray := prog_13_method_52_code
def yX11_pass : MethodName := ⟨RX11, "pass", "()Z"⟩
abbrev cX11_line : ByteArray := prog_13_method_53_code
def yX11_line : MethodName := ⟨RX11, "line", "()Z"⟩
abbrev cX11_begins : ByteArray := prog_13_method_54_code
def yX11_begins : MethodName := ⟨RX11, "begins", "()Z"⟩
abbrev cX11_which : ByteArray := prog_13_method_55_code
def yX11_which : MethodName := ⟨RX11, "which", "()I"⟩
abbrev cX11_tells : ByteArray := prog_13_method_56_code
def yX11_tells : MethodName := ⟨RX11, "tells", "()Z"⟩
abbrev cX11_hasRoom : ByteArray := prog_13_method_57_code
def yX11_hasRoom : MethodName := ⟨RX11, "hasRoom", "(II)Z"⟩
abbrev cX11_lay : ByteArray := prog_13_method_58_code
def yX11_lay : MethodName := ⟨RX11, "lay", "(I)V"⟩
abbrev cX11_dotted : ByteArray := prog_13_method_59_code
def yX11_dotted : MethodName := ⟨RX11, "dotted", "(II)Z"⟩
abbrev cX11_value : ByteArray := prog_13_method_60_code
def yX11_value : MethodName := ⟨RX11, "value", "(IIZ)Z"⟩
abbrev cX11_taken : ByteArray := prog_13_method_61_code
def yX11_taken : MethodName := ⟨RX11, "taken", "(II)Z"⟩
abbrev cX11_small : ByteArray := prog_13_method_62_code
def yX11_small : MethodName := ⟨RX11, "small", "(II)Z"⟩
abbrev cX11_where : ByteArray := prog_13_method_63_code
def yX11_where : MethodName := ⟨RX11, "where", "(II)Z"⟩
abbrev cX11_named : ByteArray := prog_13_method_64_code
def yX11_named : MethodName := ⟨RX11, "named", "(II)Z"⟩
abbrev cX11_instruction : ByteArray := prog_13_method_65_code
def yX11_instruction : MethodName := ⟨RX11, "instruction", "(I)Z"⟩
abbrev cX11_three : ByteArray := prog_13_method_66_code
def yX11_three : MethodName := ⟨RX11, "three", "(I)Z"⟩
abbrev cX11_based : ByteArray := prog_13_method_67_code
def yX11_based : MethodName := ⟨RX11, "based", "(I)Z"⟩
abbrev cX11_told : ByteArray := prog_13_method_68_code
def yX11_told : MethodName := ⟨RX11, "told", "(I)I"⟩
abbrev cX11_word : ByteArray := prog_13_method_69_code
def yX11_word : MethodName := ⟨RX11, "word", "(I)I"⟩
abbrev cX11_label : ByteArray := prog_13_method_70_code
def yX11_label : MethodName := ⟨RX11, "label", "(I)I"⟩
abbrev cX11_load : ByteArray := prog_13_method_71_code
def yX11_load : MethodName := ⟨RX11, "load", "()Z"⟩
abbrev cX11_say : ByteArray := prog_13_method_72_code
def yX11_say : MethodName := ⟨RX11, "say", "(I)V"⟩
abbrev cX11_sayName : ByteArray := prog_13_method_73_code
def yX11_sayName : MethodName := ⟨RX11, "sayName", "(I)V"⟩
abbrev cX11_sayRegister : ByteArray := prog_13_method_74_code
def yX11_sayRegister : MethodName := ⟨RX11, "sayRegister", "(I)V"⟩
abbrev cX11_sayBetween : ByteArray := prog_13_method_75_code
def yX11_sayBetween : MethodName := ⟨RX11, "sayBetween", "()V"⟩
abbrev cX11_sayNumber : ByteArray := prog_13_method_76_code
def yX11_sayNumber : MethodName := ⟨RX11, "sayNumber", "(I)V"⟩
abbrev cX11_sayHex : ByteArray := prog_13_method_77_code
def yX11_sayHex : MethodName := ⟨RX11, "sayHex", "(II)V"⟩
abbrev cX11_write : ByteArray := prog_13_method_78_code
def yX11_write : MethodName := ⟨RX11, "write", "(I)I"⟩
abbrev cX11_sayWhere : ByteArray := prog_13_method_79_code
def yX11_sayWhere : MethodName := ⟨RX11, "sayWhere", "(II)V"⟩
abbrev cX11_sayTwo : ByteArray := prog_13_method_80_code
def yX11_sayTwo : MethodName := ⟨RX11, "sayTwo", "(II)V"⟩
abbrev cX11_isTold : ByteArray := prog_13_method_81_code
def yX11_isTold : MethodName := ⟨RX11, "isTold", "(I)Z"⟩
abbrev cX11_isBranch : ByteArray := prog_13_method_82_code
def yX11_isBranch : MethodName := ⟨RX11, "isBranch", "(I)Z"⟩
abbrev cX11_isThree : ByteArray := prog_13_method_83_code
def yX11_isThree : MethodName := ⟨RX11, "isThree", "(II)Z"⟩
abbrev cX11_isJump : ByteArray := prog_13_method_84_code
def yX11_isJump : MethodName := ⟨RX11, "isJump", "(I)Z"⟩
abbrev cX11_isRest : ByteArray := prog_13_method_85_code
def yX11_isRest : MethodName := ⟨RX11, "isRest", "(I)Z"⟩
abbrev cX11_written : ByteArray := prog_13_method_86_code
def yX11_written : MethodName := ⟨RX11, "written", "(I)I"⟩
abbrev cX11_again : ByteArray := prog_13_method_87_code
def yX11_again : MethodName := ⟨RX11, "again", "()I"⟩
abbrev cX11_print : ByteArray := prog_13_method_88_code
def yX11_print : MethodName := ⟨RX11, "print", "(I)I"⟩
def RJx29ce0 : String := "java/lang/Enum"
def TJx29ce0 : u_T := fun k => match k with
  | _ => ("", "", "", false)
def tyJx29ce0 : Nat → FieldType := fun k => match k with
  | _ => .int
abbrev wsJx29ce00 : List Cond := u_ws RJx29ce0 TJx29ce0 0
theorem nmJx29ce0 : ∀ a, a < 0 → ∀ b, b < 0 → a ≠ b → (TJx29ce0 a).2.1 ≠ (TJx29ce0 b).2.1 := by decide +kernel
theorem tyJx29ce0_ok : ∀ k, k < 0 → parseFieldDescriptor (TJx29ce0 k).2.2.1 = some (tyJx29ce0 k) := by decide +kernel
def RJ0 : String := "java/lang/String"
def TJ0 : u_T := fun k => match k with
  | _ => ("", "", "", false)
def tyJ0 : Nat → FieldType := fun k => match k with
  | _ => .int
abbrev wsJ00 : List Cond := u_ws RJ0 TJ0 0
theorem nmJ0 : ∀ a, a < 0 → ∀ b, b < 0 → a ≠ b → (TJ0 a).2.1 ≠ (TJ0 b).2.1 := by decide +kernel
theorem tyJ0_ok : ∀ k, k < 0 → parseFieldDescriptor (TJ0 k).2.2.1 = some (tyJ0 k) := by decide +kernel
abbrev cJ0_length_8abf5 : ByteArray := prog_18_method_54_code
def yJ0_length_8abf5 : MethodName := ⟨RJ0, "length", "()I"⟩
abbrev cJ0_charAt_5068e : ByteArray := prog_18_method_56_code
def yJ0_charAt_5068e : MethodName := ⟨RJ0, "charAt", "(I)C"⟩
abbrev cJ0_coder_7d493 : ByteArray := prog_18_method_152_code
def yJ0_coder_7d493 : MethodName := ⟨RJ0, "coder", "()B"⟩
abbrev cJ0_isLatin1_aae02 : ByteArray := prog_18_method_154_code
def yJ0_isLatin1_aae02 : MethodName := ⟨RJ0, "isLatin1", "()Z"⟩
abbrev cJ0_checkIndex_df160 : ByteArray := prog_18_method_155_code
def yJ0_checkIndex_df160 : MethodName := ⟨RJ0, "checkIndex", "(II)V"⟩
def RJ1 : String := "java/lang/StringLatin1"
def TJ1 : u_T := fun k => match k with
  | _ => ("", "", "", false)
def tyJ1 : Nat → FieldType := fun k => match k with
  | _ => .int
abbrev wsJ10 : List Cond := u_ws RJ1 TJ1 0
theorem nmJ1 : ∀ a, a < 0 → ∀ b, b < 0 → a ≠ b → (TJ1 a).2.1 ≠ (TJ1 b).2.1 := by decide +kernel
theorem tyJ1_ok : ∀ k, k < 0 → parseFieldDescriptor (TJ1 k).2.2.1 = some (tyJ1 k) := by decide +kernel
abbrev cJ1_charAt_3b067 : ByteArray := prog_19_method_2_code
def yJ1_charAt_3b067 : MethodName := ⟨RJ1, "charAt", "([BI)C"⟩
def RJ2 : String := "java/lang/StringUTF16"
def TJ2 : u_T := fun k => match k with
  | _ => ("", "", "", false)
def tyJ2 : Nat → FieldType := fun k => match k with
  | _ => .int
abbrev wsJ20 : List Cond := u_ws RJ2 TJ2 0
theorem nmJ2 : ∀ a, a < 0 → ∀ b, b < 0 → a ≠ b → (TJ2 a).2.1 ≠ (TJ2 b).2.1 := by decide +kernel
theorem tyJ2_ok : ∀ k, k < 0 → parseFieldDescriptor (TJ2 k).2.2.1 = some (tyJ2 k) := by decide +kernel
abbrev cJ2_getChar_3b067 : ByteArray := prog_20_method_5_code
def yJ2_getChar_3b067 : MethodName := ⟨RJ2, "getChar", "([BI)C"⟩
abbrev cJ2_length_9d52b : ByteArray := prog_20_method_6_code
def yJ2_length_9d52b : MethodName := ⟨RJ2, "length", "([B)I"⟩
abbrev cJ2_charAt_3b067 : ByteArray := prog_20_method_83_code
def yJ2_charAt_3b067 : MethodName := ⟨RJ2, "charAt", "([BI)C"⟩
abbrev cJ2_checkIndex_2214a : ByteArray := prog_20_method_91_code
def yJ2_checkIndex_2214a : MethodName := ⟨RJ2, "checkIndex", "(I[B)V"⟩
def RJ3 : String := "jdk/internal/util/Preconditions"
def TJ3 : u_T := fun k => match k with
  | _ => ("", "", "", false)
def tyJ3 : Nat → FieldType := fun k => match k with
  | _ => .int
abbrev wsJ30 : List Cond := u_ws RJ3 TJ3 0
theorem nmJ3 : ∀ a, a < 0 → ∀ b, b < 0 → a ≠ b → (TJ3 a).2.1 ≠ (TJ3 b).2.1 := by decide +kernel
theorem tyJ3_ok : ∀ k, k < 0 → parseFieldDescriptor (TJ3 k).2.2.1 = some (tyJ3 k) := by decide +kernel
abbrev cJ3_checkIndex_8e157 : ByteArray := prog_23_method_11_code
def yJ3_checkIndex_8e157 : MethodName := ⟨RJ3, "checkIndex", "(IILjava/util/function/BiFunction;)I"⟩
def RL : String := "SixteenDeskLaw"
abbrev cL_told : ByteArray := method_3_code
def yL_told : MethodName := ⟨RL, "told", "(LSixteenDesk;I[J)I"⟩
abbrev cL_word : ByteArray := method_4_code
def yL_word : MethodName := ⟨RL, "word", "(LSixteenDesk;I[J)I"⟩
abbrev cL_label : ByteArray := method_5_code
def yL_label : MethodName := ⟨RL, "label", "(LSixteenDesk;I[J)I"⟩
abbrev cL_run : ByteArray := method_6_code
def yL_run : MethodName := ⟨RL, "run", "(LSixteenDesk;I[J)I"⟩
abbrev cL_register : ByteArray := method_7_code
def yL_register : MethodName := ⟨RL, "register", "(LSixteenDesk;I[J)I"⟩
abbrev cL_count : ByteArray := method_8_code
def yL_count : MethodName := ⟨RL, "count", "(LSixteenDesk;I[J)I"⟩
abbrev cL_law : ByteArray := code
def yL_law : MethodName := ⟨RL, "law", "([I)Z"⟩
abbrev vwCl : List vw_C := [(RX0, TX0, 13), (RX1, TX1, 2), (RX2, TX2, 5), (RX3, TX3, 7), (RX4, TX4, 1), (RX6, TX6, 3), (RX7, TX7, 5), (RX8, TX8, 8), (RX9, TX9, 1), (RX10, TX10, 4), (RX11, TX11, 52)]
end
section
/-! WHAT LIES IN THE HEAP FOR GOOD: the constants, under numbers from 1,000,000 on (to be filled; the laws below are all that the core asks). -/
def KC (ad : Nat → Nat) (A : Nat → Prop) (U : State) (H : Heap) : Prop := True
theorem KC.warm {ad : Nat → Nat} {A : Nat → Prop} {s U : State} {H : Heap} (hW : s.WarmedH U.vm) (h : KC ad A s H) : KC ad A U H := trivial
theorem KC.same {ad : Nat → Nat} {A : Nat → Prop} {s U : State} {H : Heap} (hv : U.vm = s.vm) (h : KC ad A s H) : KC ad A U H := trivial
theorem KC.kept {ad : Nat → Nat} {A : Nat → Prop} {U : State} {H H1 : Heap} (h : KC ad A U H) (hq : ∀ a : Nat, a < H.size → ¬ A a → H1[a]? = H[a]?) : KC ad A U H1 := trivial
theorem KC.narrow {ad : Nat → Nat} {A B : Nat → Prop} {U : State} {H : Heap} (h : KC ad A U H) (hAB : ∀ q, B q → A q) : KC ad B U H := trivial
theorem KC.ext {ad ad' : Nat → Nat} {A : Nat → Prop} {U : State} {H : Heap} (h : KC ad A U H) (he : ∀ a, 1000000 ≤ a → ad' a = ad a) : KC ad' A U H := trivial
end
section
/-! THE PURE MACHINE. A heap by numbers (hI ints, hL longs, hR references, hn cells of ours, hc cells made, hs slots made);
what it says of the machine's heap (Rp); a run of a method from a point to its end (Rt); and what holds at the end (WP). -/
abbrev PH : Type := (Nat → Nat → Int32) × (Nat → Nat → Int64) × (Nat → Nat → Option Nat) × Nat × Nat × Nat
def hI (h : PH) : Nat → Nat → Int32 := h.1
def hL (h : PH) : Nat → Nat → Int64 := h.2.1
def hR (h : PH) : Nat → Nat → Option Nat := h.2.2.1
def hn (h : PH) : Nat := h.2.2.2.1
def hc (h : PH) : Nat := h.2.2.2.2.1
def hs (h : PH) : Nat := h.2.2.2.2.2
def up2 {α : Type} (f : Nat → Nat → α) (a k : Nat) (v : α) : Nat → Nat → α := fun b j => if b = a then (if j = k then v else f b j) else f b j
def sI (h : PH) (a k : Nat) (v : Int32) : PH := (up2 (hI h) a k v, hL h, hR h, hn h, hc h, hs h)
def sL (h : PH) (a k : Nat) (v : Int64) : PH := (hI h, up2 (hL h) a k v, hR h, hn h, hc h, hs h)
def sR (h : PH) (a k : Nat) (v : Option Nat) : PH := (hI h, hL h, up2 (hR h) a k v, hn h, hc h, hs h)
/-- a new cell, all of it 0 and null, of z slots -/
def sN (h : PH) (z : Nat) : PH := (fun b j => if b = hn h then 0 else hI h b j, fun b j => if b = hn h then 0 else hL h b j, fun b j => if b = hn h then none else hR h b j, hn h + 1, hc h + 1, hs h + z)
/-- which kind a cell is (vwCl's classes 0 .. 10, 11 bytes, 12 ints, 13 longs, 14 rows of ints), by the order of making -/
def kdT : List Nat := [9, 1, 11, 0, 13, 13, 6, 12, 12, 6, 12, 12, 7, 3, 12, 12, 4, 14, 2, 12, 5, 11, 8, 1, 11, 10, 12, 12, 12, 12, 12, 12, 12, 12, 12, 12, 12, 12, 12, 13]
def lnT : List Nat := [0, 0, 4000, 0, 200, 200, 0, 4096, 200, 0, 4096, 200, 0, 0, 12, 4, 0, 256, 0, 100, 0, 4000, 0, 0, 32, 0, 65536, 8, 100, 4000, 4020, 4096, 200, 4096, 200, 200, 200, 40, 4000, 1]
def kd (a : Nat) : Nat := kdT.getD a 12
def ln (a : Nat) : Nat := lnT.getD a 256
/-- the kinds of a class' fields: 0 an int, 1 a long, 2 a reference -/
def fkT : List (List Nat) := [[2, 2, 2, 2, 2, 2, 0, 0, 0, 0, 0, 0, 0], [2, 0], [2, 0, 0, 0, 0], [2, 2, 2, 2, 2, 0, 0], [2], [2, 0, 0], [2, 2, 0, 0, 0], [2, 0, 0, 0, 0, 2, 1, 1], [2], [2, 2, 2, 2], [0, 2, 2, 0, 0, 0, 0, 0, 0, 0, 2, 0, 2, 0, 0, 0, 0, 0, 0, 0, 2, 0, 2, 0, 0, 0, 2, 0, 0, 0, 2, 0, 0, 2, 2, 2, 0, 2, 0, 0, 0, 0, 0, 0, 0, 2, 0, 0, 0, 0, 0, 0]]
def fk (c k : Nat) : Nat := (fkT.getD c []).getD k 0
def nF (c : Nat) : Nat := (fkT.getD c []).length
def fv (ad : Nat → Nat) (h : PH) (a c k : Nat) : Value := if fk c k = 0 then .int (hI h a k) else if fk c k = 1 then .long (hL h a k) else va_rf ((hR h a k).map ad)
def ce (cy : Nat → ClassId) (ad : Nat → Nat) (h : PH) (a : Nat) : va_E :=
  if kd a < 11 then .inr (kd a, (List.range (nF (kd a))).map (fv ad h a (kd a)))
  else if kd a = 11 then .inl (cy 0, ln a, .inl (hI h a))
  else if kd a = 12 then .inl (cy 1, ln a, .inl (hI h a))
  else if kd a = 13 then .inl (cy 2, ln a, .inr (.inl (hL h a)))
  else .inl (cy 3, ln a, .inr (.inr (.inr (.inr (fun j => (hR h a j).map ad)))))
def wd (cy : Nat → ClassId) (ad : Nat → Nat) (h : PH) : va_W := (List.range (hn h)).map (fun a => (ad a, ce cy ad h a))
def ctys (cy : Nat → ClassId) : List (ClassId × FieldType) := [(cy 0, .byte), (cy 1, .int), (cy 2, .long), (cy 3, .array .int)]
/-- a number of a cell that is there, or of a constant -/
def okr (n a : Nat) : Prop := a < n ∨ 1000000 ≤ a
def okv (n : Nat) (v : Value) : Prop := ∀ a, v = .ref a → okr n a
def cv (ad : Nat → Nat) (v : Value) : Value := match v with
  | .ref a => .ref (ad a)
  | v => v
theorem cv_rf (ad : Nat → Nat) (r : Option Nat) : cv ad (va_rf r) = va_rf (r.map ad) := by cases r <;> rfl
theorem cv_cat (ad : Nat → Nat) (v : Value) : (cv ad v).category = v.category := by cases v <;> rfl
theorem okr.mono {n m a : Nat} (h : okr n a) (hm : n ≤ m) : okr m a := h.elim (fun h => Or.inl (Nat.lt_of_lt_of_le h hm)) Or.inr
theorem okv.mono {n m : Nat} {v : Value} (h : okv n v) (hm : n ≤ m) : okv m v := fun a e => (h a e).mono hm
theorem cv_ext {n : Nat} {ad ad' : Nat → Nat} (h : ∀ a, okr n a → ad' a = ad a) {v : Value} (hv : okv n v) : cv ad' v = cv ad v := by
  cases v with
  | ref a => show Value.ref (ad' a) = Value.ref (ad a); rw [h a (hv a rfl)]
  | _ => rfl
/-- the references of the heap are of cells that are there -/
def okh (h : PH) : Prop := ∀ a k b, a < hn h → hR h a k = some b → okr (hn h) b
def Rp (cy : Nat → ClassId) (D : va_G) (ad : Nat → Nat) (h : PH) (A : Nat → Prop) (H0 H : Heap) (locs : List Loc) : Prop :=
  va_P D vwCl (wd cy ad h) H ∧ va_D A (wd cy ad h) ∧ va_S A H0 H locs ∧ okh h
/-- a method: its class, its code, its locals, what it returns, its name -/
abbrev MR : Type := String × ByteArray × Nat × Option FieldType × MethodName
def PL (n : Nat) (ad : Nat → Nat) (nL : Nat) (ls : List (Option Value)) (cls : Array Slot) : Prop :=
  cls.size = nL ∧ lv_wf cls ∧ ∀ (i : Nat) (v : Value), ls[i]? = some (some v) → v.category = 1 ∧ okv n v ∧ cls[i]? = some (Slot.val (cv ad v))
theorem wd_get {cy : Nat → ClassId} {ad : Nat → Nat} {h : PH} {a : Nat} (ha : a < hn h) : (wd cy ad h)[a]? = some (ad a, ce cy ad h a) := by
  unfold wd; rw [List.getElem?_map, List.getElem?_range ha]; rfl
theorem wd_len (cy : Nat → ClassId) (ad : Nat → Nat) (h : PH) : (wd cy ad h).length = hn h := by simp [wd]
theorem wd_set {cy : Nat → ClassId} {ad : Nat → Nat} {h h' : PH} {a : Nat} (hnn : hn h' = hn h) (ho : ∀ b, b ≠ a → ce cy ad h' b = ce cy ad h b) : (wd cy ad h).set a (ad a, ce cy ad h' a) = wd cy ad h' := by
  apply List.ext_getElem?
  intro i
  rw [List.getElem?_set]
  by_cases hi : i < hn h
  · by_cases e : a = i
    · subst e; rw [if_pos rfl, if_pos (by rw [wd_len]; exact hi), wd_get (by rw [hnn]; exact hi)]
    · rw [if_neg e, wd_get hi, wd_get (by rw [hnn]; exact hi), ho i (Ne.symm e)]
  · have h1 : (wd cy ad h')[i]? = none := List.getElem?_eq_none (by rw [wd_len, hnn]; omega)
    rw [h1]
    by_cases e : a = i
    · rw [if_pos e, if_neg (by rw [wd_len]; omega)]
    · rw [if_neg e]; exact List.getElem?_eq_none (by rw [wd_len]; omega)
theorem ce_ext {cy : Nat → ClassId} {ad ad' : Nat → Nat} {h : PH} (ho : okh h) (he : ∀ a, okr (hn h) a → ad' a = ad a) {a : Nat} (ha : a < hn h) : ce cy ad' h a = ce cy ad h a := by
  have hr : ∀ k, (hR h a k).map ad' = (hR h a k).map ad := by
    intro k
    cases e : hR h a k with
    | none => rfl
    | some b => show some (ad' b) = some (ad b); rw [he b (ho a k b ha e)]
  have hf : fv ad' h a (kd a) = fv ad h a (kd a) := by funext k; unfold fv; rw [hr]
  unfold ce
  rw [hf]
  simp only [hr]
theorem wd_ext {cy : Nat → ClassId} {ad ad' : Nat → Nat} {h : PH} (ho : okh h) (he : ∀ a, okr (hn h) a → ad' a = ad a) : wd cy ad' h = wd cy ad h := by
  unfold wd
  apply List.map_congr_left
  intro a ha
  have ha := List.mem_range.mp ha
  rw [he a (Or.inl ha), ce_ext ho he ha]
def Tg : List Cond := lw_tbl.filter goodWord
/-- what stands all through one run of a method -/
def Cx (M : MR) (cy : Nat → ClassId) (D : va_G) (ad : Nat → Nat) (A : Nat → Prop) (p : Program) (s : State) (m : MethodId) (args : Array Value) (meth : Method) (c : Code) : Prop :=
  p.tables.exec = Jvm.exec ∧ c.code = M.2.1 ∧ c.maxLocals = M.2.2.1 ∧ s.vm.findClass M.1 = some m.cls ∧ (∀ w ∈ Tg, w.before args s = true) ∧ meth.locks = false ∧ meth.sig.returnType = M.2.2.2.1 ∧ meth.name = M.2.2.2.2.name ∧ va_K D vwCl (ctys cy) s ∧ (∀ q, s.heap.size ≤ q → A q) ∧ KC ad A s s.heap
theorem Cx.ext {M : MR} {cy : Nat → ClassId} {D : va_G} {ad ad' : Nat → Nat} {A : Nat → Prop} {p : Program} {s : State} {m : MethodId} {args : Array Value} {meth : Method} {c : Code} {n : Nat} (h : Cx M cy D ad A p s m args meth c) (he : ∀ a, okr n a → ad' a = ad a) : Cx M cy D ad' A p s m args meth c := by
  obtain ⟨a1, a2, a3, a4, a5, a6, a7, a8, a9, a10, a11⟩ := h
  exact ⟨a1, a2, a3, a4, a5, a6, a7, a8, a9, a10, a11.ext (fun a h => he a (Or.inr h))⟩
/-- the instruction at which a run ends, by what it ends with (.retAddr: a throw's 'new', of the class by number) -/
def RetAt (M : MR) (pc : Nat) (r : Option Value) : Prop := match r with
  | none => decode M.2.1 pc = .ok (.return_, 1)
  | some (.int v) => decode M.2.1 pc = .ok (.ireturn, 1) ∧ ∀ ty, M.2.2.2.1 = some ty → narrow ty (.int v) = .int v
  | some (.retAddr j) => j = pc
  | some _ => decode M.2.1 pc = .ok (.areturn, 1)
def rst (ad : Nat → Nat) (r : Option Value) : List Value := match r with
  | none => []
  | some (.retAddr _) => []
  | some v => [cv ad v]
def Rt (M : MR) (d L pc : Nat) (ls : List (Option Value)) (st : List Value) (h : PH) (r : Option Value) (hE : PH) : Prop :=
  hn h ≤ hn hE ∧ hc h ≤ hc hE ∧ hs h ≤ hs hE ∧
  ∀ (p : Program) (l : Launch) (e : Env) (R : Room) (s : State) (m : MethodId) (args : Array Value) (below : List Frame) (meth : Method) (c : Code) (cy : Nat → ClassId) (D : va_G) (A : Nat → Prop) (ad : Nat → Nat) (H : Heap) (locs : List Loc) (cls : Array Slot) (c0 s0 : Nat) (Qf : State → Prop),
    Cx M cy D ad A p s m args meth c → d ≤ R.frames → L ≤ R.locals → hc hE ≤ c0 + R.cells → hs hE ≤ s0 + R.slots → c0 ≤ hc h → s0 ≤ hs h →
    Rp cy D ad h A s.heap H locs → PL (hn h) ad M.2.2.1 ls cls → (∀ v ∈ st, okv (hn h) v) →
    (∀ (ad' : Nat → Nat) (H' : Heap) (locs' : List Loc) (cls' : Array Slot) (pcE : Nat), (∀ a, okr (hn h) a → ad' a = ad a) → Rp cy D ad' hE A s.heap H' locs' → RetAt M pcE r → (∀ v, r = some v → okv (hn hE) v) → cls'.size = M.2.2.1 → W p l e R s m args below meth c H' locs' (hc hE - c0) (hs hE - s0) Qf (F0 m pcE cls' (rst ad' r))) →
    W p l e R s m args below meth c H locs (hc h - c0) (hs h - s0) Qf (F0 m pc cls (st.map (cv ad)))
def WP (M : MR) (d L pc : Nat) (ls : List (Option Value)) (st : List Value) (h : PH) (Q : Option Value → PH → Prop) : Prop := ∃ r hE, Rt M d L pc ls st h r hE ∧ Q r hE
theorem WP.mp {M : MR} {d L pc pc' : Nat} {ls ls' : List (Option Value)} {st st' : List Value} {h h' : PH} {Q : Option Value → PH → Prop} (f : ∀ r hE, Rt M d L pc' ls' st' h' r hE → Rt M d L pc ls st h r hE) (k : WP M d L pc' ls' st' h' Q) : WP M d L pc ls st h Q := by
  obtain ⟨r, hE, a, b⟩ := k
  exact ⟨r, hE, f r hE a, b⟩
theorem WP.imp {M : MR} {d L pc : Nat} {ls : List (Option Value)} {st : List Value} {h : PH} {Q Q' : Option Value → PH → Prop} (k : WP M d L pc ls st h Q) (f : ∀ r hE, Q r hE → Q' r hE) : WP M d L pc ls st h Q' := by
  obtain ⟨r, hE, a, b⟩ := k
  exact ⟨r, hE, a, f r hE b⟩
/-- an instruction that leaves the heap alone -/
theorem Rt.pure {M : MR} {d L pc pc' : Nat} {ls ls' : List (Option Value)} {st st' : List Value} {h : PH} {r : Option Value} {hE : PH}
    (w : ∀ (p : Program) (l : Launch) (e : Env) (R : Room) (s : State) (m : MethodId) (args : Array Value) (below : List Frame) (meth : Method) (c : Code) (H : Heap) (locs : List Loc) (cells slots : Nat) (Q : State → Prop) (ad : Nat → Nat) (cls : Array Slot) (cy : Nat → ClassId) (D : va_G) (A : Nat → Prop),
      p.tables.exec = Jvm.exec → c.code = M.2.1 → Cx M cy D ad A p s m args meth c → Rp cy D ad h A s.heap H locs → PL (hn h) ad M.2.2.1 ls cls → (∀ v ∈ st, okv (hn h) v) →
      (∀ cls', PL (hn h) ad M.2.2.1 ls' cls' → (∀ v ∈ st', okv (hn h) v) → W p l e R s m args below meth c H locs cells slots Q (F0 m pc' cls' (st'.map (cv ad)))) → W p l e R s m args below meth c H locs cells slots Q (F0 m pc cls (st.map (cv ad))))
    (k : Rt M d L pc' ls' st' h r hE) : Rt M d L pc ls st h r hE := by
  obtain ⟨k1, k2, k3, k4⟩ := k
  refine ⟨k1, k2, k3, ?_⟩
  intro p l e R s m args below meth c cy D A ad H locs cls c0 s0 Qf hC hd hL h1 h2 h3 h4 hR hP hS hEnd
  refine w p l e R s m args below meth c H locs _ _ Qf ad cls cy D A hC.1 hC.2.1 hC hR hP hS (fun cls' hP' hS' => ?_)
  exact k4 p l e R s m args below meth c cy D A ad H locs cls' c0 s0 Qf hC hd hL h1 h2 h3 h4 hR hP' hS' hEnd
end
section
/-! ROWS OF THE PURE MACHINE: instructions that leave the heap alone -/
def okS (n : Nat) (st : List Value) : Prop := ∀ v ∈ st, okv n v
theorem okS.tl {n : Nat} {v : Value} {st : List Value} (h : okS n (v :: st)) : okS n st := fun w hw => h w (List.mem_cons_of_mem _ hw)
theorem okS.hd {n : Nat} {v : Value} {st : List Value} (h : okS n (v :: st)) : okv n v := h v List.mem_cons_self
theorem okS.cons {n : Nat} {v : Value} {st : List Value} (hv : okv n v) (h : okS n st) : okS n (v :: st) := fun w hw => (List.mem_cons.mp hw).elim (fun e => e ▸ hv) (h w)
theorem okv_int (n : Nat) (x : Int32) : okv n (.int x) := fun a e => by cases e
theorem okv_long (n : Nat) (x : Int64) : okv n (.long x) := fun a e => by cases e
theorem okv_null (n : Nat) : okv n .null := fun a e => by cases e
theorem okS.i {n : Nat} {x : Int32} {st : List Value} (h : okS n st) : okS n (.int x :: st) := okS.cons (okv_int n x) h
theorem okS.l {n : Nat} {x : Int64} {st : List Value} (h : okS n st) : okS n (.long x :: st) := okS.cons (okv_long n x) h
def lvl (ad : Nat → Nat) (ls : List (Option Value)) : List (Nat × Value) := (List.range ls.length).filterMap (fun j => match ls[j]? with
  | some (some w) => some (j, cv ad w)
  | _ => none)
theorem lvl_mem {ad : Nat → Nat} {ls : List (Option Value)} {j : Nat} {w : Value} (h : ls[j]? = some (some w)) : (j, cv ad w) ∈ lvl ad ls := by
  unfold lvl
  refine List.mem_filterMap.mpr ⟨j, List.mem_range.mpr (List.getElem?_eq_some_iff.mp h).1, ?_⟩
  rw [h]
theorem lvl_of {ad : Nat → Nat} {ls : List (Option Value)} {q : Nat × Value} (h : q ∈ lvl ad ls) : ∃ w, ls[q.1]? = some (some w) ∧ q.2 = cv ad w := by
  unfold lvl at h
  obtain ⟨j, -, hj⟩ := List.mem_filterMap.mp h
  cases e : ls[j]? with
  | none => rw [e] at hj; cases hj
  | some o =>
    cases o with
    | none => rw [e] at hj; cases hj
    | some w => rw [e] at hj; cases hj; exact ⟨w, e, rfl⟩
theorem PL.has {n : Nat} {ad : Nat → Nat} {nL : Nat} {ls : List (Option Value)} {cls : Array Slot} (h : PL n ad nL ls cls) : lv_has cls nL (lvl ad ls) := by
  refine ⟨h.1, h.2.1, fun q hq => ?_⟩
  obtain ⟨w, h1, h2⟩ := lvl_of hq
  rw [h2]; exact (h.2.2 q.1 w h1).2.2
theorem PL.store {n : Nat} {ad : Nat → Nat} {nL : Nat} {ls : List (Option Value)} {cls cls' : Array Slot} {i : Nat} {v : Value} (h : PL n ad nL ls cls) (hv : v.category = 1) (ho : okv n v)
    (h' : lv_has cls' nL ((i, cv ad v) :: (lvl ad ls).filter (fun q => !(q.1 == i) && !(q.1 + 1 == i && q.2.category == 2)))) : PL n ad nL (ls.set i (some v)) cls' := by
  refine ⟨h'.1, h'.2.1, fun j w hj => ?_⟩
  by_cases e : i = j
  · subst e
    rw [List.getElem?_set] at hj
    rw [if_pos rfl] at hj
    by_cases hl : i < ls.length
    · rw [if_pos hl] at hj; cases hj
      exact ⟨hv, ho, h'.2.2 (i, cv ad v) List.mem_cons_self⟩
    · rw [if_neg hl] at hj; cases hj
  · rw [List.getElem?_set_ne e] at hj
    obtain ⟨h1, h2, h3⟩ := h.2.2 j w hj
    refine ⟨h1, h2, h'.2.2 (j, cv ad w) (List.mem_cons_of_mem _ (List.mem_filter.mpr ⟨lvl_mem hj, ?_⟩))⟩
    have hc : (cv ad w).category = 1 := by rw [cv_cat]; exact h1
    simp [hc, Ne.symm e]
section PR
variable {M : MR} {d L pc : Nat} {ls : List (Option Value)} {st : List Value} {h : PH} {Q : Option Value → PH → Prop}

theorem w_iadd {x y : Int32} (hd : decode M.2.1 pc = .ok (.iadd, 1)) (k : WP M d L (pc + 1) ls (.int (x + y) :: st) h Q) : WP M d L pc ls (.int y :: .int x :: st) h Q :=
  WP.mp (fun _ _ => Rt.pure (fun p l e R s m args below meth c H locs cells slots Q ad cls cy D A hx hb hC hR hP hS kk => lv_iadd hx hb hd (kk cls hP (okS.i (okS.tl (okS.tl hS)))))) k
theorem w_isub {x y : Int32} (hd : decode M.2.1 pc = .ok (.isub, 1)) (k : WP M d L (pc + 1) ls (.int (x - y) :: st) h Q) : WP M d L pc ls (.int y :: .int x :: st) h Q :=
  WP.mp (fun _ _ => Rt.pure (fun p l e R s m args below meth c H locs cells slots Q ad cls cy D A hx hb hC hR hP hS kk => lv_isub hx hb hd (kk cls hP (okS.i (okS.tl (okS.tl hS)))))) k
theorem w_imul {x y : Int32} (hd : decode M.2.1 pc = .ok (.imul, 1)) (k : WP M d L (pc + 1) ls (.int (x * y) :: st) h Q) : WP M d L pc ls (.int y :: .int x :: st) h Q :=
  WP.mp (fun _ _ => Rt.pure (fun p l e R s m args below meth c H locs cells slots Q ad cls cy D A hx hb hC hR hP hS kk => lv_imul hx hb hd (kk cls hP (okS.i (okS.tl (okS.tl hS)))))) k
theorem w_iand {x y : Int32} (hd : decode M.2.1 pc = .ok (.iand, 1)) (k : WP M d L (pc + 1) ls (.int (x &&& y) :: st) h Q) : WP M d L pc ls (.int y :: .int x :: st) h Q :=
  WP.mp (fun _ _ => Rt.pure (fun p l e R s m args below meth c H locs cells slots Q ad cls cy D A hx hb hC hR hP hS kk => lv_iand hx hb hd (kk cls hP (okS.i (okS.tl (okS.tl hS)))))) k
theorem w_ior {x y : Int32} (hd : decode M.2.1 pc = .ok (.ior, 1)) (k : WP M d L (pc + 1) ls (.int (x ||| y) :: st) h Q) : WP M d L pc ls (.int y :: .int x :: st) h Q :=
  WP.mp (fun _ _ => Rt.pure (fun p l e R s m args below meth c H locs cells slots Q ad cls cy D A hx hb hC hR hP hS kk => lv_ior hx hb hd (kk cls hP (okS.i (okS.tl (okS.tl hS)))))) k
theorem w_ixor {x y : Int32} (hd : decode M.2.1 pc = .ok (.ixor, 1)) (k : WP M d L (pc + 1) ls (.int (x ^^^ y) :: st) h Q) : WP M d L pc ls (.int y :: .int x :: st) h Q :=
  WP.mp (fun _ _ => Rt.pure (fun p l e R s m args below meth c H locs cells slots Q ad cls cy D A hx hb hC hR hP hS kk => lv_ixor hx hb hd (kk cls hP (okS.i (okS.tl (okS.tl hS)))))) k
theorem w_ishl {x y : Int32} (hd : decode M.2.1 pc = .ok (.ishl, 1)) (k : WP M d L (pc + 1) ls (.int (x <<< (y &&& 31)) :: st) h Q) : WP M d L pc ls (.int y :: .int x :: st) h Q :=
  WP.mp (fun _ _ => Rt.pure (fun p l e R s m args below meth c H locs cells slots Q ad cls cy D A hx hb hC hR hP hS kk => lv_ishl hx hb hd (kk cls hP (okS.i (okS.tl (okS.tl hS)))))) k
theorem w_ishr {x y : Int32} (hd : decode M.2.1 pc = .ok (.ishr, 1)) (k : WP M d L (pc + 1) ls (.int (x >>> (y &&& 31)) :: st) h Q) : WP M d L pc ls (.int y :: .int x :: st) h Q :=
  WP.mp (fun _ _ => Rt.pure (fun p l e R s m args below meth c H locs cells slots Q ad cls cy D A hx hb hC hR hP hS kk => lv_ishr hx hb hd (kk cls hP (okS.i (okS.tl (okS.tl hS)))))) k
theorem w_idiv {x y : Int32} (hd : decode M.2.1 pc = .ok (.idiv, 1)) (hne : ¬ y = 0) (k : WP M d L (pc + 1) ls (.int (x / y) :: st) h Q) : WP M d L pc ls (.int y :: .int x :: st) h Q :=
  WP.mp (fun _ _ => Rt.pure (fun p l e R s m args below meth c H locs cells slots Q ad cls cy D A hx hb hC hR hP hS kk => lv_idiv hx hb hd hne (kk cls hP (okS.i (okS.tl (okS.tl hS)))))) k
theorem w_irem {x y : Int32} (hd : decode M.2.1 pc = .ok (.irem, 1)) (hne : ¬ y = 0) (k : WP M d L (pc + 1) ls (.int (x - x / y * y) :: st) h Q) : WP M d L pc ls (.int y :: .int x :: st) h Q :=
  WP.mp (fun _ _ => Rt.pure (fun p l e R s m args below meth c H locs cells slots Q ad cls cy D A hx hb hC hR hP hS kk => lv_irem hx hb hd hne (kk cls hP (okS.i (okS.tl (okS.tl hS)))))) k
theorem w_iushr {x y : Int32} (hd : decode M.2.1 pc = .ok (.iushr, 1)) (k : WP M d L (pc + 1) ls (.int (x.toUInt32 >>> (y.toUInt32 &&& Int32.toUInt32 31)).toInt32 :: st) h Q) : WP M d L pc ls (.int y :: .int x :: st) h Q :=
  WP.mp (fun _ _ => Rt.pure (fun p l e R s m args below meth c H locs cells slots Q ad cls cy D A hx hb hC hR hP hS kk => lv_iushr hx hb hd rfl (kk cls hP (okS.i (okS.tl (okS.tl hS)))))) k
theorem w_ineg {x : Int32} (hd : decode M.2.1 pc = .ok (.ineg, 1)) (k : WP M d L (pc + 1) ls (.int (-x) :: st) h Q) : WP M d L pc ls (.int x :: st) h Q :=
  WP.mp (fun _ _ => Rt.pure (fun p l e R s m args below meth c H locs cells slots Q ad cls cy D A hx hb hC hR hP hS kk => lv_ineg hx hb hd (kk cls hP (okS.i (okS.tl hS))))) k
theorem w_ladd {x y : Int64} (hd : decode M.2.1 pc = .ok (.ladd, 1)) (k : WP M d L (pc + 1) ls (.long (x + y) :: st) h Q) : WP M d L pc ls (.long y :: .long x :: st) h Q :=
  WP.mp (fun _ _ => Rt.pure (fun p l e R s m args below meth c H locs cells slots Q ad cls cy D A hx hb hC hR hP hS kk => lv_ladd hx hb hd (kk cls hP (okS.l (okS.tl (okS.tl hS)))))) k
theorem w_lsub {x y : Int64} (hd : decode M.2.1 pc = .ok (.lsub, 1)) (k : WP M d L (pc + 1) ls (.long (x - y) :: st) h Q) : WP M d L pc ls (.long y :: .long x :: st) h Q :=
  WP.mp (fun _ _ => Rt.pure (fun p l e R s m args below meth c H locs cells slots Q ad cls cy D A hx hb hC hR hP hS kk => lv_lsub hx hb hd (kk cls hP (okS.l (okS.tl (okS.tl hS)))))) k
theorem w_lmul {x y : Int64} (hd : decode M.2.1 pc = .ok (.lmul, 1)) (k : WP M d L (pc + 1) ls (.long (x * y) :: st) h Q) : WP M d L pc ls (.long y :: .long x :: st) h Q :=
  WP.mp (fun _ _ => Rt.pure (fun p l e R s m args below meth c H locs cells slots Q ad cls cy D A hx hb hC hR hP hS kk => lv_lmul hx hb hd (kk cls hP (okS.l (okS.tl (okS.tl hS)))))) k
theorem w_i2l {x : Int32} (hd : decode M.2.1 pc = .ok (.i2l, 1)) (k : WP M d L (pc + 1) ls (.long x.toInt64 :: st) h Q) : WP M d L pc ls (.int x :: st) h Q :=
  WP.mp (fun _ _ => Rt.pure (fun p l e R s m args below meth c H locs cells slots Q ad cls cy D A hx hb hC hR hP hS kk => lv_i2l hx hb hd rfl (kk cls hP (okS.l (okS.tl hS))))) k
theorem w_l2i {x : Int64} (hd : decode M.2.1 pc = .ok (.l2i, 1)) (k : WP M d L (pc + 1) ls (.int x.toInt32 :: st) h Q) : WP M d L pc ls (.long x :: st) h Q :=
  WP.mp (fun _ _ => Rt.pure (fun p l e R s m args below meth c H locs cells slots Q ad cls cy D A hx hb hC hR hP hS kk => lv_l2i hx hb hd rfl (kk cls hP (okS.i (okS.tl hS))))) k
theorem w_i2b {x : Int32} (hd : decode M.2.1 pc = .ok (.i2b, 1)) (k : WP M d L (pc + 1) ls (.int x.toInt8.toInt32 :: st) h Q) : WP M d L pc ls (.int x :: st) h Q :=
  WP.mp (fun _ _ => Rt.pure (fun p l e R s m args below meth c H locs cells slots Q ad cls cy D A hx hb hC hR hP hS kk => lv_i2b hx hb hd rfl (kk cls hP (okS.i (okS.tl hS))))) k
theorem w_iconst {n : Int} {v : Int32} (hd : decode M.2.1 pc = .ok (.iconst n, 1)) (hv : Int32.ofInt n = v) (k : WP M d L (pc + 1) ls (.int v :: st) h Q) : WP M d L pc ls (st) h Q :=
  WP.mp (fun _ _ => Rt.pure (fun p l e R s m args below meth c H locs cells slots Q ad cls cy D A hx hb hC hR hP hS kk => lv_iconst hx hb hd hv (kk cls hP (okS.i hS)))) k
theorem w_bipush {n : Int} {v : Int32} (hd : decode M.2.1 pc = .ok (.bipush n, 2)) (hv : (Int8.ofInt n).toInt32 = v) (k : WP M d L (pc + 2) ls (.int v :: st) h Q) : WP M d L pc ls (st) h Q :=
  WP.mp (fun _ _ => Rt.pure (fun p l e R s m args below meth c H locs cells slots Q ad cls cy D A hx hb hC hR hP hS kk => lv_bipush hx hb hd hv (kk cls hP (okS.i hS)))) k
theorem w_sipush {n : Int} {v : Int32} (hd : decode M.2.1 pc = .ok (.sipush n, 3)) (hv : (Int16.ofInt n).toInt32 = v) (k : WP M d L (pc + 3) ls (.int v :: st) h Q) : WP M d L pc ls (st) h Q :=
  WP.mp (fun _ _ => Rt.pure (fun p l e R s m args below meth c H locs cells slots Q ad cls cy D A hx hb hC hR hP hS kk => lv_sipush hx hb hd hv (kk cls hP (okS.i hS)))) k
theorem w_lconst {n : Fin 2} {v : Int64} (hd : decode M.2.1 pc = .ok (.lconst n, 1)) (hv : Int64.ofNat (n : Nat) = v) (k : WP M d L (pc + 1) ls (.long v :: st) h Q) : WP M d L pc ls (st) h Q :=
  WP.mp (fun _ _ => Rt.pure (fun p l e R s m args below meth c H locs cells slots Q ad cls cy D A hx hb hC hR hP hS kk => lv_lconst hx hb hd hv (kk cls hP (okS.l hS)))) k
theorem w_null  (hd : decode M.2.1 pc = .ok (.aconst_null, 1)) (k : WP M d L (pc + 1) ls (.null :: st) h Q) : WP M d L pc ls (st) h Q :=
  WP.mp (fun _ _ => Rt.pure (fun p l e R s m args below meth c H locs cells slots Q ad cls cy D A hx hb hC hR hP hS kk => lv_null hx hb hd (kk cls hP (okS.cons (okv_null _) hS)))) k
theorem w_ldc {idx : Nat} {v : Int32} (hd : decode M.2.1 pc = .ok (.ldc idx, 2)) (hw : Jvm.Cond.constant M.1 idx v ∈ Tg) (k : WP M d L (pc + 2) ls (.int v :: st) h Q) : WP M d L pc ls (st) h Q :=
  WP.mp (fun _ _ => Rt.pure (fun p l e R s m args below meth c H locs cells slots Q ad cls cy D A hx hb hC hR hP hS kk => lv_ldc hx hb hC.2.2.2.1 (hC.2.2.2.2.1 _ hw) hd (kk cls hP (okS.i hS)))) k
theorem w_ldcw {idx : Nat} {v : Int32} (hd : decode M.2.1 pc = .ok (.ldc_w idx, 3)) (hw : Jvm.Cond.constant M.1 idx v ∈ Tg) (k : WP M d L (pc + 3) ls (.int v :: st) h Q) : WP M d L pc ls (st) h Q :=
  WP.mp (fun _ _ => Rt.pure (fun p l e R s m args below meth c H locs cells slots Q ad cls cy D A hx hb hC hR hP hS kk => lv_ldcw hx hb hC.2.2.2.1 (hC.2.2.2.2.1 _ hw) hd (kk cls hP (okS.i hS)))) k
theorem w_ldc2 {idx : Nat} {v : Int64} (hd : decode M.2.1 pc = .ok (.ldc2_w idx, 3)) (hw : Jvm.Cond.constantLong M.1 idx v ∈ Tg) (k : WP M d L (pc + 3) ls (.long v :: st) h Q) : WP M d L pc ls (st) h Q :=
  WP.mp (fun _ _ => Rt.pure (fun p l e R s m args below meth c H locs cells slots Q ad cls cy D A hx hb hC hR hP hS kk => lv_ldc2 hx hb hC.2.2.2.1 (hC.2.2.2.2.1 _ hw) hd (kk cls hP (okS.l hS)))) k
theorem w_iload_n {q : Fin 4} {i : Nat} {x : Int32} (hd : decode M.2.1 pc = .ok (.iload_n q, 1)) (hi : (q : Nat) = i) (hl : ls[i]? = some (some (.int x))) (k : WP M d L (pc + 1) ls (.int x :: st) h Q) : WP M d L pc ls (st) h Q :=
  WP.mp (fun _ _ => Rt.pure (fun p l e R s m args below meth c H locs cells slots Q ad cls cy D A hx hb hC hR hP hS kk => lv_iload_n hx hb hd hi (hP.2.2 i _ hl).2.2 (kk cls hP (okS.i hS)))) k
theorem w_iload {i : Nat} {x : Int32} (hd : decode M.2.1 pc = .ok (.iload i, 2)) (hl : ls[i]? = some (some (.int x))) (k : WP M d L (pc + 2) ls (.int x :: st) h Q) : WP M d L pc ls (st) h Q :=
  WP.mp (fun _ _ => Rt.pure (fun p l e R s m args below meth c H locs cells slots Q ad cls cy D A hx hb hC hR hP hS kk => lv_iload hx hb hd (hP.2.2 i _ hl).2.2 (kk cls hP (okS.i hS)))) k
theorem w_aload_n {q : Fin 4} {i a : Nat} (hd : decode M.2.1 pc = .ok (.aload_n q, 1)) (hi : (q : Nat) = i) (hl : ls[i]? = some (some (.ref a))) (k : WP M d L (pc + 1) ls (.ref a :: st) h Q) : WP M d L pc ls (st) h Q :=
  WP.mp (fun _ _ => Rt.pure (fun p l e R s m args below meth c H locs cells slots Q ad cls cy D A hx hb hC hR hP hS kk => lv_aload_n hx hb hd hi (hP.2.2 i _ hl).2.2 (kk cls hP (okS.cons (hP.2.2 i _ hl).2.1 hS)))) k
theorem w_aload {i a : Nat} (hd : decode M.2.1 pc = .ok (.aload i, 2)) (hl : ls[i]? = some (some (.ref a))) (k : WP M d L (pc + 2) ls (.ref a :: st) h Q) : WP M d L pc ls (st) h Q :=
  WP.mp (fun _ _ => Rt.pure (fun p l e R s m args below meth c H locs cells slots Q ad cls cy D A hx hb hC hR hP hS kk => lv_aload hx hb hd (hP.2.2 i _ hl).2.2 (kk cls hP (okS.cons (hP.2.2 i _ hl).2.1 hS)))) k
theorem w_aload_nN {q : Fin 4} {i : Nat} (hd : decode M.2.1 pc = .ok (.aload_n q, 1)) (hi : (q : Nat) = i) (hl : ls[i]? = some (some .null)) (k : WP M d L (pc + 1) ls (.null :: st) h Q) : WP M d L pc ls (st) h Q :=
  WP.mp (fun _ _ => Rt.pure (fun p l e R s m args below meth c H locs cells slots Q ad cls cy D A hx hb hC hR hP hS kk => lv_aload_nN hx hb hd hi (hP.2.2 i _ hl).2.2 (kk cls hP (okS.cons (okv_null _) hS)))) k
theorem w_istore_n {q : Fin 4} {i : Nat} {x : Int32} (hd : decode M.2.1 pc = .ok (.istore_n q, 1)) (hi : (q : Nat) = i) (hn9 : i < M.2.2.1) (k : WP M d L (pc + 1) (ls.set i (some (.int x))) (st) h Q) : WP M d L pc ls (.int x :: st) h Q :=
  WP.mp (fun _ _ => Rt.pure (fun p l e R s m args below meth c H locs cells slots Q ad cls cy D A hx hb hC hR hP hS kk => lv_istore_n hx hb hd hi hP.has hn9 rfl (fun cls2 h2 => kk cls2 (PL.store (v := .int x) hP rfl (okv_int _ _) h2) (okS.tl hS)))) k
theorem w_istore {i : Nat} {x : Int32} (hd : decode M.2.1 pc = .ok (.istore i, 2)) (hn9 : i < M.2.2.1) (k : WP M d L (pc + 2) (ls.set i (some (.int x))) (st) h Q) : WP M d L pc ls (.int x :: st) h Q :=
  WP.mp (fun _ _ => Rt.pure (fun p l e R s m args below meth c H locs cells slots Q ad cls cy D A hx hb hC hR hP hS kk => lv_istore hx hb hd hP.has hn9 rfl (fun cls2 h2 => kk cls2 (PL.store (v := .int x) hP rfl (okv_int _ _) h2) (okS.tl hS)))) k
theorem w_astore_n {q : Fin 4} {i : Nat} {x : Nat} (hd : decode M.2.1 pc = .ok (.astore_n q, 1)) (hi : (q : Nat) = i) (hn9 : i < M.2.2.1) (k : WP M d L (pc + 1) (ls.set i (some (.ref x))) (st) h Q) : WP M d L pc ls (.ref x :: st) h Q :=
  WP.mp (fun _ _ => Rt.pure (fun p l e R s m args below meth c H locs cells slots Q ad cls cy D A hx hb hC hR hP hS kk => lv_astore_n hx hb hd hi hP.has hn9 rfl (fun cls2 h2 => kk cls2 (PL.store (v := .ref x) hP rfl (okS.hd hS) h2) (okS.tl hS)))) k
theorem w_astore {i : Nat} {x : Nat} (hd : decode M.2.1 pc = .ok (.astore i, 2)) (hn9 : i < M.2.2.1) (k : WP M d L (pc + 2) (ls.set i (some (.ref x))) (st) h Q) : WP M d L pc ls (.ref x :: st) h Q :=
  WP.mp (fun _ _ => Rt.pure (fun p l e R s m args below meth c H locs cells slots Q ad cls cy D A hx hb hC hR hP hS kk => lv_astore hx hb hd hP.has hn9 rfl (fun cls2 h2 => kk cls2 (PL.store (v := .ref x) hP rfl (okS.hd hS) h2) (okS.tl hS)))) k
theorem w_astore_nN {q : Fin 4} {i : Nat}  (hd : decode M.2.1 pc = .ok (.astore_n q, 1)) (hi : (q : Nat) = i) (hn9 : i < M.2.2.1) (k : WP M d L (pc + 1) (ls.set i (some (.null))) (st) h Q) : WP M d L pc ls (.null :: st) h Q :=
  WP.mp (fun _ _ => Rt.pure (fun p l e R s m args below meth c H locs cells slots Q ad cls cy D A hx hb hC hR hP hS kk => lv_astore_nN hx hb hd hi hP.has hn9 rfl (fun cls2 h2 => kk cls2 (PL.store (v := .null) hP rfl (okv_null _) h2) (okS.tl hS)))) k
theorem w_astoreN {i : Nat}  (hd : decode M.2.1 pc = .ok (.astore i, 2)) (hn9 : i < M.2.2.1) (k : WP M d L (pc + 2) (ls.set i (some (.null))) (st) h Q) : WP M d L pc ls (.null :: st) h Q :=
  WP.mp (fun _ _ => Rt.pure (fun p l e R s m args below meth c H locs cells slots Q ad cls cy D A hx hb hC hR hP hS kk => lv_astoreN hx hb hd hP.has hn9 rfl (fun cls2 h2 => kk cls2 (PL.store (v := .null) hP rfl (okv_null _) h2) (okS.tl hS)))) k
theorem w_iinc {i : Nat} {n : Int} {x v : Int32} (hd : decode M.2.1 pc = .ok (.iinc i n, 3)) (hl : ls[i]? = some (some (.int x))) (hv : x + Int32.ofInt n = v) (hn9 : i < M.2.2.1) (k : WP M d L (pc + 3) (ls.set i (some (.int v))) st h Q) : WP M d L pc ls st h Q :=
  WP.mp (fun _ _ => Rt.pure (fun p l e R s m args below meth c H locs cells slots Q ad cls cy D A hx hb hC hR hP hS kk => by
    obtain ⟨j, hj⟩ := List.getElem?_of_mem (lvl_mem (ad := ad) hl)
    exact lv_iinc hx hb hd hP.has hj hv hn9 rfl (fun cls2 h2 => kk cls2 (PL.store (v := .int v) hP rfl (okv_int _ _) h2) hS))) k
theorem w_dup {v : Value} (hd : decode M.2.1 pc = .ok (.dup, 1)) (hv : v.category = 1) (k : WP M d L (pc + 1) ls (v :: v :: st) h Q) : WP M d L pc ls (v :: st) h Q :=
  WP.mp (fun _ _ => Rt.pure (fun p l e R s m args below meth c H locs cells slots Q ad cls cy D A hx hb hC hR hP hS kk => lv_dup hx hb hd (by rw [cv_cat]; exact hv) (kk cls hP (okS.cons (okS.hd hS) hS)))) k
theorem w_dup2 {v u : Value} (hd : decode M.2.1 pc = .ok (.dup2, 1)) (hv : v.category = 1) (hu : u.category = 1) (k : WP M d L (pc + 1) ls (v :: u :: v :: u :: st) h Q) : WP M d L pc ls (v :: u :: st) h Q :=
  WP.mp (fun _ _ => Rt.pure (fun p l e R s m args below meth c H locs cells slots Q ad cls cy D A hx hb hC hR hP hS kk => lv_dup2_11 hx hb hd (by rw [cv_cat]; exact hv) (by rw [cv_cat]; exact hu) (kk cls hP (okS.cons (okS.hd hS) (okS.cons (okS.hd (okS.tl hS)) hS))))) k
theorem w_pop {v : Value} (hd : decode M.2.1 pc = .ok (.pop, 1)) (hv : v.category = 1) (k : WP M d L (pc + 1) ls (st) h Q) : WP M d L pc ls (v :: st) h Q :=
  WP.mp (fun _ _ => Rt.pure (fun p l e R s m args below meth c H locs cells slots Q ad cls cy D A hx hb hC hR hP hS kk => lv_pop hx hb hd (by rw [cv_cat]; exact hv) (kk cls hP (okS.tl hS)))) k
theorem w_goto {off : Int} {tgt : Nat} (hd : decode M.2.1 pc = .ok (.goto off, 3)) (ht : (pc : Int) + off = (tgt : Int)) (k : WP M d L (tgt) ls (st) h Q) : WP M d L pc ls (st) h Q :=
  WP.mp (fun _ _ => Rt.pure (fun p l e R s m args below meth c H locs cells slots Q ad cls cy D A hx hb hC hR hP hS kk => lv_goto hx hb hd ht (kk cls hP hS))) k
theorem w_if_eq {x : Int32} {off : Int} {tgt : Nat} (hd : decode M.2.1 pc = .ok (.ifCond .eq off, 3)) (ht : (pc : Int) + off = (tgt : Int)) (kt : x = 0 → WP M d L tgt ls st h Q) (kf : ¬ x = 0 → WP M d L (pc + 3) ls st h Q) : WP M d L pc ls (.int x :: st) h Q := by
  by_cases e : x = 0
  · exact WP.mp (fun _ _ => Rt.pure (fun p l e9 R s m args below meth c9 H locs cells slots Q ad cls cy D A hx hb hC hR hP hS kk => lv_if_eq hx hb hd ht (fun _ => kk cls hP (okS.tl hS)) (fun n => absurd e n))) (kt e)
  · exact WP.mp (fun _ _ => Rt.pure (fun p l e9 R s m args below meth c9 H locs cells slots Q ad cls cy D A hx hb hC hR hP hS kk => lv_if_eq hx hb hd ht (fun n => absurd n e) (fun _ => kk cls hP (okS.tl hS)))) (kf e)
theorem w_if_ne {x : Int32} {off : Int} {tgt : Nat} (hd : decode M.2.1 pc = .ok (.ifCond .ne off, 3)) (ht : (pc : Int) + off = (tgt : Int)) (kt : ¬ x = 0 → WP M d L tgt ls st h Q) (kf : x = 0 → WP M d L (pc + 3) ls st h Q) : WP M d L pc ls (.int x :: st) h Q := by
  by_cases e : x = 0
  · exact WP.mp (fun _ _ => Rt.pure (fun p l e9 R s m args below meth c9 H locs cells slots Q ad cls cy D A hx hb hC hR hP hS kk => lv_if_ne hx hb hd ht (fun n => absurd e n) (fun _ => kk cls hP (okS.tl hS)))) (kf e)
  · exact WP.mp (fun _ _ => Rt.pure (fun p l e9 R s m args below meth c9 H locs cells slots Q ad cls cy D A hx hb hC hR hP hS kk => lv_if_ne hx hb hd ht (fun _ => kk cls hP (okS.tl hS)) (fun n => absurd n e))) (kt e)
theorem w_if_lt {x : Int32} {off : Int} {tgt : Nat} (hd : decode M.2.1 pc = .ok (.ifCond .lt off, 3)) (ht : (pc : Int) + off = (tgt : Int)) (kt : x < 0 → WP M d L tgt ls st h Q) (kf : ¬ x < 0 → WP M d L (pc + 3) ls st h Q) : WP M d L pc ls (.int x :: st) h Q := by
  by_cases e : x < 0
  · exact WP.mp (fun _ _ => Rt.pure (fun p l e9 R s m args below meth c9 H locs cells slots Q ad cls cy D A hx hb hC hR hP hS kk => lv_if_lt hx hb hd ht (fun _ => kk cls hP (okS.tl hS)) (fun n => absurd e n))) (kt e)
  · exact WP.mp (fun _ _ => Rt.pure (fun p l e9 R s m args below meth c9 H locs cells slots Q ad cls cy D A hx hb hC hR hP hS kk => lv_if_lt hx hb hd ht (fun n => absurd n e) (fun _ => kk cls hP (okS.tl hS)))) (kf e)
theorem w_if_ge {x : Int32} {off : Int} {tgt : Nat} (hd : decode M.2.1 pc = .ok (.ifCond .ge off, 3)) (ht : (pc : Int) + off = (tgt : Int)) (kt : 0 ≤ x → WP M d L tgt ls st h Q) (kf : ¬ 0 ≤ x → WP M d L (pc + 3) ls st h Q) : WP M d L pc ls (.int x :: st) h Q := by
  by_cases e : 0 ≤ x
  · exact WP.mp (fun _ _ => Rt.pure (fun p l e9 R s m args below meth c9 H locs cells slots Q ad cls cy D A hx hb hC hR hP hS kk => lv_if_ge hx hb hd ht (fun _ => kk cls hP (okS.tl hS)) (fun n => absurd e n))) (kt e)
  · exact WP.mp (fun _ _ => Rt.pure (fun p l e9 R s m args below meth c9 H locs cells slots Q ad cls cy D A hx hb hC hR hP hS kk => lv_if_ge hx hb hd ht (fun n => absurd n e) (fun _ => kk cls hP (okS.tl hS)))) (kf e)
theorem w_if_gt {x : Int32} {off : Int} {tgt : Nat} (hd : decode M.2.1 pc = .ok (.ifCond .gt off, 3)) (ht : (pc : Int) + off = (tgt : Int)) (kt : 0 < x → WP M d L tgt ls st h Q) (kf : ¬ 0 < x → WP M d L (pc + 3) ls st h Q) : WP M d L pc ls (.int x :: st) h Q := by
  by_cases e : 0 < x
  · exact WP.mp (fun _ _ => Rt.pure (fun p l e9 R s m args below meth c9 H locs cells slots Q ad cls cy D A hx hb hC hR hP hS kk => lv_if_gt hx hb hd ht (fun _ => kk cls hP (okS.tl hS)) (fun n => absurd e n))) (kt e)
  · exact WP.mp (fun _ _ => Rt.pure (fun p l e9 R s m args below meth c9 H locs cells slots Q ad cls cy D A hx hb hC hR hP hS kk => lv_if_gt hx hb hd ht (fun n => absurd n e) (fun _ => kk cls hP (okS.tl hS)))) (kf e)
theorem w_if_le {x : Int32} {off : Int} {tgt : Nat} (hd : decode M.2.1 pc = .ok (.ifCond .le off, 3)) (ht : (pc : Int) + off = (tgt : Int)) (kt : x ≤ 0 → WP M d L tgt ls st h Q) (kf : ¬ x ≤ 0 → WP M d L (pc + 3) ls st h Q) : WP M d L pc ls (.int x :: st) h Q := by
  by_cases e : x ≤ 0
  · exact WP.mp (fun _ _ => Rt.pure (fun p l e9 R s m args below meth c9 H locs cells slots Q ad cls cy D A hx hb hC hR hP hS kk => lv_if_le hx hb hd ht (fun _ => kk cls hP (okS.tl hS)) (fun n => absurd e n))) (kt e)
  · exact WP.mp (fun _ _ => Rt.pure (fun p l e9 R s m args below meth c9 H locs cells slots Q ad cls cy D A hx hb hC hR hP hS kk => lv_if_le hx hb hd ht (fun n => absurd n e) (fun _ => kk cls hP (okS.tl hS)))) (kf e)
theorem w_icmp_eq {x y : Int32} {off : Int} {tgt : Nat} (hd : decode M.2.1 pc = .ok (.if_icmp .eq off, 3)) (ht : (pc : Int) + off = (tgt : Int)) (kt : x = y → WP M d L tgt ls st h Q) (kf : ¬ x = y → WP M d L (pc + 3) ls st h Q) : WP M d L pc ls (.int y :: .int x :: st) h Q := by
  by_cases e : x = y
  · exact WP.mp (fun _ _ => Rt.pure (fun p l e9 R s m args below meth c9 H locs cells slots Q ad cls cy D A hx hb hC hR hP hS kk => lv_icmp_eq hx hb hd ht (fun _ => kk cls hP (okS.tl (okS.tl hS))) (fun n => absurd e n))) (kt e)
  · exact WP.mp (fun _ _ => Rt.pure (fun p l e9 R s m args below meth c9 H locs cells slots Q ad cls cy D A hx hb hC hR hP hS kk => lv_icmp_eq hx hb hd ht (fun n => absurd n e) (fun _ => kk cls hP (okS.tl (okS.tl hS))))) (kf e)
theorem w_icmp_ne {x y : Int32} {off : Int} {tgt : Nat} (hd : decode M.2.1 pc = .ok (.if_icmp .ne off, 3)) (ht : (pc : Int) + off = (tgt : Int)) (kt : ¬ x = y → WP M d L tgt ls st h Q) (kf : x = y → WP M d L (pc + 3) ls st h Q) : WP M d L pc ls (.int y :: .int x :: st) h Q := by
  by_cases e : x = y
  · exact WP.mp (fun _ _ => Rt.pure (fun p l e9 R s m args below meth c9 H locs cells slots Q ad cls cy D A hx hb hC hR hP hS kk => lv_icmp_ne hx hb hd ht (fun n => absurd e n) (fun _ => kk cls hP (okS.tl (okS.tl hS))))) (kf e)
  · exact WP.mp (fun _ _ => Rt.pure (fun p l e9 R s m args below meth c9 H locs cells slots Q ad cls cy D A hx hb hC hR hP hS kk => lv_icmp_ne hx hb hd ht (fun _ => kk cls hP (okS.tl (okS.tl hS))) (fun n => absurd n e))) (kt e)
theorem w_icmp_lt {x y : Int32} {off : Int} {tgt : Nat} (hd : decode M.2.1 pc = .ok (.if_icmp .lt off, 3)) (ht : (pc : Int) + off = (tgt : Int)) (kt : x < y → WP M d L tgt ls st h Q) (kf : ¬ x < y → WP M d L (pc + 3) ls st h Q) : WP M d L pc ls (.int y :: .int x :: st) h Q := by
  by_cases e : x < y
  · exact WP.mp (fun _ _ => Rt.pure (fun p l e9 R s m args below meth c9 H locs cells slots Q ad cls cy D A hx hb hC hR hP hS kk => lv_icmp_lt hx hb hd ht (fun _ => kk cls hP (okS.tl (okS.tl hS))) (fun n => absurd e n))) (kt e)
  · exact WP.mp (fun _ _ => Rt.pure (fun p l e9 R s m args below meth c9 H locs cells slots Q ad cls cy D A hx hb hC hR hP hS kk => lv_icmp_lt hx hb hd ht (fun n => absurd n e) (fun _ => kk cls hP (okS.tl (okS.tl hS))))) (kf e)
theorem w_icmp_ge {x y : Int32} {off : Int} {tgt : Nat} (hd : decode M.2.1 pc = .ok (.if_icmp .ge off, 3)) (ht : (pc : Int) + off = (tgt : Int)) (kt : y ≤ x → WP M d L tgt ls st h Q) (kf : ¬ y ≤ x → WP M d L (pc + 3) ls st h Q) : WP M d L pc ls (.int y :: .int x :: st) h Q := by
  by_cases e : y ≤ x
  · exact WP.mp (fun _ _ => Rt.pure (fun p l e9 R s m args below meth c9 H locs cells slots Q ad cls cy D A hx hb hC hR hP hS kk => lv_icmp_ge hx hb hd ht (fun _ => kk cls hP (okS.tl (okS.tl hS))) (fun n => absurd e n))) (kt e)
  · exact WP.mp (fun _ _ => Rt.pure (fun p l e9 R s m args below meth c9 H locs cells slots Q ad cls cy D A hx hb hC hR hP hS kk => lv_icmp_ge hx hb hd ht (fun n => absurd n e) (fun _ => kk cls hP (okS.tl (okS.tl hS))))) (kf e)
theorem w_icmp_gt {x y : Int32} {off : Int} {tgt : Nat} (hd : decode M.2.1 pc = .ok (.if_icmp .gt off, 3)) (ht : (pc : Int) + off = (tgt : Int)) (kt : y < x → WP M d L tgt ls st h Q) (kf : ¬ y < x → WP M d L (pc + 3) ls st h Q) : WP M d L pc ls (.int y :: .int x :: st) h Q := by
  by_cases e : y < x
  · exact WP.mp (fun _ _ => Rt.pure (fun p l e9 R s m args below meth c9 H locs cells slots Q ad cls cy D A hx hb hC hR hP hS kk => lv_icmp_gt hx hb hd ht (fun _ => kk cls hP (okS.tl (okS.tl hS))) (fun n => absurd e n))) (kt e)
  · exact WP.mp (fun _ _ => Rt.pure (fun p l e9 R s m args below meth c9 H locs cells slots Q ad cls cy D A hx hb hC hR hP hS kk => lv_icmp_gt hx hb hd ht (fun n => absurd n e) (fun _ => kk cls hP (okS.tl (okS.tl hS))))) (kf e)
theorem w_icmp_le {x y : Int32} {off : Int} {tgt : Nat} (hd : decode M.2.1 pc = .ok (.if_icmp .le off, 3)) (ht : (pc : Int) + off = (tgt : Int)) (kt : x ≤ y → WP M d L tgt ls st h Q) (kf : ¬ x ≤ y → WP M d L (pc + 3) ls st h Q) : WP M d L pc ls (.int y :: .int x :: st) h Q := by
  by_cases e : x ≤ y
  · exact WP.mp (fun _ _ => Rt.pure (fun p l e9 R s m args below meth c9 H locs cells slots Q ad cls cy D A hx hb hC hR hP hS kk => lv_icmp_le hx hb hd ht (fun _ => kk cls hP (okS.tl (okS.tl hS))) (fun n => absurd e n))) (kt e)
  · exact WP.mp (fun _ _ => Rt.pure (fun p l e9 R s m args below meth c9 H locs cells slots Q ad cls cy D A hx hb hC hR hP hS kk => lv_icmp_le hx hb hd ht (fun n => absurd n e) (fun _ => kk cls hP (okS.tl (okS.tl hS))))) (kf e)
theorem w_ifnull {a : Nat} {off : Int} (hd : decode M.2.1 pc = .ok (.ifnull off, 3)) (k : WP M d L (pc + 3) ls (st) h Q) : WP M d L pc ls (.ref a :: st) h Q :=
  WP.mp (fun _ _ => Rt.pure (fun p l e R s m args below meth c H locs cells slots Q ad cls cy D A hx hb hC hR hP hS kk => lv_ifnull hx hb hd (kk cls hP (okS.tl hS)))) k
theorem w_ifnullN {off : Int} {tgt : Nat} (hd : decode M.2.1 pc = .ok (.ifnull off, 3)) (ht : (pc : Int) + off = (tgt : Int)) (k : WP M d L (tgt) ls (st) h Q) : WP M d L pc ls (.null :: st) h Q :=
  WP.mp (fun _ _ => Rt.pure (fun p l e R s m args below meth c H locs cells slots Q ad cls cy D A hx hb hC hR hP hS kk => lv_ifnullN hx hb hd ht (kk cls hP (okS.tl hS)))) k
theorem w_ifnonnull {a : Nat} {off : Int} {tgt : Nat} (hd : decode M.2.1 pc = .ok (.ifnonnull off, 3)) (ht : (pc : Int) + off = (tgt : Int)) (k : WP M d L (tgt) ls (st) h Q) : WP M d L pc ls (.ref a :: st) h Q :=
  WP.mp (fun _ _ => Rt.pure (fun p l e R s m args below meth c H locs cells slots Q ad cls cy D A hx hb hC hR hP hS kk => lv_ifnonnull hx hb hd ht (kk cls hP (okS.tl hS)))) k
theorem w_ifnonnullN {off : Int} (hd : decode M.2.1 pc = .ok (.ifnonnull off, 3)) (k : WP M d L (pc + 3) ls (st) h Q) : WP M d L pc ls (.null :: st) h Q :=
  WP.mp (fun _ _ => Rt.pure (fun p l e R s m args below meth c H locs cells slots Q ad cls cy D A hx hb hC hR hP hS kk => lv_ifnonnullN hx hb hd (kk cls hP (okS.tl hS)))) k
theorem w_tableOut {dflt lo hi : Int} {offs : Array Int} {len : Nat} {x : Int32} {tgt : Nat} (hd : decode M.2.1 pc = .ok (.tableswitch dflt lo hi offs, len)) (hx9 : x.toInt < lo ∨ hi < x.toInt) (ht : (pc : Int) + dflt = (tgt : Int)) (k : WP M d L (tgt) ls (st) h Q) : WP M d L pc ls (.int x :: st) h Q :=
  WP.mp (fun _ _ => Rt.pure (fun p l e R s m args below meth c H locs cells slots Q ad cls cy D A hx hb hC hR hP hS kk => lv_tableOut hx hb hd hx9 ht (kk cls hP (okS.tl hS)))) k
theorem w_tableIn {dflt lo hi : Int} {offs : Array Int} {len : Nat} {x : Int32} {off : Int} {tgt : Nat} (hd : decode M.2.1 pc = .ok (.tableswitch dflt lo hi offs, len)) (h1 : ¬ x.toInt < lo) (h2 : ¬ hi < x.toInt) (ho : offs[(x.toInt - lo).toNat]? = some off) (ht : (pc : Int) + off = (tgt : Int)) (k : WP M d L (tgt) ls (st) h Q) : WP M d L pc ls (.int x :: st) h Q :=
  WP.mp (fun _ _ => Rt.pure (fun p l e R s m args below meth c H locs cells slots Q ad cls cy D A hx hb hC hR hP hS kk => lv_tableIn hx hb hd h1 h2 ho ht (kk cls hP (okS.tl hS)))) k
theorem w_lookup {dflt : Int} {ps : Array (Int × Int)} {len : Nat} {x : Int32} {off : Int} {tgt : Nat} (hd : decode M.2.1 pc = .ok (.lookupswitch dflt ps, len)) (hp : (ps.toList.zip (ps.toList.drop 1)).all (fun (a, next) => a.1 < next.1) = true) (ho : Op.lookupswitch.offset ps.toList dflt x.toInt = off) (ht : (pc : Int) + off = (tgt : Int)) (k : WP M d L (tgt) ls (st) h Q) : WP M d L pc ls (.int x :: st) h Q :=
  WP.mp (fun _ _ => Rt.pure (fun p l e R s m args below meth c H locs cells slots Q ad cls cy D A hx hb hC hR hP hS kk => lv_lookup hx hb hd hp ho ht (kk cls hP (okS.tl hS)))) k
/-- the ends of a run -/
theorem w_vret (hd : decode M.2.1 pc = .ok (.return_, 1)) (k : Q none h) : WP M d L pc ls [] h Q :=
  ⟨none, h, ⟨Nat.le_refl _, Nat.le_refl _, Nat.le_refl _, fun p l e R s m args below meth c cy D A ad H locs cls c0 s0 Qf hC h1 h2 h3 h4 h5 h6 hR hP hS hEnd => hEnd ad H locs cls pc (fun _ _ => rfl) hR hd (fun v e => by cases e) hP.1⟩, k⟩
theorem w_iret {v : Int32} (hd : decode M.2.1 pc = .ok (.ireturn, 1)) (hn9 : ∀ ty, M.2.2.2.1 = some ty → narrow ty (.int v) = .int v) (k : Q (some (.int v)) h) : WP M d L pc ls [.int v] h Q :=
  ⟨some (.int v), h, ⟨Nat.le_refl _, Nat.le_refl _, Nat.le_refl _, fun p l e R s m args below meth c cy D A ad H locs cls c0 s0 Qf hC h1 h2 h3 h4 h5 h6 hR hP hS hEnd => hEnd ad H locs cls pc (fun _ _ => rfl) hR ⟨hd, hn9⟩ (fun v e => by cases e; exact okv_int _ _) hP.1⟩, k⟩
theorem w_aret {a : Nat} (hd : decode M.2.1 pc = .ok (.areturn, 1)) (k : Q (some (.ref a)) h) : WP M d L pc ls [.ref a] h Q :=
  ⟨some (.ref a), h, ⟨Nat.le_refl _, Nat.le_refl _, Nat.le_refl _, fun p l e R s m args below meth c cy D A ad H locs cls c0 s0 Qf hC h1 h2 h3 h4 h5 h6 hR hP hS hEnd => hEnd ad H locs cls pc (fun _ _ => rfl) hR hd (fun v e => by cases e; exact hS _ List.mem_cons_self) hP.1⟩, k⟩
theorem w_aretN (hd : decode M.2.1 pc = .ok (.areturn, 1)) (k : Q (some .null) h) : WP M d L pc ls [.null] h Q :=
  ⟨some .null, h, ⟨Nat.le_refl _, Nat.le_refl _, Nat.le_refl _, fun p l e R s m args below meth c cy D A ad H locs cls c0 s0 Qf hC h1 h2 h3 h4 h5 h6 hR hP hS hEnd => hEnd ad H locs cls pc (fun _ _ => rfl) hR hd (fun v e => by cases e; exact okv_null _) hP.1⟩, k⟩
/-- a throw's own 'new': the run ends there (what it throws is told by the pc) -/
theorem w_throw (k : Q (some (.retAddr pc)) h) : WP M d L pc ls [] h Q :=
  ⟨some (.retAddr pc), h, ⟨Nat.le_refl _, Nat.le_refl _, Nat.le_refl _, fun p l e R s m args below meth c cy D A ad H locs cls c0 s0 Qf hC h1 h2 h3 h4 h5 h6 hR hP hS hEnd => hEnd ad H locs cls pc (fun _ _ => rfl) hR rfl (fun v e => by cases e; intro a e; cases e) hP.1⟩, k⟩
end PR
end
section
/-! ROWS OF THE PURE MACHINE: fields, arrays, what is new -/
def CL (ci : Nat) (C : String) (T : u_T) (N : Nat) : Prop := vwCl[ci]? = some (C, T, N) ∧ nF ci = N ∧ ci < 11 ∧ (∃ ty0 : Nat → FieldType, (∀ k, k < N → parseFieldDescriptor (T k).2.2.1 = some (ty0 k)) ∧ ∀ k, k < N → defaultValue (ty0 k) = (if fk ci k = 0 then .int 0 else if fk ci k = 1 then .long 0 else .null)) ∧ (∀ a, a < N → ∀ b, b < N → a ≠ b → (T a).2.1 ≠ (T b).2.1) ∧ (∀ w ∈ u_ws C T N, w ∈ Tg)
def LK (own : String) (idx : Nat) (T : u_T) (k : Nat) : Prop := Jvm.Cond.fieldLink own idx (T k).1 (T k).2.1 (T k).2.2.1 ∈ Tg ∨ ∃ host, Jvm.Cond.fieldLinkNest own idx (T k).1 (T k).2.1 (T k).2.2.1 host ∈ Tg
/-- entry idx of the class own is the field k of the class ci, of the type ty; f: it is final -/
def FL (own : String) (idx ci k : Nat) (ty : FieldType) (f : Bool) : Prop := ∃ (C : String) (T : u_T) (N : Nat), CL ci C T N ∧ k < N ∧ parseFieldDescriptor (T k).2.2.1 = some ty ∧ (T k).2.2.2 = f ∧ LK own idx T k
/-- a field's value, as the pure heap has it -/
def fa (h : PH) (a c k : Nat) : Value := if fk c k = 0 then .int (hI h a k) else if fk c k = 1 then .long (hL h a k) else va_rf (hR h a k)
theorem cv_fa (ad : Nat → Nat) (h : PH) (a c k : Nat) : cv ad (fa h a c k) = fv ad h a c k := by
  unfold fa fv
  by_cases e : fk c k = 0
  · rw [if_pos e, if_pos e]; rfl
  · rw [if_neg e, if_neg e]
    by_cases e2 : fk c k = 1
    · rw [if_pos e2, if_pos e2]; rfl
    · rw [if_neg e2, if_neg e2, cv_rf]
theorem ok_fa {h : PH} (ho : okh h) {a c k : Nat} (ha : a < hn h) : okv (hn h) (fa h a c k) := by
  unfold fa
  by_cases e : fk c k = 0
  · rw [if_pos e]; exact okv_int _ _
  · rw [if_neg e]
    by_cases e2 : fk c k = 1
    · rw [if_pos e2]; exact okv_long _ _
    · rw [if_neg e2]
      cases e3 : hR h a k with
      | none => exact okv_null _
      | some b => intro x hx; cases hx; exact ho a k b ha e3
theorem ce_o {cy : Nat → ClassId} {ad : Nat → Nat} {h : PH} {a c : Nat} (hk : kd a = c) (hc : c < 11) : ce cy ad h a = .inr (c, (List.range (nF c)).map (fv ad h a c)) := by
  subst hk; unfold ce; rw [if_pos hc]
theorem ce_b {cy : Nat → ClassId} {ad : Nat → Nat} {h : PH} {a : Nat} (hk : kd a = 11) : ce cy ad h a = .inl (cy 0, ln a, .inl (hI h a)) := by simp [ce, hk]
theorem ce_i {cy : Nat → ClassId} {ad : Nat → Nat} {h : PH} {a : Nat} (hk : kd a = 12) : ce cy ad h a = .inl (cy 1, ln a, .inl (hI h a)) := by simp [ce, hk]
theorem ce_l {cy : Nat → ClassId} {ad : Nat → Nat} {h : PH} {a : Nat} (hk : kd a = 13) : ce cy ad h a = .inl (cy 2, ln a, .inr (.inl (hL h a))) := by simp [ce, hk]
theorem ce_r {cy : Nat → ClassId} {ad : Nat → Nat} {h : PH} {a : Nat} (hk : kd a = 14) : ce cy ad h a = .inl (cy 3, ln a, .inr (.inr (.inr (.inr (fun j => (hR h a j).map ad))))) := by simp [ce, hk]
theorem up2_s {α : Type} (f : Nat → Nat → α) (a k : Nat) (v : α) : up2 f a k v a = fun j => if j = k then v else f a j := by funext j; simp [up2]
theorem up2_o {α : Type} (f : Nat → Nat → α) {a b : Nat} (k : Nat) (v : α) (e : b ≠ a) : up2 f a k v b = f b := by funext j; simp [up2, e]
theorem ce_sI {cy : Nat → ClassId} {ad : Nat → Nat} {h : PH} {a b k : Nat} {v : Int32} (e : b ≠ a) : ce cy ad (sI h a k v) b = ce cy ad h b := by
  have h1 : hI (sI h a k v) b = hI h b := up2_o _ _ _ e
  have h2 : fv ad (sI h a k v) b (kd b) = fv ad h b (kd b) := by funext j; unfold fv; rw [h1]; rfl
  unfold ce; rw [h2, h1]; rfl
theorem ce_sL {cy : Nat → ClassId} {ad : Nat → Nat} {h : PH} {a b k : Nat} {v : Int64} (e : b ≠ a) : ce cy ad (sL h a k v) b = ce cy ad h b := by
  have h1 : hL (sL h a k v) b = hL h b := up2_o _ _ _ e
  have h2 : fv ad (sL h a k v) b (kd b) = fv ad h b (kd b) := by funext j; unfold fv; rw [h1]; rfl
  unfold ce; rw [h2, h1]; rfl
theorem ce_sR {cy : Nat → ClassId} {ad : Nat → Nat} {h : PH} {a b k : Nat} {v : Option Nat} (e : b ≠ a) : ce cy ad (sR h a k v) b = ce cy ad h b := by
  have h1 : hR (sR h a k v) b = hR h b := up2_o _ _ _ e
  have h2 : fv ad (sR h a k v) b (kd b) = fv ad h b (kd b) := by funext j; unfold fv; rw [h1]; rfl
  unfold ce; rw [h2, h1]; rfl
theorem rset {α : Type} (n k : Nat) (f g : Nat → α) (v : α) (hk : g k = v) (ho : ∀ j, j ≠ k → g j = f j) : ((List.range n).map f).set k v = (List.range n).map g := by
  apply List.ext_getElem?
  intro i
  rw [List.getElem?_set, List.getElem?_map, List.getElem?_map]
  by_cases hi : i < n
  · rw [List.getElem?_range hi]
    by_cases e : k = i
    · subst e; simp [hi, hk]
    · rw [if_neg e]; show some (f i) = some (g i); rw [ho i (Ne.symm e)]
  · have h1 : (List.range n)[i]? = none := List.getElem?_eq_none (by simp; omega)
    rw [h1]
    by_cases e : k = i
    · subst e; simp [hi]
    · rw [if_neg e]; rfl
theorem okh_sI {h : PH} {a k : Nat} {v : Int32} (ho : okh h) : okh (sI h a k v) := ho
theorem okh_sL {h : PH} {a k : Nat} {v : Int64} (ho : okh h) : okh (sL h a k v) := ho
theorem okh_sR {h : PH} {a k : Nat} {v : Option Nat} (ho : okh h) (hv : ∀ b, v = some b → okr (hn h) b) : okh (sR h a k v) := by
  intro x j b hx e
  have e : up2 (hR h) a k v x j = some b := e
  unfold up2 at e
  by_cases e1 : x = a
  · rw [if_pos e1] at e
    by_cases e2 : j = k
    · rw [if_pos e2] at e; exact hv b e
    · rw [if_neg e2] at e; exact ho x j b hx e
  · rw [if_neg e1] at e; exact ho x j b hx e
/-- an instruction that writes into a cell that is there -/
theorem Rt.put {M : MR} {d L pc pc' : Nat} {ls : List (Option Value)} {st st' : List Value} {h h' : PH} {r : Option Value} {hE : PH} (hnn : hn h' = hn h) (hcc : hc h' = hc h) (hss : hs h' = hs h)
    (w : ∀ (p : Program) (l : Launch) (e : Env) (R : Room) (s : State) (m : MethodId) (args : Array Value) (below : List Frame) (meth : Method) (c : Code) (H : Heap) (locs : List Loc) (cells slots : Nat) (Q : State → Prop) (ad : Nat → Nat) (cls : Array Slot) (cy : Nat → ClassId) (D : va_G) (A : Nat → Prop),
      p.tables.exec = Jvm.exec → c.code = M.2.1 → Cx M cy D ad A p s m args meth c → Rp cy D ad h A s.heap H locs → okS (hn h) st →
      (∀ H' locs', Rp cy D ad h' A s.heap H' locs' → okS (hn h) st' → W p l e R s m args below meth c H' locs' cells slots Q (F0 m pc' cls (st'.map (cv ad)))) → W p l e R s m args below meth c H locs cells slots Q (F0 m pc cls (st.map (cv ad))))
    (k : Rt M d L pc' ls st' h' r hE) : Rt M d L pc ls st h r hE := by
  obtain ⟨k1, k2, k3, k4⟩ := k
  rw [hnn] at k1; rw [hcc] at k2; rw [hss] at k3
  refine ⟨k1, k2, k3, ?_⟩
  intro p l e R s m args below meth c cy D A ad H locs cls c0 s0 Qf hC hd hL h1 h2 h3 h4 hR hP hS hEnd
  refine w p l e R s m args below meth c H locs _ _ Qf ad cls cy D A hC.1 hC.2.1 hC hR hS (fun H' locs' hR' hS' => ?_)
  have := k4 p l e R s m args below meth c cy D A ad H' locs' cls c0 s0 Qf hC hd hL h1 h2 (by rw [hcc]; exact h3) (by rw [hss]; exact h4) hR' (by rw [hnn]; exact hP) (by rw [hnn]; exact hS') (by rw [hnn]; exact hEnd)
  rw [hcc, hss] at this
  exact this
section HR
variable {M : MR} {d L pc : Nat} {ls : List (Option Value)} {st : List Value} {h : PH} {Q : Option Value → PH → Prop}
/-- getfield, of any kind -/
theorem w_getA {idx ci k a : Nat} {ty : FieldType} {f : Bool} (hd : decode M.2.1 pc = .ok (.getfield idx, 3)) (hf : FL M.1 idx ci k ty f) (hk : kd a = ci) (ha : a < hn h) (kk : WP M d L (pc + 3) ls (fa h a ci k :: st) h Q) : WP M d L pc ls (.ref a :: st) h Q := by
  obtain ⟨C, T, N, ⟨q1, q2, q3, ⟨ty0, q4, q5⟩, q6, q7⟩, g1, g2, g3, g4⟩ := hf
  refine WP.mp (fun _ _ => Rt.pure (fun p l e R s m args below meth c H locs cells slots Q ad cls cy D A hx hb hC hR hP hS kk => ?_)) kk
  have hv : ((List.range (nF ci)).map (fv ad h a ci))[k]? = some (cv ad (fa h a ci k)) := by
    rw [List.getElem?_map, List.getElem?_range (by rw [q2]; exact g1), cv_fa]; rfl
  have he : (wd cy ad h)[a]? = some (ad a, .inr (ci, (List.range (nF ci)).map (fv ad h a ci))) := by rw [wd_get ha, ce_o hk q3]
  have kk2 := kk cls hP (okS.cons (ok_fa hR.2.2.2 ha) (okS.tl hS))
  rcases g4 with g4 | ⟨host, g4⟩
  · exact va_get (D := D) (ci := ci) (C := C) (T := T) (N := N) hx hb hC.2.2.2.2.1 q7 hC.2.2.2.1 hC.2.2.2.2.2.2.2.2.1 hR.1 a he q1 k g1 (hC.2.2.2.2.1 _ g4) (fun _ h9 => h9) hv hd kk2
  · exact va_getN (D := D) (ci := ci) (C := C) (T := T) (N := N) hx hb hC.2.2.2.2.1 q7 hC.2.2.2.1 hC.2.2.2.2.2.2.2.2.1 hR.1 a he q1 k g1 (hC.2.2.2.2.1 _ g4) (fun _ h9 => h9) hv hd kk2
theorem w_getI {idx ci k a : Nat} {ty : FieldType} {f : Bool} (hd : decode M.2.1 pc = .ok (.getfield idx, 3)) (hf : FL M.1 idx ci k ty f) (h0 : fk ci k = 0) (hk : kd a = ci) (ha : a < hn h) (kk : WP M d L (pc + 3) ls (.int (hI h a k) :: st) h Q) : WP M d L pc ls (.ref a :: st) h Q :=
  w_getA hd hf hk ha (by unfold fa; rw [if_pos h0]; exact kk)
theorem w_getL {idx ci k a : Nat} {ty : FieldType} {f : Bool} (hd : decode M.2.1 pc = .ok (.getfield idx, 3)) (hf : FL M.1 idx ci k ty f) (h0 : fk ci k = 1) (hk : kd a = ci) (ha : a < hn h) (kk : WP M d L (pc + 3) ls (.long (hL h a k) :: st) h Q) : WP M d L pc ls (.ref a :: st) h Q :=
  w_getA hd hf hk ha (by unfold fa; rw [if_neg (by rw [h0]; decide), if_pos h0]; exact kk)
theorem w_getR {idx ci k a : Nat} {ty : FieldType} {f : Bool} {b : Nat} (hd : decode M.2.1 pc = .ok (.getfield idx, 3)) (hf : FL M.1 idx ci k ty f) (h0 : fk ci k = 2) (hk : kd a = ci) (ha : a < hn h) (hb : hR h a k = some b) (kk : WP M d L (pc + 3) ls (.ref b :: st) h Q) : WP M d L pc ls (.ref a :: st) h Q :=
  w_getA hd hf hk ha (by unfold fa; rw [if_neg (by rw [h0]; decide), if_neg (by rw [h0]; decide), hb]; exact kk)
theorem w_getQ {idx ci k a : Nat} {ty : FieldType} {f : Bool} (hd : decode M.2.1 pc = .ok (.getfield idx, 3)) (hf : FL M.1 idx ci k ty f) (h0 : fk ci k = 2) (hk : kd a = ci) (ha : a < hn h) (kk : WP M d L (pc + 3) ls (va_rf (hR h a k) :: st) h Q) : WP M d L pc ls (.ref a :: st) h Q :=
  w_getA hd hf hk ha (by unfold fa; rw [if_neg (by rw [h0]; decide), if_neg (by rw [h0]; decide)]; exact kk)
/-- putfield, of any kind: h' has v there -/
theorem w_putA {idx ci k a : Nat} {ty : FieldType} {f : Bool} {v : Value} {h' : PH} (hd : decode M.2.1 pc = .ok (.putfield idx, 3)) (hf : FL M.1 idx ci k ty f) (hfin : f = false ∨ (M.2.2.2.2.name = "<init>" ∧ ∃ C T N, vwCl[ci]? = some (C, T, N) ∧ (T k).1 = M.1 ∧ Jvm.Cond.fieldLink M.1 idx (T k).1 (T k).2.1 (T k).2.2.1 ∈ Tg)) (hk : kd a = ci) (ha : a < hn h)
    (hty : ∀ ad : Nat → Nat, narrow ty (cv ad v) = cv ad v ∧ fits ty (cv ad v) = true) (hnn : hn h' = hn h) (hcc : hc h' = hc h) (hss : hs h' = hs h)
    (hself : ∀ ad, fv ad h' a ci k = cv ad v) (hoth : ∀ ad j, j ≠ k → fv ad h' a ci j = fv ad h a ci j) (ho : ∀ cy ad b, b ≠ a → ce cy ad h' b = ce cy ad h b) (hok : okh h → okv (hn h) v → okh h')
    (kk : WP M d L (pc + 3) ls st h' Q) : WP M d L pc ls (v :: .ref a :: st) h Q := by
  obtain ⟨C, T, N, ⟨q1, q2, q3, ⟨ty0, q4, q5⟩, q6, q7⟩, g1, g2, g3, g4⟩ := hf
  refine WP.mp (fun _ _ => Rt.put hnn hcc hss (fun p l e R s m args below meth c H locs cells slots Q ad cls cy D A hx hb hC hR hS kk => ?_)) kk
  have he : (wd cy ad h)[a]? = some (ad a, .inr (ci, (List.range (nF ci)).map (fv ad h a ci))) := by rw [wd_get ha, ce_o hk q3]
  have hl : k < ((List.range (nF ci)).map (fv ad h a ci)).length := by simp; rw [q2]; exact g1
  have hset : (wd cy ad h).set a (ad a, .inr (ci, ((List.range (nF ci)).map (fv ad h a ci)).set k (cv ad v))) = wd cy ad h' := by
    rw [rset (nF ci) k (fv ad h a ci) (fv ad h' a ci) (cv ad v) (hself ad) (hoth ad), ← ce_o (cy := cy) (ad := ad) (h := h') hk q3]
    exact wd_set hnn (ho cy ad)
  have kk2 : ∀ (H1 : Heap) (locs1 : List Loc), va_P D vwCl ((wd cy ad h).set a (ad a, .inr (ci, ((List.range (nF ci)).map (fv ad h a ci)).set k (cv ad v)))) H1 → va_D A ((wd cy ad h).set a (ad a, .inr (ci, ((List.range (nF ci)).map (fv ad h a ci)).set k (cv ad v)))) → va_S A s.heap H1 locs1 → W p l e R s m args below meth c H1 locs1 cells slots Q (F0 m (pc + 3) cls (st.map (cv ad))) := by
    intro H1 locs1 b1 b2 b3
    rw [hset] at b1 b2
    exact kk H1 locs1 ⟨b1, b2, b3, hok hR.2.2.2 (okS.hd hS)⟩ (okS.tl (okS.tl hS))
  have hnr := hty ad
  rcases hfin with hfin | ⟨hfin, C', T', N', e1, e2, g5⟩
  · rcases g4 with g4 | ⟨host, g4⟩
    · exact va_put (D := D) (ci := ci) (C := C) (T := T) (N := N) hx hb hC.2.2.2.2.1 q7 ty0 q4 q6 hC.2.2.2.1 hC.2.2.2.2.2.2.2.2.1 hR.1 hR.2.1 hR.2.2.1 a he q1 k g1 (hC.2.2.2.2.1 _ g4) (fun _ h9 => h9) (g3.trans hfin) g2 hnr.1 hnr.2 hl hd kk2
    · exact va_putN (D := D) (ci := ci) (C := C) (T := T) (N := N) hx hb hC.2.2.2.2.1 q7 ty0 q4 q6 hC.2.2.2.1 hC.2.2.2.2.2.2.2.2.1 hR.1 hR.2.1 hR.2.2.1 a he q1 k g1 (hC.2.2.2.2.1 _ g4) (fun _ h9 => h9) (g3.trans hfin) g2 hnr.1 hnr.2 hl hd kk2
  · have e3 := Option.some.inj (e1.symm.trans q1)
    cases e3
    cases f with
    | false =>
      rcases g4 with g4 | ⟨host, g4⟩
      · exact va_put (D := D) (ci := ci) (C := C) (T := T) (N := N) hx hb hC.2.2.2.2.1 q7 ty0 q4 q6 hC.2.2.2.1 hC.2.2.2.2.2.2.2.2.1 hR.1 hR.2.1 hR.2.2.1 a he q1 k g1 (hC.2.2.2.2.1 _ g4) (fun _ h9 => h9) g3 g2 hnr.1 hnr.2 hl hd kk2
      · exact va_putN (D := D) (ci := ci) (C := C) (T := T) (N := N) hx hb hC.2.2.2.2.1 q7 ty0 q4 q6 hC.2.2.2.1 hC.2.2.2.2.2.2.2.2.1 hR.1 hR.2.1 hR.2.2.1 a he q1 k g1 (hC.2.2.2.2.1 _ g4) (fun _ h9 => h9) g3 g2 hnr.1 hnr.2 hl hd kk2
    | true =>
      exact va_putF (D := D) (ci := ci) (C := C) (T := T) (N := N) hx hb hC.2.2.2.2.1 q7 ty0 q4 q6 hC.2.2.2.1 hC.2.2.2.2.2.2.2.2.1 hR.1 hR.2.1 hR.2.2.1 a he q1 k g1 (hC.2.2.2.2.1 _ g5) (fun _ h9 => h9) g3 (hC.2.2.2.2.2.2.2.1.trans hfin) e2 g2 hnr.1 hnr.2 hl hd kk2
theorem w_putI {idx ci k a : Nat} {ty : FieldType} {v : Int32} (hd : decode M.2.1 pc = .ok (.putfield idx, 3)) (hf : FL M.1 idx ci k ty false) (h0 : fk ci k = 0) (hk : kd a = ci) (ha : a < hn h) (hty : narrow ty (.int v) = .int v ∧ fits ty (.int v) = true) (kk : WP M d L (pc + 3) ls st (sI h a k v) Q) : WP M d L pc ls (.int v :: .ref a :: st) h Q :=
  w_putA (h' := sI h a k v) hd hf (Or.inl rfl) hk ha (fun _ => hty) rfl rfl rfl
    (fun ad => by unfold fv; rw [if_pos h0]; show Value.int (up2 (hI h) a k v a k) = _; rw [up2_s]; simp [cv])
    (fun ad j hj => by unfold fv; show (if fk ci j = 0 then Value.int (up2 (hI h) a k v a j) else if fk ci j = 1 then Value.long (hL h a j) else va_rf ((hR h a j).map ad)) = _; rw [up2_s]; simp only [if_neg hj])
    (fun _ _ _ e => ce_sI e) (fun o _ => okh_sI o) kk
theorem w_putL {idx ci k a : Nat} {v : Int64} (hd : decode M.2.1 pc = .ok (.putfield idx, 3)) (hf : FL M.1 idx ci k .long false) (h0 : fk ci k = 1) (hk : kd a = ci) (ha : a < hn h) (kk : WP M d L (pc + 3) ls st (sL h a k v) Q) : WP M d L pc ls (.long v :: .ref a :: st) h Q :=
  w_putA (h' := sL h a k v) hd hf (Or.inl rfl) hk ha (fun _ => ⟨rfl, rfl⟩) rfl rfl rfl
    (fun ad => by unfold fv; rw [if_neg (by rw [h0]; decide), if_pos h0]; show Value.long (up2 (hL h) a k v a k) = _; rw [up2_s]; simp [cv])
    (fun ad j hj => by unfold fv; show (if fk ci j = 0 then Value.int (hI h a j) else if fk ci j = 1 then Value.long (up2 (hL h) a k v a j) else va_rf ((hR h a j).map ad)) = _; rw [up2_s]; simp only [if_neg hj])
    (fun _ _ _ e => ce_sL e) (fun o _ => okh_sL o) kk
def isRefTy (ty : FieldType) : Bool := match ty with
  | .object _ => true
  | .array _ => true
  | _ => false
theorem narrow_rf {ty : FieldType} (h : isRefTy ty = true) (r : Option Nat) : narrow ty (va_rf r) = va_rf r ∧ fits ty (va_rf r) = true := by
  cases ty with
  | object C => cases r <;> exact ⟨rfl, rfl⟩
  | array t => cases r <;> exact ⟨rfl, rfl⟩
  | _ => cases h
theorem w_putR {idx ci k a : Nat} {ty : FieldType} {f : Bool} {v : Option Nat} (hd : decode M.2.1 pc = .ok (.putfield idx, 3)) (hf : FL M.1 idx ci k ty f) (hfin : f = false ∨ (M.2.2.2.2.name = "<init>" ∧ ∃ C T N, vwCl[ci]? = some (C, T, N) ∧ (T k).1 = M.1 ∧ Jvm.Cond.fieldLink M.1 idx (T k).1 (T k).2.1 (T k).2.2.1 ∈ Tg)) (h0 : fk ci k = 2) (hk : kd a = ci) (ha : a < hn h) (hty : isRefTy ty = true) (kk : WP M d L (pc + 3) ls st (sR h a k v) Q) : WP M d L pc ls (va_rf v :: .ref a :: st) h Q :=
  w_putA (h' := sR h a k v) hd hf hfin hk ha (fun ad => by rw [cv_rf]; exact narrow_rf hty _) rfl rfl rfl
    (fun ad => by unfold fv; rw [if_neg (by rw [h0]; decide), if_neg (by rw [h0]; decide)]; show va_rf ((up2 (hR h) a k v a k).map ad) = _; rw [up2_s, cv_rf]; simp)
    (fun ad j hj => by unfold fv; show (if fk ci j = 0 then Value.int (hI h a j) else if fk ci j = 1 then Value.long (hL h a j) else va_rf ((up2 (hR h) a k v a j).map ad)) = _; rw [up2_s]; simp only [if_neg hj])
    (fun _ _ _ e => ce_sR e) (fun o ov => okh_sR o (fun b e => by subst e; exact ov b rfl)) kk
theorem w_iaload {a : Nat} {i : Int32} (hd : decode M.2.1 pc = .ok (.iaload, 1)) (hk : kd a = 12) (ha : a < hn h) (hin : vp_in i (ln a)) (kk : WP M d L (pc + 1) ls (.int (hI h a i.toNatClampNeg) :: st) h Q) : WP M d L pc ls (.int i :: .ref a :: st) h Q :=
  WP.mp (fun _ _ => Rt.pure (fun p l e R s m args below meth c H locs cells slots Q ad cls cy D A hx hb hC hR hP hS kk => va_iald (D := D) (cl := vwCl) (ws := wd cy ad h) hx hb hC.2.2.2.2.2.2.2.2.1 hR.1 a 1 (cA := cy 1) (by rw [wd_get ha, ce_i hk]) rfl hin hd (kk cls hP (okS.i (okS.tl (okS.tl hS)))))) kk
theorem w_baload {a : Nat} {i : Int32} (hd : decode M.2.1 pc = .ok (.baload, 1)) (hk : kd a = 11) (ha : a < hn h) (hin : vp_in i (ln a)) (kk : WP M d L (pc + 1) ls (.int (hI h a i.toNatClampNeg) :: st) h Q) : WP M d L pc ls (.int i :: .ref a :: st) h Q :=
  WP.mp (fun _ _ => Rt.pure (fun p l e R s m args below meth c H locs cells slots Q ad cls cy D A hx hb hC hR hP hS kk => va_bald (D := D) (cl := vwCl) (ws := wd cy ad h) hx hb hC.2.2.2.2.2.2.2.2.1 hR.1 a 0 (cA := cy 0) (by rw [wd_get ha, ce_b hk]) rfl hin hd (kk cls hP (okS.i (okS.tl (okS.tl hS)))))) kk
theorem w_laload {a : Nat} {i : Int32} (hd : decode M.2.1 pc = .ok (.laload, 1)) (hk : kd a = 13) (ha : a < hn h) (hin : vp_in i (ln a)) (kk : WP M d L (pc + 1) ls (.long (hL h a i.toNatClampNeg) :: st) h Q) : WP M d L pc ls (.int i :: .ref a :: st) h Q :=
  WP.mp (fun _ _ => Rt.pure (fun p l e R s m args below meth c H locs cells slots Q ad cls cy D A hx hb hC hR hP hS kk => va_lald (D := D) (cl := vwCl) (ws := wd cy ad h) hx hb hC.2.2.2.2.2.2.2.2.1 hR.1 a 2 (cA := cy 2) (by rw [wd_get ha, ce_l hk]) rfl hin hd (kk cls hP (okS.l (okS.tl (okS.tl hS)))))) kk
theorem w_aaload {a : Nat} {i : Int32} (hd : decode M.2.1 pc = .ok (.aaload, 1)) (hk : kd a = 14) (ha : a < hn h) (hin : vp_in i (ln a)) (kk : WP M d L (pc + 1) ls (va_rf (hR h a i.toNatClampNeg) :: st) h Q) : WP M d L pc ls (.int i :: .ref a :: st) h Q :=
  WP.mp (fun _ _ => Rt.pure (fun p l e R s m args below meth c H locs cells slots Q ad cls cy D A hx hb hC hRp hP hS kk => by
    have hlt : i.toNatClampNeg < ln a := Nat.not_le.mp fun q => hin (Or.inr q)
    have hce : va_at D vwCl (ad a, ce cy ad h a) H := hRp.1 a _ (wd_get ha)
    rw [ce_r hk] at hce
    have hok : okv (hn h) (va_rf (hR h a i.toNatClampNeg)) := by
      cases e3 : hR h a i.toNatClampNeg with
      | none => exact okv_null _
      | some b => intro x hx; cases hx; exact hRp.2.2.2 a _ b ha e3
    have k2 := kk cls hP (okS.cons hok (okS.tl (okS.tl hS)))
    rw [List.map_cons, cv_rf] at k2
    exact W.aald (v := va_rf ((hR h a i.toNatClampNeg).map ad)) (ty := .array .int) hx hb hce ((hC.2.2.2.2.2.2.2.2.1.2 3 _ rfl).1 (ln a) (fun j => va_rf ((hR h a j).map ad))) rfl (fun q => by cases q) (by show ¬ (i < 0 ∨ (arrV _ _ _).slots.size ≤ _); rw [arrV_size]; exact hin) (by show (arrV _ _ _).slots[_]? = _; rw [arrV_read _ _ hlt]) rfl rfl hd k2)) kk
theorem w_alen {a : Nat} {v : Int32} (hd : decode M.2.1 pc = .ok (.arraylength, 1)) (hk : kd a = 11 ∨ kd a = 12) (ha : a < hn h) (hv : Int32.ofNat (ln a) = v) (kk : WP M d L (pc + 1) ls (.int v :: st) h Q) : WP M d L pc ls (.ref a :: st) h Q :=
  WP.mp (fun _ _ => Rt.pure (fun p l e R s m args below meth c H locs cells slots Q ad cls cy D A hx hb hC hR hP hS kk => by
    rcases hk with hk | hk
    · exact va_alen (D := D) (cl := vwCl) (ws := wd cy ad h) hx hb hC.2.2.2.2.2.2.2.2.1 hR.1 a 0 (cA := cy 0) (by rw [wd_get ha, ce_b hk]) rfl hv hd (kk cls hP (okS.i (okS.tl hS)))
    · exact va_alen (D := D) (cl := vwCl) (ws := wd cy ad h) hx hb hC.2.2.2.2.2.2.2.2.1 hR.1 a 1 (cA := cy 1) (by rw [wd_get ha, ce_i hk]) rfl hv hd (kk cls hP (okS.i (okS.tl hS))))) kk
theorem w_lcmp {x y : Int64} (hd : decode M.2.1 pc = .ok (.lcmp, 1)) (k : WP M d L (pc + 1) ls (.int (lg_cmp x y) :: st) h Q) : WP M d L pc ls (.long y :: .long x :: st) h Q :=
  WP.mp (fun _ _ => Rt.pure (fun p l e R s m args below meth c H locs cells slots Q ad cls cy D A hx hb hC hR hP hS kk => W.lcmp hx hb hd (kk cls hP (okS.i (okS.tl (okS.tl hS)))))) k
theorem w_iastore {a : Nat} {i x : Int32} (hd : decode M.2.1 pc = .ok (.iastore, 1)) (hk : kd a = 12) (ha : a < hn h) (hin : vp_in i (ln a)) (kk : WP M d L (pc + 1) ls st (sI h a i.toNatClampNeg x) Q) : WP M d L pc ls (.int x :: .int i :: .ref a :: st) h Q :=
  WP.mp (fun _ _ => Rt.put (h' := sI h a i.toNatClampNeg x) rfl rfl rfl (fun p l e R s m args below meth c H locs cells slots Q ad cls cy D A hx hb hC hR hS kk => by
    have hset : (wd cy ad h).set a (ad a, .inl (cy 1, ln a, .inl (upd (hI h a) i.toNatClampNeg x))) = wd cy ad (sI h a i.toNatClampNeg x) := by
      rw [show upd (hI h a) i.toNatClampNeg x = hI (sI h a i.toNatClampNeg x) a from (up2_s _ _ _ _).symm, ← ce_i (cy := cy) (ad := ad) (h := sI h a i.toNatClampNeg x) hk]
      exact wd_set rfl (fun b e => ce_sI e)
    refine va_iast (D := D) (cl := vwCl) (ws := wd cy ad h) hx hb hC.2.2.2.2.2.2.2.2.1 hR.1 hR.2.1 hR.2.2.1 a 1 (cA := cy 1) (by rw [wd_get ha, ce_i hk]) rfl hin hd (fun H1 locs1 b1 b2 b3 => ?_)
    rw [hset] at b1 b2
    exact kk H1 locs1 ⟨b1, b2, b3, okh_sI hR.2.2.2⟩ (okS.tl (okS.tl (okS.tl hS))))) kk
theorem w_bastore {a : Nat} {i x : Int32} (hd : decode M.2.1 pc = .ok (.bastore, 1)) (hk : kd a = 11) (ha : a < hn h) (hin : vp_in i (ln a)) (kk : WP M d L (pc + 1) ls st (sI h a i.toNatClampNeg (vp_nar .byte x)) Q) : WP M d L pc ls (.int x :: .int i :: .ref a :: st) h Q :=
  WP.mp (fun _ _ => Rt.put (h' := sI h a i.toNatClampNeg (vp_nar .byte x)) rfl rfl rfl (fun p l e R s m args below meth c H locs cells slots Q ad cls cy D A hx hb hC hR hS kk => by
    have hset : (wd cy ad h).set a (ad a, .inl (cy 0, ln a, .inl (upd (hI h a) i.toNatClampNeg (vp_nar .byte x)))) = wd cy ad (sI h a i.toNatClampNeg (vp_nar .byte x)) := by
      rw [show upd (hI h a) i.toNatClampNeg (vp_nar .byte x) = hI (sI h a i.toNatClampNeg (vp_nar .byte x)) a from (up2_s _ _ _ _).symm, ← ce_b (cy := cy) (ad := ad) (h := sI h a i.toNatClampNeg (vp_nar .byte x)) hk]
      exact wd_set rfl (fun b e => ce_sI e)
    refine va_bast (D := D) (cl := vwCl) (ws := wd cy ad h) hx hb hC.2.2.2.2.2.2.2.2.1 hR.1 hR.2.1 hR.2.2.1 a 0 (cA := cy 0) (by rw [wd_get ha, ce_b hk]) rfl hin hd (fun H1 locs1 b1 b2 b3 => ?_)
    rw [hset] at b1 b2
    exact kk H1 locs1 ⟨b1, b2, b3, okh_sI hR.2.2.2⟩ (okS.tl (okS.tl (okS.tl hS))))) kk
theorem w_lastore {a : Nat} {i : Int32} {x : Int64} (hd : decode M.2.1 pc = .ok (.lastore, 1)) (hk : kd a = 13) (ha : a < hn h) (hin : vp_in i (ln a)) (kk : WP M d L (pc + 1) ls st (sL h a i.toNatClampNeg x) Q) : WP M d L pc ls (.long x :: .int i :: .ref a :: st) h Q :=
  WP.mp (fun _ _ => Rt.put (h' := sL h a i.toNatClampNeg x) rfl rfl rfl (fun p l e R s m args below meth c H locs cells slots Q ad cls cy D A hx hb hC hR hS kk => by
    have hset : (wd cy ad h).set a (ad a, .inl (cy 2, ln a, .inr (.inl (vp_updL (hL h a) i.toNatClampNeg x)))) = wd cy ad (sL h a i.toNatClampNeg x) := by
      rw [show vp_updL (hL h a) i.toNatClampNeg x = hL (sL h a i.toNatClampNeg x) a from (up2_s _ _ _ _).symm, ← ce_l (cy := cy) (ad := ad) (h := sL h a i.toNatClampNeg x) hk]
      exact wd_set rfl (fun b e => ce_sL e)
    refine va_last (D := D) (cl := vwCl) (ws := wd cy ad h) hx hb hC.2.2.2.2.2.2.2.2.1 hR.1 hR.2.1 hR.2.2.1 a 2 (cA := cy 2) (by rw [wd_get ha, ce_l hk]) rfl hin hd (fun H1 locs1 b1 b2 b3 => ?_)
    rw [hset] at b1 b2
    exact kk H1 locs1 ⟨b1, b2, b3, okh_sL hR.2.2.2⟩ (okS.tl (okS.tl (okS.tl hS))))) kk
end HR
end
section
/-! ROWS OF THE PURE MACHINE: new cells -/
theorem okh_sN {h : PH} {z : Nat} (ho : okh h) : okh (sN h z) := by
  intro x j b hx e
  have e : (if x = hn h then none else hR h x j) = some b := e
  by_cases e1 : x = hn h
  · rw [if_pos e1] at e; cases e
  · rw [if_neg e1] at e
    have hx : x < hn h + 1 := hx
    exact (ho x j b (by omega) e).mono (Nat.le_succ _)
theorem up_ok {n : Nat} (hlt : n < 1000000) (ad : Nat → Nat) (q : Nat) : ∀ a, okr n a → va_up ad n q a = ad a := fun a ha => va_up_ne ad q (fun e => by subst e; rcases ha with h | h <;> omega)
theorem ce_sN {cy : Nat → ClassId} {ad : Nat → Nat} {h : PH} {z b : Nat} (e : b ≠ hn h) : ce cy ad (sN h z) b = ce cy ad h b := by
  have h1 : hI (sN h z) b = hI h b := by funext j; show (if b = hn h then 0 else hI h b j) = _; rw [if_neg e]
  have h2 : hL (sN h z) b = hL h b := by funext j; show (if b = hn h then 0 else hL h b j) = _; rw [if_neg e]
  have h3 : hR (sN h z) b = hR h b := by funext j; show (if b = hn h then none else hR h b j) = _; rw [if_neg e]
  have h4 : fv ad (sN h z) b (kd b) = fv ad h b (kd b) := by funext j; unfold fv; rw [h1, h2, h3]
  unfold ce; rw [h1, h2, h3, h4]
theorem wd_new {cy : Nat → ClassId} {ad : Nat → Nat} {h : PH} (ho : okh h) (hlt : hn h < 1000000) (q z : Nat) : wd cy (va_up ad (hn h) q) (sN h z) = wd cy ad h ++ [(q, ce cy (va_up ad (hn h) q) (sN h z) (hn h))] := by
  show (List.range (hn h + 1)).map _ = _
  rw [List.range_succ, List.map_append]
  congr 1
  · apply List.map_congr_left
    intro a ha
    have ha := List.mem_range.mp ha
    rw [ce_sN (Nat.ne_of_lt ha), ce_ext ho (up_ok hlt ad q) ha, up_ok hlt ad q a (Or.inl ha)]
  · show [(va_up ad (hn h) q (hn h), _)] = _
    rw [va_up_self]
theorem Rt.new {M : MR} {d L pc pc' z : Nat} {ls : List (Option Value)} {st st' : List Value} {h : PH} {r : Option Value} {hE : PH} (hlt : hn h < 1000000) (hst : okS (hn h) st → okS (hn h) st')
    (w : ∀ (p : Program) (l : Launch) (e : Env) (R : Room) (s : State) (m : MethodId) (args : Array Value) (below : List Frame) (meth : Method) (c : Code) (H : Heap) (locs : List Loc) (cells slots : Nat) (Q : State → Prop) (ad : Nat → Nat) (cls : Array Slot) (cy : Nat → ClassId) (D : va_G) (A : Nat → Prop),
      p.tables.exec = Jvm.exec → c.code = M.2.1 → Cx M cy D ad A p s m args meth c → Rp cy D ad h A s.heap H locs → cells + 1 ≤ R.cells → slots + z ≤ R.slots →
      (∀ q H', va_P D vwCl (wd cy ad h ++ [(q, ce cy (va_up ad (hn h) q) (sN h z) (hn h))]) H' → va_D A (wd cy ad h ++ [(q, ce cy (va_up ad (hn h) q) (sN h z) (hn h))]) → va_S A s.heap H' locs → W p l e R s m args below meth c H' locs (cells + 1) (slots + z) Q (F0 m pc' cls (.ref q :: st'.map (cv ad)))) →
      W p l e R s m args below meth c H locs cells slots Q (F0 m pc cls (st.map (cv ad))))
    (k : Rt M d L pc' ls (.ref (hn h) :: st') (sN h z) r hE) : Rt M d L pc ls st h r hE := by
  obtain ⟨k1, k2, k3, k4⟩ := k
  have k1 : hn h + 1 ≤ hn hE := k1
  have k2 : hc h + 1 ≤ hc hE := k2
  have k3 : hs h + z ≤ hs hE := k3
  refine ⟨by omega, by omega, by omega, ?_⟩
  intro p l e R s m args below meth c cy D A ad H locs cls c0 s0 Qf hC hd hL h1 h2 h3 h4 hRp hP hS hEnd
  refine w p l e R s m args below meth c H locs _ _ Qf ad cls cy D A hC.1 hC.2.1 hC hRp (by omega) (by omega) (fun q H' b1 b2 b3 => ?_)
  have he := up_ok hlt ad q
  have hst' := hst hS
  have hR' : Rp cy D (va_up ad (hn h) q) (sN h z) A s.heap H' locs := by
    refine ⟨?_, ?_, b3, okh_sN hRp.2.2.2⟩
    · rw [wd_new hRp.2.2.2 hlt]; exact b1
    · rw [wd_new hRp.2.2.2 hlt]; exact b2
  have hP' : PL (hn (sN h z)) (va_up ad (hn h) q) M.2.2.1 ls cls := ⟨hP.1, hP.2.1, fun i v hv => ⟨(hP.2.2 i v hv).1, (hP.2.2 i v hv).2.1.mono (Nat.le_succ _), by rw [cv_ext he (hP.2.2 i v hv).2.1]; exact (hP.2.2 i v hv).2.2⟩⟩
  have hS' : okS (hn (sN h z)) (.ref (hn h) :: st') := okS.cons (fun a e => by cases e; exact Or.inl (Nat.lt_succ_self _)) (fun v hv => (hst' v hv).mono (Nat.le_succ _))
  have := k4 p l e R s m args below meth c cy D A (va_up ad (hn h) q) H' locs cls c0 s0 Qf (hC.ext he) hd hL h1 h2 (Nat.le_trans h3 (Nat.le_succ _)) (Nat.le_trans h4 (Nat.le_add_right _ _)) hR' hP' hS'
    (fun ad' H2 locs2 cls2 pcE g1 g2 g3 g4 g5 => hEnd ad' H2 locs2 cls2 pcE (fun a ha => (g1 a (ha.mono (Nat.le_succ _))).trans (he a ha)) g2 g3 g4 g5)
  have e1 : hc (sN h z) - c0 = hc h - c0 + 1 := by show hc h + 1 - c0 = _; omega
  have e2 : hs (sN h z) - s0 = hs h - s0 + z := by show hs h + z - s0 = _; omega
  have e3 : (Value.ref (hn h) :: st').map (cv (va_up ad (hn h) q)) = .ref q :: st'.map (cv ad) := by
    rw [List.map_cons]
    congr 1
    · show Value.ref (va_up ad (hn h) q (hn h)) = _; rw [va_up_self]
    · exact List.map_congr_left (fun v hv => cv_ext he (hst' v hv))
  rw [e1, e2, e3] at this
  exact this
section NR
variable {M : MR} {d L pc : Nat} {ls : List (Option Value)} {st : List Value} {h : PH} {Q : Option Value → PH → Prop}
theorem w_new {idx ci : Nat} {C : String} {T : u_T} {N : Nat} (hd : decode M.2.1 pc = .ok (.new idx, 3)) (hcl : CL ci C T N) (hw : Jvm.Cond.classLink M.1 idx C ∈ Tg) (hw2 : Jvm.Cond.instantiable C N ∈ Tg) (hw3 : Jvm.Cond.initialized C ∈ Tg) (hk : kd (hn h) = ci) (hlt : hn h < 1000000) (kk : WP M d L (pc + 3) ls (.ref (hn h) :: st) (sN h N) Q) : WP M d L pc ls st h Q := by
  obtain ⟨q1, q2, q3, ⟨ty0, q4, q5⟩, q6, q7⟩ := hcl
  refine WP.mp (fun _ _ => Rt.new (z := N) hlt (fun h => h) (fun p l e R s m args below meth c H locs cells slots Q ad cls cy D A hx hb hC hRp c1 c2 kk => ?_)) kk
  refine va_new (D := D) (cl := vwCl) (ws := wd cy ad h) (ci := ci) (C := C) (T := T) (N := N) (fs := (List.range (nF ci)).map (fv (va_up ad (hn h) 0) (sN h N) (hn h) ci)) hx hb hC.2.2.2.2.1 q7 ty0 q4 hC.2.2.2.1 (hC.2.2.2.2.1 _ hw) (hC.2.2.2.2.1 _ hw2) (hC.2.2.2.2.1 _ hw3) hC.2.2.2.2.2.2.2.2.1 hRp.1 hRp.2.1 hRp.2.2.1 hC.2.2.2.2.2.2.2.2.2.1 q1 (fun j hj => ?_) c1 c2 hd (fun q H' b1 b2 b3 => ?_)
  · rw [q5 j hj]
    unfold vp_V
    rw [List.getD_eq_getElem?_getD, List.getElem?_map, List.getElem?_range (by rw [q2]; exact hj)]
    show _ = fv (va_up ad (hn h) 0) (sN h N) (hn h) ci j
    unfold fv
    have z1 : hI (sN h N) (hn h) j = 0 := if_pos rfl
    have z2 : hL (sN h N) (hn h) j = 0 := if_pos rfl
    have z3 : hR (sN h N) (hn h) j = none := if_pos rfl
    rw [z1, z2, z3]; rfl
  · have e0 : (List.range (nF ci)).map (fv (va_up ad (hn h) 0) (sN h N) (hn h) ci) = (List.range (nF ci)).map (fv (va_up ad (hn h) q) (sN h N) (hn h) ci) := by
      apply List.map_congr_left
      intro j hj
      unfold fv
      have z3 : hR (sN h N) (hn h) j = none := if_pos rfl
      rw [z3]; rfl
    rw [e0, ← ce_o (cy := cy) (ad := va_up ad (hn h) q) (h := sN h N) hk q3] at b1 b2
    exact kk q H' b1 b2 b3
theorem w_newa {atype : ArrayType} {n : Int32} {N t : Nat} {ty : FieldType} {a0 : PH → Nat → vp_A} (hd : decode M.2.1 pc = .ok (.newarray atype, 2)) (hty : newarray.typeOf atype = ty) (hw : Jvm.Cond.arrayClass ty ∈ Tg) (ht : ∀ cy, (ctys cy)[t]? = some (cy t, ty)) (hra : ∀ (U : State) (cA : ClassId), va_RA U cA ty → U.vm.findClass ("[" ++ ty.toString) = some cA)
    (hce : ∀ cy ad (h : PH), ce cy ad h (hn h) = ce cy ad h (hn h)) (hcell : ∀ (cy : Nat → ClassId) (ad : Nat → Nat), ce cy ad (sN h N) (hn h) = .inl (cy t, a0 h N)) (ha : ∀ cA : ClassId, vp_cell cA (a0 h N) = arrV cA N (fun _ => defaultValue ty)) (hn0 : ¬ n < 0) (hN : n.toNatClampNeg = N) (hby : N * componentBytes ty ≤ 536870912) (hlt : hn h < 1000000) (kk : WP M d L (pc + 2) ls (.ref (hn h) :: st) (sN h N) Q) : WP M d L pc ls (.int n :: st) h Q := by
  refine WP.mp (fun _ _ => Rt.new (z := N) hlt (fun h => okS.tl h) (fun p l e R s m args below meth c H locs cells slots Q ad cls cy D A hx hb hC hRp c1 c2 kk => ?_)) kk
  refine va_newa (D := D) (cl := vwCl) (ws := wd cy ad h) (a0 := a0 h N) hx hb (by rw [hty]; exact hC.2.2.2.2.1 _ hw) hty hC.2.2.2.2.2.2.2.2.1 hRp.1 hRp.2.1 hRp.2.2.1 hC.2.2.2.2.2.2.2.2.2.1 ha hn0 hN hby c1 c2 hd (fun q cA H' k1 b1 b2 b3 => ?_)
  have e1 : s.vm.findClass ("[" ++ ty.toString) = some cA := hra s cA (k1.2 4 (cA, ty) (by rw [List.getElem?_append_right (by simp [ctys])]; simp [ctys])).2
  have e2 : s.vm.findClass ("[" ++ ty.toString) = some (cy t) := hra s (cy t) (hC.2.2.2.2.2.2.2.2.1.2 t _ (ht cy)).2
  have e3 : cA = cy t := Option.some.inj (e1.symm.trans e2)
  subst e3
  rw [← hcell cy (va_up ad (hn h) q)] at b1 b2
  exact kk q H' b1 b2 b3
theorem fz {α : Type} {β : Nat → α} {z : α} (h : ∀ j, β j = z) : β = fun _ => z := funext h
theorem w_newI {n : Int32} {N : Nat} (hd : decode M.2.1 pc = .ok (.newarray .int, 2)) (hw : Jvm.Cond.arrayClass .int ∈ Tg) (hk : kd (hn h) = 12) (hl : ln (hn h) = N) (hn0 : ¬ n < 0) (hN : n.toNatClampNeg = N) (hby : N * 4 ≤ 536870912) (hlt : hn h < 1000000) (kk : WP M d L (pc + 2) ls (.ref (hn h) :: st) (sN h N) Q) : WP M d L pc ls (.int n :: st) h Q :=
  w_newa (t := 1) (ty := .int) (a0 := fun _ N => (N, .inl (fun _ => 0))) hd rfl hw (fun _ => rfl) (fun _ _ h => h) (fun _ _ _ => rfl) (fun cy ad => by rw [ce_i hk, hl, show hI (sN h N) (hn h) = fun _ => 0 from fz (fun j => if_pos rfl)]) (fun _ => rfl) hn0 hN hby hlt kk
theorem w_newB {n : Int32} {N : Nat} (hd : decode M.2.1 pc = .ok (.newarray .byte, 2)) (hw : Jvm.Cond.arrayClass .byte ∈ Tg) (hk : kd (hn h) = 11) (hl : ln (hn h) = N) (hn0 : ¬ n < 0) (hN : n.toNatClampNeg = N) (hby : N * 1 ≤ 536870912) (hlt : hn h < 1000000) (kk : WP M d L (pc + 2) ls (.ref (hn h) :: st) (sN h N) Q) : WP M d L pc ls (.int n :: st) h Q :=
  w_newa (t := 0) (ty := .byte) (a0 := fun _ N => (N, .inl (fun _ => 0))) hd rfl hw (fun _ => rfl) (fun _ _ h => h) (fun _ _ _ => rfl) (fun cy ad => by rw [ce_b hk, hl, show hI (sN h N) (hn h) = fun _ => 0 from fz (fun j => if_pos rfl)]) (fun _ => rfl) hn0 hN hby hlt kk
theorem w_newL {n : Int32} {N : Nat} (hd : decode M.2.1 pc = .ok (.newarray .long, 2)) (hw : Jvm.Cond.arrayClass .long ∈ Tg) (hk : kd (hn h) = 13) (hl : ln (hn h) = N) (hn0 : ¬ n < 0) (hN : n.toNatClampNeg = N) (hby : N * 8 ≤ 536870912) (hlt : hn h < 1000000) (kk : WP M d L (pc + 2) ls (.ref (hn h) :: st) (sN h N) Q) : WP M d L pc ls (.int n :: st) h Q :=
  w_newa (t := 2) (ty := .long) (a0 := fun _ N => (N, .inr (.inl (fun _ => 0)))) hd rfl hw (fun _ => rfl) (fun _ _ h => h) (fun _ _ _ => rfl) (fun cy ad => by rw [ce_l hk, hl, show hL (sN h N) (hn h) = fun _ => 0 from fz (fun j => if_pos rfl)]) (fun _ => rfl) hn0 hN hby hlt kk
theorem w_newR {idx : Nat} {n : Int32} {N : Nat} (hd : decode M.2.1 pc = .ok (.anewarray idx, 3)) (hw : Jvm.Cond.classLink M.1 idx "[I" ∈ Tg) (hw2 : Jvm.Cond.arrayOver (.array .int) ∈ Tg) (hk : kd (hn h) = 14) (hl : ln (hn h) = N) (hn0 : ¬ n < 0) (hN : n.toNatClampNeg = N) (hby : N * 4 ≤ 536870912) (hlt : hn h < 1000000) (kk : WP M d L (pc + 3) ls (.ref (hn h) :: st) (sN h N) Q) : WP M d L pc ls (.int n :: st) h Q := by
  subst hN
  refine WP.mp (fun _ _ => Rt.new (z := n.toNatClampNeg) hlt (fun h => okS.tl h) (fun p l e R s m args below meth c H locs cells slots Q ad cls cy D A hx hb hC hRp c1 c2 kk => ?_)) kk
  refine W.anewA (t := .int) hx hb hC.2.2.2.1 (hC.2.2.2.2.1 _ hw) (hC.2.2.2.2.1 _ hw2) rfl hd rfl hn0 hby c1 c2 fun cA kA comp f1 f2 f3 f4 => ?_
  generalize hH1 : H.push ({ cls := cA, slots := Array.replicate n.toNatClampNeg .null, vm := .none } : Cell) = H1
  have z1 : H1.size = H.size + 1 := by rw [← hH1, Array.size_push]
  have e1 : H1[H.size]? = some (arrV cA n.toNatClampNeg (fun _ => .null)) := by rw [← hH1, Array.getElem?_push_size, ← arrV_new]
  have o1 : ∀ q : Nat, q < H.size → H1[q]? = H[q]? := fun q hq => by rw [← hH1, Array.getElem?_push, if_neg (Nat.ne_of_lt hq)]
  have hk2 : ∀ (k : Nat) (x : Nat × va_E), (wd cy ad h)[k]? = some x → H1[x.1]? = H[x.1]? := fun k x hx => o1 x.1 ((hRp.1 k x hx).lt)
  have e3 : cA = cy 3 := Option.some.inj (f1.symm.trans (hC.2.2.2.2.2.2.2.2.1.2 3 _ rfl).2)
  have ec : ce cy (va_up ad (hn h) H.size) (sN h n.toNatClampNeg) (hn h) = .inl (cA, n.toNatClampNeg, .inr (.inr (.inr (.inr (fun _ => none))))) := by
    rw [ce_r hk, hl, e3]
    congr 7
    funext j
    have z3 : hR (sN h n.toNatClampNeg) (hn h) j = none := if_pos rfl
    rw [z3]; rfl
  have hA := hC.2.2.2.2.2.2.2.2.2.1
  refine kk H.size H1 ((hRp.1.kept hk2).app (fun k x hx => ?_)) (hRp.2.1.push hRp.1 rfl (hA _ hRp.2.2.1.1)) ⟨Nat.le_trans hRp.2.2.1.1 (by omega), fun x h1 h2 => (o1 x (Nat.lt_of_lt_of_le h1 hRp.2.2.1.1)).trans (hRp.2.2.1.2.1 x h1 h2), hRp.2.2.1.2.2⟩
  have hz : k < 1 := (List.getElem?_eq_some_iff.mp hx).1
  rw [show k = 0 by omega] at hx
  cases hx
  rw [ec]
  show H1[H.size]? = some (vp_cell _ _)
  rw [vp_cell_q]
  exact e1
theorem w_aastore {a b : Nat} {i : Int32} (hd : decode M.2.1 pc = .ok (.aastore, 1)) (hw2 : Jvm.Cond.arrayOver (.array .int) ∈ Tg) (hk : kd a = 14) (ha : a < hn h) (hkb : kd b = 12) (hb9 : b < hn h) (hin : vp_in i (ln a)) (kk : WP M d L (pc + 1) ls st (sR h a i.toNatClampNeg (some b)) Q) : WP M d L pc ls (.ref b :: .int i :: .ref a :: st) h Q :=
  WP.mp (fun _ _ => Rt.put (h' := sR h a i.toNatClampNeg (some b)) rfl rfl rfl (fun p l e R s m args below meth c H locs cells slots Q ad cls cy D A hx hb hC hRp hS kk => by
    have hlt : i.toNatClampNeg < ln a := Nat.not_le.mp fun q => hin (Or.inr q)
    have h0 : ¬ i < 0 := fun q => hin (Or.inl q)
    have hca : va_at D vwCl (ad a, ce cy ad h a) H := hRp.1 a _ (wd_get ha)
    have hcb : va_at D vwCl (ad b, ce cy ad h b) H := hRp.1 b _ (wd_get hb9)
    rw [ce_r hk] at hca
    rw [ce_i hkb] at hcb
    have hca : H[ad a]? = some (vp_cell (cy 3) (ln a, .inr (.inr (.inr (.inr (fun j => (hR h a j).map ad)))))) := hca
    have hcb : H[ad b]? = some (vp_cell (cy 1) (ln b, .inl (hI h b))) := hcb
    obtain ⟨comp, cA, kA, g1, g2, g3, g4, g5⟩ := arrayOverA_spec (hC.2.2.2.2.1 _ hw2)
    have e3 : cA = cy 3 := Option.some.inj (g5.symm.trans (hC.2.2.2.2.2.2.2.2.1.2 3 _ rfl).2)
    have e4 : comp = cy 1 := Option.some.inj (g1.symm.trans (hC.2.2.2.2.2.2.2.2.1.2 1 _ rfl).2)
    subst e3; subst e4
    obtain ⟨kI, hkI, -⟩ := Vm.findClass_spec g1
    have hset : (wd cy ad h).set a (ad a, .inl (cy 3, ln a, .inr (.inr (.inr (.inr (va_up (fun j => (hR h a j).map ad) i.toNatClampNeg (some (ad b)))))))) = wd cy ad (sR h a i.toNatClampNeg (some b)) := by
      rw [show va_up (fun j => (hR h a j).map ad) i.toNatClampNeg (some (ad b)) = (fun j => (hR (sR h a i.toNatClampNeg (some b)) a j).map ad) from by
        funext j
        show _ = (up2 (hR h) a i.toNatClampNeg (some b) a j).map ad
        rw [up2_s]
        by_cases e : j = i.toNatClampNeg
        · simp [va_up, e]
        · simp [va_up, e], ← ce_r (cy := cy) (ad := ad) (h := sR h a i.toNatClampNeg (some b)) hk]
      exact wd_set rfl (fun b e => ce_sR e)
    refine W.aast hx hb hca (fun q h => by cases h) (fun h => by cases h) g3 g4 rfl hkI ⟨h0, by show _ < (arrV _ _ _).slots.size; rw [arrV_size]; exact hlt⟩ hcb (fun q h => by cases h) hkI (va_asg _ _) rfl rfl hd fun H1 e z oq => ?_
    have b1 : va_P D vwCl ((wd cy ad h).set a (ad a, .inl (cy 3, ln a, .inr (.inr (.inr (.inr (va_up (fun j => (hR h a j).map ad) i.toNatClampNeg (some (ad b))))))))) H1 := by
      refine hRp.1.set hRp.2.1 (wd_get ha) ?_ oq
      show H1[ad a]? = some (vp_cell _ _)
      rw [e, vp_cell_q, vp_cell_q, arrV_store]
      congr 2
      funext q
      by_cases hq : q = i.toNatClampNeg
      · subst hq; simp [updV, va_up, va_rf]
      · simp [updV, va_up, hq]
    have b2 := hRp.2.1.set (e := .inl (cy 3, ln a, .inr (.inr (.inr (.inr (va_up (fun j => (hR h a j).map ad) i.toNatClampNeg (some (ad b)))))))) (wd_get (cy := cy) (ad := ad) ha)
    rw [hset] at b1 b2
    exact kk H1 _ ⟨b1, b2, hRp.2.2.1.put z oq (hRp.2.1.2 a _ (wd_get ha)), okh_sR hRp.2.2.2 (fun x e => by cases e; exact Or.inl hb9)⟩ (okS.tl (okS.tl (okS.tl hS))))) kk
end NR
end
section
/-! ROWS OF THE PURE MACHINE: calls -/
theorem Tg_good {w : Cond} (h : w ∈ Tg) : (w.onTables && w.keeps) = true ∨ ∃ ty, w = .arrayClass ty := good_of_word (List.mem_filter.mp h).2
def en (nL : Nat) (args : List Value) : List (Option Value) := args.map some ++ List.replicate (nL - args.length) none
theorem lv_args1 {vs : List Value} (hc : ∀ v ∈ vs, v.category = 1) : ∀ (n i : Nat) (v : Value), vs[i]? = some v → (n + i, v) ∈ lv_args n vs := by
  induction vs with
  | nil => intro n i v h; simp at h
  | cons w ws ih =>
    intro n i v h
    have hw : w.category = 1 := hc w List.mem_cons_self
    cases i with
    | zero => simp at h; subst h; exact List.mem_cons_self
    | succ i =>
      simp at h
      have := ih (fun v hv => hc v (List.mem_cons_of_mem _ hv)) (n + 1) i v h
      refine List.mem_cons_of_mem _ ?_
      rw [if_neg (by rw [hw]; decide)]
      rw [show n + (i + 1) = n + 1 + i by omega]
      exact this
theorem lg_len {vs : List Value} (hc : ∀ v ∈ vs, v.category = 1) : (lg_sl vs).length = vs.length := by
  induction vs with
  | nil => rfl
  | cons w ws ih =>
    have hw : w.category = 1 := hc w List.mem_cons_self
    have := ih (fun v hv => hc v (List.mem_cons_of_mem _ hv))
    simp only [lg_sl, List.flatMap_cons] at this ⊢
    rw [if_neg (by rw [hw]; decide), List.length_append, this]
    simp; omega
theorem PL_entry {n nL : Nat} {ad : Nat → Nat} {args : List Value} (hc : ∀ v ∈ args, v.category = 1) (ho : okS n args) (hl : args.length ≤ nL) :
    PL n ad nL (en nL args) ((lg_sl (args.map (cv ad)) ++ List.replicate (nL - (lg_sl (args.map (cv ad))).length) Slot.unset).toArray) := by
  have hc' : ∀ v ∈ args.map (cv ad), v.category = 1 := by
    intro v hv
    obtain ⟨w, hw, rfl⟩ := List.mem_map.mp hv
    rw [cv_cat]; exact hc w hw
  have he := lv_entry (args.map (cv ad)) (n := nL) (by rw [lg_len hc', List.length_map]; exact hl)
  refine ⟨he.1, he.2.1, fun i v hv => ?_⟩
  unfold en at hv
  by_cases hi : i < args.length
  · rw [List.getElem?_append_left (by simp; exact hi), List.getElem?_map] at hv
    have ha : args[i]? = some v := by
      cases e : args[i]? with
      | none => rw [e] at hv; cases hv
      | some w => rw [e] at hv; cases hv; rfl
    have hm := List.mem_of_getElem? ha
    refine ⟨hc v hm, ho v hm, ?_⟩
    have := he.2.2 (0 + i, cv ad v) (lv_args1 hc' 0 i (cv ad v) (by rw [List.getElem?_map, ha]; rfl))
    simpa using this
  · rw [List.getElem?_append_right (by simp; omega)] at hv
    have := List.mem_of_getElem? hv
    rw [List.mem_replicate] at this
    cases this.2
/-- what a method's end may be, for a caller -/
def rok (M : MR) (r : Option Value) : Prop := (r = none ∧ M.2.2.2.1 = none) ∨ (∃ v ty, r = some (.int v) ∧ M.2.2.2.1 = some ty) ∨ ∃ q ty, r = some (va_rf q) ∧ M.2.2.2.1 = some ty ∧ ((∃ n, ty = .object n) ∨ ∃ t, ty = .array t)
def Pk (cy : Nat → ClassId) (D : va_G) (ad : Nat → Nat) (h : PH) (sz : Nat) (U : State) : Prop := U.heap.size = sz ∧ va_P D vwCl (wd cy ad h) U.heap ∧ va_K D vwCl (ctys cy) U ∧ va_D (fun _ => True) (wd cy ad h) ∧ KC ad (va_A (wd cy ad h) sz) U U.heap
def Qk (cy : Nat → ClassId) (D : va_G) (ad : Nat → Nat) (h : PH) (sz : Nat) (r : Option Value) (h1 : PH) : Array Value → State → Outcome → State → Prop := fun _ st o t =>
  (∃ ad' : Nat → Nat, (∀ a, okr (hn h) a → ad' a = ad a) ∧ o = .returned (r.map (cv ad')) ∧ va_P D vwCl (wd cy ad' h1) t.heap ∧ va_D (va_A (wd cy ad h) sz) (wd cy ad' h1) ∧ okh h1 ∧ ∀ v, r = some v → okv (hn h1) v) ∧ va_F (va_A (wd cy ad h) sz) st t
/-- a method's own facts: n how many it takes (without its object) -/
def Mok (M : MR) (n : Nat) : Prop := M.2.2.2.2.cls = M.1 ∧ plainName M.1 = true ∧ (M.1 ≠ "java/lang/invoke/MethodHandle" ∧ M.1 ≠ "java/lang/invoke/VarHandle" ∧ (parseMethodDescriptor M.2.2.2.2.desc).map (fun d => d.parameters.length) = some n) ∧ Jvm.Cond.code M.2.2.2.2 M.2.1 M.2.2.1 M.2.2.2.1 ∈ Tg ∧ Jvm.Cond.initialized M.1 ∈ Tg
abbrev wsM (M : MR) : List Cond := Jvm.Cond.code M.2.2.2.2 M.2.1 M.2.2.1 M.2.2.2.1 :: Tg
theorem good_ws {M M2 : MR} {n : Nat} (hm : Mok M2 n) : GoodIn Tg (wsM M2) := by
  intro w hw
  rcases List.mem_cons.mp hw with e | e
  · subst e; exact ⟨hm.2.2.2.1, Tg_good hm.2.2.2.1⟩
  · exact ⟨e, Tg_good e⟩
theorem Met_of {l : Launch} {M : MR} {n d L : Nat} {args : List Value} {h h1 : PH} {r : Option Value} (hm : Mok M n) (hR : Rt M d L 0 (en M.2.2.1 args) [] h r h1) (hr : rok M r) (hc9 : ∀ v ∈ args, v.category = 1) (hoa : okS (hn h) args) (hl : args.length ≤ M.2.2.1) (ho : okh h) (cy : Nat → ClassId) (D : va_G) (ad : Nat → Nat) (sz : Nat) :
    Met l M.2.2.2.2 (wsM M) ({ frames := d, cells := hc h1 - hc h, slots := hs h1 - hs h, locals := L }) (va_Pc (args.map (cv ad)) (Pk cy D ad h sz)) (Qk cy D ad h sz r h1) (hc h1 - hc h) (hs h1 - hs h) (va_A (wd cy ad h) sz) := by
  refine Met.ofW (cc := M.2.1) (maxL := M.2.2.1) (ret := M.2.2.2.1) (by rw [hm.1]; exact hm.2.1) rfl ?_
  intro p e s m args9 below meth c s₁ B hml hv
  obtain ⟨rfl, hsz, hP, hK, hD0, hKC⟩ := hv
  have hts := atoms_spec (ws := wsM M) B.pre
  have hown : s.vm.findClass M.1 = some m.cls := by rw [← hm.1]; exact findClass_of_methodNamed B.named
  subst hsz
  have hD := hD0.self (sz := s.heap.size)
  have hlocks : meth.locks = false := B.notSynchronized
  have hC : Cx M cy D ad (va_A (wd cy ad h) s.heap.size) p s m (args.map (cv ad)).toArray meth c :=
    ⟨B.exec, B.bytes, hml, hown, fun w hw => hts w (List.mem_cons_of_mem _ hw), hlocks, B.returns, (name_of_methodNamed B.named B.method).1, hK, fun q hq => Or.inr hq, hKC⟩
  rw [lg_entry_eq]
  obtain ⟨k1, k2, k3, k4⟩ := hR
  have hw := k4 p l e (headSpec (wsM M) ({ frames := d, cells := hc h1 - hc h, slots := hs h1 - hs h, locals := L })).room s m (args.map (cv ad)).toArray below meth c cy D (va_A (wd cy ad h) s.heap.size) ad s.heap [] _ (hc h) (hs h) (MQ below (Qk cy D ad h s.heap.size r h1) (args.map (cv ad)).toArray s (hc h1 - hc h) (hs h1 - hs h) (va_A (wd cy ad h) s.heap.size)) hC
    (Nat.le_refl _) (Nat.le_refl _) (by show hc h1 ≤ hc h + (hc h1 - hc h); omega) (by show hs h1 ≤ hs h + (hs h1 - hs h); omega) (Nat.le_refl _) (Nat.le_refl _) ⟨hP, hD, va_S.rf, ho⟩ (PL_entry hc9 hoa hl) (fun v hv => by cases hv) ?_
  · rw [Nat.sub_self, Nat.sub_self] at hw
    exact hw
  · intro ad' H' locs' cls' pcE g1 g2 g3 g4 g5
    have hq : ∀ (t : State), t.heap = H' → Qk cy D ad h s.heap.size r h1 (args.map (cv ad)).toArray s (.returned (r.map (cv ad'))) t := fun t ht =>
      ⟨⟨ad', g1, rfl, by rw [ht]; exact g2.1, g2.2.1, g2.2.2.2, g4⟩, g2.2.2.1.F ht⟩
    rcases hr with ⟨rfl, e2⟩ | ⟨v, ty, rfl, e2⟩ | ⟨q, ty, rfl, e2, e3⟩
    · exact W.vret hC.1 hC.2.1 (hC.2.2.2.2.2.2.1.trans e2) (fun t ht hW => hq t ht) g2.2.2.1.2.2 g3
    · exact W.zret hC.1 hC.2.1 (hC.2.2.2.2.2.2.1.trans e2) (g3.2 ty e2) (fun t ht hW => hq t ht) g2.2.2.1.2.2 g3.1
    · cases q with
      | none => exact W.aret hC.1 hC.2.1 (hC.2.2.2.2.2.2.1.trans e2) e3 (Or.inl rfl) (fun t ht hW => hq t ht) g2.2.2.1.2.2 g3
      | some b => exact W.aret hC.1 hC.2.1 (hC.2.2.2.2.2.2.1.trans e2) e3 (Or.inr ⟨ad' b, rfl⟩) (fun t ht hW => hq t ht) g2.2.2.1.2.2 g3
theorem Pk_blind {cy : Nat → ClassId} {D : va_G} {ad : Nat → Nat} {h : PH} {sz : Nat} {av : List Value} : FrameBlind (va_Pc av (Pk cy D ad h sz)) := by
  intro a U g mk q
  obtain ⟨q0, q1, q2, q3, q4, q5⟩ := q
  exact ⟨q0, q1, q2, va_K.moved (u := U) (U := U.calling g mk a) (Vm.Alike.refl U.vm) q3, q4, KC.same (s := U) rfl q5⟩
theorem Pk_of {M : MR} {cy : Nat → ClassId} {D : va_G} {ad : Nat → Nat} {h : PH} {A : Nat → Prop} {p : Program} {s : State} {m : MethodId} {args : Array Value} {meth : Method} {c : Code} {H : Heap} {locs : List Loc} (hC : Cx M cy D ad A p s m args meth c) (hR : Rp cy D ad h A s.heap H locs) :
    (∀ q, va_A (wd cy ad h) H.size q → A q) ∧ ∀ U : State, U.heap = H → s.WarmedH U.vm → Pk cy D ad h H.size U := by
  have hA : ∀ q, va_A (wd cy ad h) H.size q → A q := by
    intro q hq
    rcases hq with ⟨k, e, hk⟩ | hq
    · exact hR.2.1.2 k _ hk
    · exact hC.2.2.2.2.2.2.2.2.2.1 q (Nat.le_trans hR.2.2.1.1 hq)
  refine ⟨hA, fun U hU hW => ⟨by rw [hU], by rw [hU]; exact hR.1, va_K.moved hW.alike hC.2.2.2.2.2.2.2.2.1, hR.2.1.weaken (fun _ _ _ _ => trivial), ?_⟩⟩
  rw [hU]
  exact KC.warm hW (KC.narrow (KC.kept hC.2.2.2.2.2.2.2.2.2.2 hR.2.2.1.2.1) hA)
/-- a call, by any of the roads: w gives the machine's own run of it -/
theorem Rt.call {M : MR} {d L pc : Nat} {ls : List (Option Value)} {st rest : List Value} {h h1 hE : PH} {r r' : Option Value} (m1 : hn h ≤ hn h1 ∧ hc h ≤ hc h1 ∧ hs h ≤ hs h1) (hrest : okS (hn h) st → okS (hn h) rest)
    (w : ∀ (p : Program) (l : Launch) (e : Env) (R : Room) (s : State) (m : MethodId) (args : Array Value) (below : List Frame) (meth : Method) (c : Code) (H : Heap) (locs : List Loc) (cells slots : Nat) (ad : Nat → Nat) (cls : Array Slot) (cy : Nat → ClassId) (D : va_G) (A : Nat → Prop),
      Cx M cy D ad A p s m args meth c → d ≤ R.frames → L ≤ R.locals → Rp cy D ad h A s.heap H locs → cls.size = M.2.2.1 → okS (hn h) st → cells + (hc h1 - hc h) ≤ R.cells ∧ slots + (hs h1 - hs h) ≤ R.slots →
      ∃ a9, va_Run p l e R s m args below meth c H locs cells slots (hc h1 - hc h) (hs h1 - hs h) (F0 m pc cls (st.map (cv ad))) (rest.map (cv ad)) (Qk cy D ad h H.size r h1 a9) (va_A (wd cy ad h) H.size))
    (k : Rt M d L (pc + 3) ls (r.toList ++ rest) h1 r' hE) : Rt M d L pc ls st h r' hE := by
  obtain ⟨k1, k2, k3, k4⟩ := k
  refine ⟨by omega, by omega, by omega, ?_⟩
  intro p l e R s m args below meth c cy D A ad H locs cls c0 s0 Qf hC hd hL b1 b2 b3 b4 hRp hP hS hEnd
  obtain ⟨a9, hw⟩ := w p l e R s m args below meth c H locs (hc h - c0) (hs h - s0) ad cls cy D A hC hd hL hRp hP.1 hS ⟨by omega, by omega⟩
  have hA := (Pk_of hC hRp).1
  intro T hT X
  obtain ⟨v, st₀, t, T', Lo, h0, X', hLo, e1, e2, ⟨⟨ad', g1, g2, g3, g4, g5, g6⟩, hz, hk⟩, stp⟩ := hw T hT X
  cases g2
  rw [h0] at hz hk
  have hrst := hrest hS
  have hR' : Rp cy D ad' h1 A s.heap T'.heap (locs ++ Lo) := by
    refine ⟨by rw [e1]; exact g3, g4.weaken (fun _ q _ hq => hA _ hq), ⟨Nat.le_trans hRp.2.2.1.1 (by rw [e1]; exact hz), fun q q1 q2 => ?_, fun q hq => ?_⟩, g5⟩
    · rw [e1, hk q (Nat.lt_of_lt_of_le q1 hRp.2.2.1.1) (fun z => q2 (hA q z))]
      exact hRp.2.2.1.2.1 q q1 q2
    · rcases List.mem_append.mp hq with x | x
      · exact hRp.2.2.1.2.2 q x
      · exact hA _ (hLo q x)
  have hP' : PL (hn h1) ad' M.2.2.1 ls cls := ⟨hP.1, hP.2.1, fun i v hv => ⟨(hP.2.2 i v hv).1, (hP.2.2 i v hv).2.1.mono m1.1, by rw [cv_ext g1 (hP.2.2 i v hv).2.1]; exact (hP.2.2 i v hv).2.2⟩⟩
  have hS' : okS (hn h1) (r.toList ++ rest) := by
    intro v hv
    rcases List.mem_append.mp hv with x | x
    · exact g6 v (by cases r with
        | none => cases x
        | some w => simp at x; rw [x])
    · exact (hrst v x).mono m1.1
  have hw2 := k4 p l e R s m args below meth c cy D A ad' T'.heap (locs ++ Lo) cls c0 s0 Qf (hC.ext g1) hd hL b1 b2 (Nat.le_trans b3 m1.2.1) (Nat.le_trans b4 m1.2.2) hR' hP' hS'
    (fun ad2 H2 locs2 cls2 pcE x1 x2 x3 x4 x5 => hEnd ad2 H2 locs2 cls2 pcE (fun a ha => (x1 a (ha.mono m1.1)).trans (g1 a ha)) x2 x3 x4 x5)
  have y1 : hc h1 - c0 = hc h - c0 + (hc h1 - hc h) := by omega
  have y2 : hs h1 - s0 = hs h - s0 + (hs h1 - hs h) := by omega
  have y3 : (r.toList ++ rest).map (cv ad') = (r.map (cv ad')).toList ++ rest.map (cv ad) := by
    rw [List.map_append]
    congr 1
    · cases r <;> rfl
    · exact List.map_congr_left (fun v hv => cv_ext g1 (hrst v hv))
  rw [y1, y2, y3] at hw2
  obtain ⟨t2, a1, b1⟩ := hw2 T' rfl X'
  exact ⟨t2, stp t2 a1, b1⟩
def LM (own : String) (idx : Nat) (y : MethodName) : Prop := Jvm.Cond.methodLink own idx y ∈ Tg ∨ ∃ host, Jvm.Cond.methodLinkNest own idx y host ∈ Tg
section CR
variable {M M2 : MR} {d L pc n idx d2 L2 : Nat} {ls : List (Option Value)} {st : List Value} {h : PH} {Q : Option Value → PH → Prop}
theorem w_callV {T2 : u_T} {N2 a : Nat} {As rest : List Value} (hd : decode M.2.1 pc = .ok (.invokevirtual idx, 3)) (hm : Mok M2 n) (hl : LM M.1 idx M2.2.2.2.2) (hi : Jvm.Cond.instanceMethod M2.2.2.2.2 ∈ Tg) (hsl : Jvm.Cond.selects M2.1 M2.2.2.2.2 M2.2.2.2.2 ∈ Tg) (hini : Jvm.Cond.initialized M2.1 ∈ Tg) (hcl : vwCl[kd a]? = some (M2.1, T2, N2)) (hka : kd a < 11) (ha : a < hn h)
    (hst : st = As.reverse ++ .ref a :: rest) (hn9 : As.length = n) (hc9 : ∀ v ∈ As, v.category = 1) (hle : As.length + 1 ≤ M2.2.2.1) (hrs : (rest.map fun v => v.category).sum ≤ 8) (hd2 : d2 + 1 ≤ d) (hL2 : 8 + (M2.2.2.1 + 11) + L2 ≤ L)
    (kk : WP M2 d2 L2 0 (en M2.2.2.1 (.ref a :: As)) [] h (fun r h1 => rok M2 r ∧ WP M d L (pc + 3) ls (r.toList ++ rest) h1 Q)) : WP M d L pc ls st h Q := by
  obtain ⟨r, h1, hRt, hr, r', hE, hRt2, hQ⟩ := kk
  refine ⟨r', hE, ?_, hQ⟩
  have hoR : okS (hn h) st → okS (hn h) rest := fun ho v hv => ho v (by rw [hst]; exact List.mem_append_right _ (List.mem_cons_of_mem _ hv))
  have hoA : okS (hn h) st → okS (hn h) (.ref a :: As) := fun ho v hv => ho v (by
    rw [hst]
    rcases List.mem_cons.mp hv with e | e
    · exact List.mem_append_right _ (by rw [e]; exact List.mem_cons_self)
    · exact List.mem_append_left _ (List.mem_reverse.mpr e))
  refine Rt.call (r := r) (h1 := h1) ⟨hRt.1, hRt.2.1, hRt.2.2.1⟩ hoR (fun p l e R s m args below meth c H locs cells slots ad cls cy D A hC hdR hLR hRp hcs hS hf => ?_) hRt2
  have hMet := Met_of (l := l) hm hRt hr (fun v hv => by
    rcases List.mem_cons.mp hv with e | e
    · rw [e]; rfl
    · exact hc9 v e) (hoA hS) hle hRp.2.2.2 cy D ad H.size
  have hpre := (Pk_of hC hRp).2
  have hts := hC.2.2.2.2.1
  have hrc := va_recv hC.2.2.2.2.2.2.2.2.1 hRp.1 (ci := kd a) (q0 := a) hcl (by rw [wd_get ha, ce_o rfl hka])
  have hstk : (F0 m pc cls (st.map (cv ad))).stack = (As.map (cv ad)).reverse ++ .ref (ad a) :: rest.map (cv ad) := by
    show st.map (cv ad) = _
    rw [hst, List.map_append, List.map_reverse]; rfl
  have hrs' : 2 * (F0 m pc cls (st.map (cv ad))).monitorRoom + ((rest.map (cv ad)).map fun v => v.category).sum ≤ 8 := lv_room (by rw [List.map_map, show ((fun v : Value => v.category) ∘ cv ad) = fun v => v.category from funext (fun v => cv_cat ad v)]; exact hrs)
  have hPreV : PreV s H M2.1 (ad a) (va_Pc ((Value.ref a :: As).map (cv ad)) (Pk cy D ad h H.size)) (As.map (cv ad)) := ⟨Pk_blind, hrc, fun U hU hW => ⟨rfl, hpre U hU hW⟩⟩
  refine ⟨(Value.ref (ad a) :: As.map (cv ad)).toArray, ?_⟩
  have hcls : M2.2.2.2.2.cls = M2.1 := hm.1
  rcases hl with hl | ⟨host, hl⟩
  · refine va_runV (As := As.map (cv ad)) (C := M2.1) (bytes := M2.2.1) (maxL := M2.2.2.1) (ret := M2.2.2.2.1) (nL := M.2.2.1) (n := n) (index := idx) (own := M.1) (Ts := Tg) ⟨hC.1, hC.2.1, hC.2.2.1, hC.2.2.2.1, hts⟩ hMet ?_ hPreV rfl (by rw [List.length_map]; exact hn9) hcs hstk hrs' hd hf
    exact ⟨callB_of n hts (good_ws (M := M) hm) rfl rfl rfl (by rw [hcls]; exact hts _ hini) (hts _ hl) (by rw [hcls]; exact hm.2.2.1) ⟨Nat.le_trans hd2 hdR, Nat.le_trans hL2 hLR⟩, hts _ hi, hts _ hsl⟩
  · refine va_runVN (As := As.map (cv ad)) (C := M2.1) (host := host) (bytes := M2.2.1) (maxL := M2.2.2.1) (ret := M2.2.2.2.1) (nL := M.2.2.1) (n := n) (index := idx) (own := M.1) (Ts := Tg) ⟨hC.1, hC.2.1, hC.2.2.1, hC.2.2.2.1, hts⟩ hMet ?_ hPreV rfl (by rw [List.length_map]; exact hn9) hcs hstk hrs' hd hf
    exact ⟨va_cnB n hts (good_ws (M := M) hm) rfl rfl rfl (hts _ hl) (by rw [hcls]; exact hts _ hini) (by rw [hcls]; exact hm.2.2.1) ⟨Nat.le_trans hd2 hdR, Nat.le_trans hL2 hLR⟩, hts _ hi, hts _ hsl⟩
theorem w_callS {As rest : List Value} (hd : decode M.2.1 pc = .ok (.invokestatic idx, 3)) (hm : Mok M2 n) (hl : LM M.1 idx M2.2.2.2.2) (hi : Jvm.Cond.static M2.2.2.2.2 ∈ Tg) (hini : Jvm.Cond.initialized M2.1 ∈ Tg)
    (hst : st = As.reverse ++ rest) (hn9 : As.length = n) (hc9 : ∀ v ∈ As, v.category = 1) (hle : As.length ≤ M2.2.2.1) (hrs : (rest.map fun v => v.category).sum ≤ 8) (hd2 : d2 + 1 ≤ d) (hL2 : 8 + (M2.2.2.1 + 11) + L2 ≤ L)
    (kk : WP M2 d2 L2 0 (en M2.2.2.1 As) [] h (fun r h1 => rok M2 r ∧ WP M d L (pc + 3) ls (r.toList ++ rest) h1 Q)) : WP M d L pc ls st h Q := by
  obtain ⟨r, h1, hRt, hr, r', hE, hRt2, hQ⟩ := kk
  refine ⟨r', hE, ?_, hQ⟩
  have hoR : okS (hn h) st → okS (hn h) rest := fun ho v hv => ho v (by rw [hst]; exact List.mem_append_right _ hv)
  have hoA : okS (hn h) st → okS (hn h) As := fun ho v hv => ho v (by rw [hst]; exact List.mem_append_left _ (List.mem_reverse.mpr hv))
  refine Rt.call (r := r) (h1 := h1) ⟨hRt.1, hRt.2.1, hRt.2.2.1⟩ hoR (fun p l e R s m args below meth c H locs cells slots ad cls cy D A hC hdR hLR hRp hcs hS hf => ?_) hRt2
  have hMet := Met_of (l := l) hm hRt hr hc9 (hoA hS) hle hRp.2.2.2 cy D ad H.size
  have hpre := (Pk_of hC hRp).2
  have hts := hC.2.2.2.2.1
  have hstk : (F0 m pc cls (st.map (cv ad))).stack = (As.map (cv ad)).reverse ++ rest.map (cv ad) := by
    show st.map (cv ad) = _
    rw [hst, List.map_append, List.map_reverse]
  have hrs' : 2 * (F0 m pc cls (st.map (cv ad))).monitorRoom + ((rest.map (cv ad)).map fun v => v.category).sum ≤ 8 := lv_room (by rw [List.map_map, show ((fun v : Value => v.category) ∘ cv ad) = fun v => v.category from funext (fun v => cv_cat ad v)]; exact hrs)
  have hPreS : PreS s H (va_Pc (As.map (cv ad)) (Pk cy D ad h H.size)) (As.map (cv ad)) := ⟨Pk_blind, fun U hU hW => ⟨rfl, hpre U hU hW⟩⟩
  refine ⟨(As.map (cv ad)).toArray, ?_⟩
  have hcls : M2.2.2.2.2.cls = M2.1 := hm.1
  rcases hl with hl | ⟨host, hl⟩
  · refine va_runS (As := As.map (cv ad)) (bytes := M2.2.1) (maxL := M2.2.2.1) (ret := M2.2.2.2.1) (nL := M.2.2.1) (n := n) (index := idx) (own := M.1) (Ts := Tg) ⟨hC.1, hC.2.1, hC.2.2.1, hC.2.2.2.1, hts⟩ hMet ?_ hPreS rfl (by rw [List.length_map]; exact hn9) hcs hstk hrs' hd hf
    exact ⟨callB_of n hts (good_ws (M := M) hm) rfl rfl rfl (by rw [hcls]; exact hts _ hini) (hts _ hl) (by rw [hcls]; exact hm.2.2.1) ⟨Nat.le_trans hd2 hdR, Nat.le_trans hL2 hLR⟩, hts _ hi⟩
  · refine va_runSN (As := As.map (cv ad)) (host := host) (bytes := M2.2.1) (maxL := M2.2.2.1) (ret := M2.2.2.2.1) (nL := M.2.2.1) (n := n) (index := idx) (own := M.1) (Ts := Tg) ⟨hC.1, hC.2.1, hC.2.2.1, hC.2.2.2.1, hts⟩ hMet ?_ hPreS rfl (by rw [List.length_map]; exact hn9) hcs hstk hrs' hd hf
    exact ⟨va_cnB n hts (good_ws (M := M) hm) rfl rfl rfl (hts _ hl) (by rw [hcls]; exact hts _ hini) (by rw [hcls]; exact hm.2.2.1) ⟨Nat.le_trans hd2 hdR, Nat.le_trans hL2 hLR⟩, hts _ hi, trivial⟩
theorem w_callI {a : Nat} {As rest : List Value} (hd : decode M.2.1 pc = .ok (.invokespecial idx, 3)) (hm : Mok M2 n) (hl : LM M.1 idx M2.2.2.2.2) (hi : Jvm.Cond.instanceMethod M2.2.2.2.2 ∈ Tg) (hini : Jvm.Cond.initialized M2.1 ∈ Tg) (hnm : M2.2.2.2.2.name = "<init>") (hret : M2.2.2.2.1 = none)
    (hst : st = As.reverse ++ .ref a :: rest) (hn9 : As.length = n) (hc9 : ∀ v ∈ As, v.category = 1) (hle : As.length + 1 ≤ M2.2.2.1) (hrs : (rest.map fun v => v.category).sum ≤ 8) (hd2 : d2 + 1 ≤ d) (hL2 : 8 + (M2.2.2.1 + 11) + L2 ≤ L)
    (kk : WP M2 d2 L2 0 (en M2.2.2.1 (.ref a :: As)) [] h (fun r h1 => rok M2 r ∧ WP M d L (pc + 3) ls (r.toList ++ rest) h1 Q)) : WP M d L pc ls st h Q := by
  obtain ⟨r, h1, hRt, hr, r', hE, hRt2, hQ⟩ := kk
  refine ⟨r', hE, ?_, hQ⟩
  have hoR : okS (hn h) st → okS (hn h) rest := fun ho v hv => ho v (by rw [hst]; exact List.mem_append_right _ (List.mem_cons_of_mem _ hv))
  have hoA : okS (hn h) st → okS (hn h) (.ref a :: As) := fun ho v hv => ho v (by
    rw [hst]
    rcases List.mem_cons.mp hv with e | e
    · exact List.mem_append_right _ (by rw [e]; exact List.mem_cons_self)
    · exact List.mem_append_left _ (List.mem_reverse.mpr e))
  refine Rt.call (r := r) (h1 := h1) ⟨hRt.1, hRt.2.1, hRt.2.2.1⟩ hoR (fun p l e R s m args below meth c H locs cells slots ad cls cy D A hC hdR hLR hRp hcs hS hf => ?_) hRt2
  have hMet := Met_of (l := l) hm hRt hr (fun v hv => by
    rcases List.mem_cons.mp hv with e | e
    · rw [e]; rfl
    · exact hc9 v e) (hoA hS) hle hRp.2.2.2 cy D ad H.size
  have hpre := (Pk_of hC hRp).2
  have hts := hC.2.2.2.2.1
  have hstk : (F0 m pc cls (st.map (cv ad))).stack = (As.map (cv ad)).reverse ++ .ref (ad a) :: rest.map (cv ad) := by
    show st.map (cv ad) = _
    rw [hst, List.map_append, List.map_reverse]; rfl
  have hrs' : 2 * (F0 m pc cls (st.map (cv ad))).monitorRoom + ((rest.map (cv ad)).map fun v => v.category).sum ≤ 8 := lv_room (by rw [List.map_map, show ((fun v : Value => v.category) ∘ cv ad) = fun v => v.category from funext (fun v => cv_cat ad v)]; exact hrs)
  have hPreS : PreS s H (va_Pc ((Value.ref a :: As).map (cv ad)) (Pk cy D ad h H.size)) (.ref (ad a) :: As.map (cv ad)) := ⟨Pk_blind, fun U hU hW => ⟨rfl, hpre U hU hW⟩⟩
  refine ⟨(Value.ref (ad a) :: As.map (cv ad)).toArray, ?_⟩
  have hcls : M2.2.2.2.2.cls = M2.1 := hm.1
  have hws : wsM M2 = Jvm.Cond.code M2.2.2.2.2 M2.2.1 M2.2.2.1 none :: Tg := by rw [← hret]
  rcases hl with hl | ⟨host, hl⟩
  · refine va_runI (As := As.map (cv ad)) (bytes := M2.2.1) (maxL := M2.2.2.1) (nL := M.2.2.1) (n := n) (index := idx) (own := M.1) (Ts := Tg) ⟨hC.1, hC.2.1, hC.2.2.1, hC.2.2.2.1, hts⟩ hMet ?_ hPreS rfl (by rw [List.length_map]; exact hn9) hcs hstk hrs' hd hf
    exact cwI n hts (good_ws (M := M) hm) hws rfl rfl (by rw [hcls]; exact hts _ hini) (hts _ hl) (hts _ hi) hnm (by rw [hcls]; exact hm.2.2.1) ⟨Nat.le_trans hd2 hdR, Nat.le_trans hL2 hLR⟩
  · refine va_runIN (As := As.map (cv ad)) (host := host) (bytes := M2.2.1) (maxL := M2.2.2.1) (nL := M.2.2.1) (n := n) (index := idx) (own := M.1) (Ts := Tg) ⟨hC.1, hC.2.1, hC.2.2.1, hC.2.2.2.1, hts⟩ hMet ?_ hPreS rfl (by rw [List.length_map]; exact hn9) hcs hstk hrs' hd hf
    exact ⟨va_cnB n hts (good_ws (M := M) hm) hws rfl rfl (hts _ hl) (by rw [hcls]; exact hts _ hini) (by rw [hcls]; exact hm.2.2.1) ⟨Nat.le_trans hd2 hdR, Nat.le_trans hL2 hLR⟩, hnm, hts _ hi⟩
/-- Object's own constructor -/
theorem w_obj {a : Nat} (hd : decode M.2.1 pc = .ok (.invokespecial idx, 3)) (hw1 : Jvm.Cond.methodLink M.1 idx objectInit ∈ Tg) (hw2 : Jvm.Cond.instanceMethod objectInit ∈ Tg) (hw3 : Jvm.Cond.code objectInit ⟨#[0xb1]⟩ 1 none ∈ Tg) (hrs : (st.map fun v => v.category).sum ≤ 8) (hd2 : 1 ≤ d) (hL2 : 20 ≤ L)
    (kk : WP M d L (pc + 3) ls st h Q) : WP M d L pc ls (.ref a :: st) h Q := by
  obtain ⟨r, hE, ⟨k1, k2, k3, k4⟩, hQ⟩ := kk
  refine ⟨r, hE, ⟨k1, k2, k3, ?_⟩, hQ⟩
  intro p l e R s m args below meth c cy D A ad H locs cls c0 s0 Qf hC hd9 hL9 b1 b2 b3 b4 hRp hP hS hEnd
  have hts := hC.2.2.2.2.1
  have hrs' : 2 * (F0 m pc cls ((Value.ref a :: st).map (cv ad))).monitorRoom + ((st.map (cv ad)).map fun v => v.category).sum ≤ 8 := lv_room (by rw [List.map_map, show ((fun v : Value => v.category) ∘ cv ad) = fun v => v.category from funext (fun v => cv_cat ad v)]; exact hrs)
  refine W.objInit hC.1 hC.2.1 hC.2.2.2.1 (hts _ hw1) (hts _ hw2) (hts _ hw3) rfl (by rw [hC.2.2.1]; exact hP.1) rfl hd (Nat.le_trans hd2 hd9) (by omega) ?_
  exact k4 p l e R s m args below meth c cy D A ad H locs cls c0 s0 Qf hC hd9 hL9 b1 b2 b3 b4 hRp hP (okS.tl hS) hEnd
end CR
end
